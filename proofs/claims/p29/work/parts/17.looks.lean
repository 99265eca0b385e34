theorem zfs (P : Nat → Bool) (f d : Nat) : zfind P (f + 1) d = if P d = true then (d : Int) else zfind P f (d + 1) := rfl
def hwR (hs : Nat → Int) (wd : Nat → Nat → Int) (n : Nat) : Int := if 0 < hs 0 then mhigh hs wd (mvN wd (hs 0).toNat n (pT wd)) (hs 3) else -1
set_option maxHeartbeats 4000000 in
set_option maxRecDepth 100000 in
theorem k_X4_highWaterOn (lo d : Nat) (hd : 3 ≤ d) (J : Nat → Nat → Int) (G : Nat → Nat → Int64) (F : Nat → Nat → Option Nat) (hF : zFk F) {hs : Nat → Int} {wd : Nat → Nat → Int} (vh : vH J hs wd) (ok : hwOk hs wd) {n : Nat} (hn : n ≤ 1000) : zCt lo yX4_highWaterOn cX4_highWaterOn 3 (some .int) d 0 0 [.ref (lo + 0), .int (zI (n : Int))] 57 57 (zM J) G F (zDw [.int (zI (hwR hs wd n))] J G F) := by
  refine zCt.mk (by decide) (mv_X4_highWaterOn.2.2.2.1) (Nat.le_of_ble_eq_true rfl) ?_
  intro p l e s m args below meth c D cA X
  have hcf := ok.1
  unfold hOk at hcf
  have hJ3 : J 1 4 = hs 3 := vh.1 3 (by decide)
  have hJ13 : J 1 13 = hs 11 := vh.1 11 (by decide)
  have hJ0 : J 1 1 = hs 0 := vh.1 0 (by decide)
  have vb : vH (bsJ J 37 (hs 3) 1) hs wd := vH_bs vh (Or.inl rfl)
  have pk0 := psJ_ok vh ok (w := 37)
  have e3 : bsJ J 37 (hs 3) 1 37 3 = hs 3 := bsJ_3
  have e4 : decide (bsJ J 37 (hs 3) 1 37 4 = 1) = true := by rw [bsJ_4]; rfl
  have e4' : bsJ J 37 (hs 3) 1 37 4 = 0 ∨ bsJ J 37 (hs 3) 1 37 4 = 1 := Or.inr bsJ_4
  have loop : ∀ (q k : Nat), k + q = n → zG p l e { frames := d, cells := 0, slots := 0, locals := 35 * d } s m args below meth c D cA lo 3 0 0 (MQ below (zQ D cA lo 57 (zDw [.int (zI (hwR hs wd n))] J G F)) args s 0 0 (fun q => lo ≤ q)) 57 (zM (wkJ (bsJ J 37 (hs 3) 1) 37 (mvN wd (hs 0).toNat k (psJ J 37)) (hs 11))) G F [some (.ref (lo + 0)), some (.int (zI (n : Int))), some (.int (zI (k : Int)))] [] 9 := by
    intro q
    induction q with
    | zero =>
      intro k  hk
      obtain rfl : k = n := by omega
      refine zG_iload_n X dX4_highWaterOn_9 rfl ?_
      refine zG_iload_n X dX4_highWaterOn_10 rfl ?_
      refine zj_icmp_ge X dX4_highWaterOn_11 (tgt := 27) (by decide) (by first | decide | omega) (by first | decide | omega) (fun h_11 => ?_) (fun h_11 => ?_)
      · refine zG_aload_n X dX4_highWaterOn_27 rfl ?_
        refine zG_getR X dX4_highWaterOn_28 fl_X4_25 (by first | rfl | assumption) (by first | decide | omega) (by decide) rfl (by first | exact zF_at hF rfl rfl | assumption) ?_
        refine zj_callV1 (as2 := []) X (k_X2_firstHighWater lo (d - 1) (by omega) _ G F hF (Or.inl rfl) (vH_wk vb (by omega)) vW_wk ok (mvN_ok ok.2 (by omega) pk0 _) (by rw [e3]; omega) (by rw [e3]; omega)) dX4_highWaterOn_31 mv_X2_firstHighWater ml_X4_274 (by first | rfl | assumption) rfl (by first | decide | omega) rfl rfl (by show d - 1 + 1 ≤ d; omega) (by show 19 + 3 + 35 * (d - 1) ≤ 35 * (d); omega) (Nat.le_refl _) (Nat.le_refl _) (Nat.le_of_ble_eq_true rfl) ?_
        refine zG_iret X dX4_highWaterOn_34 rfl ?_
        exact zDw.of (by unfold hwR; rw [e3, mhigh_c5 ok (mvN_c5 ok.2 (by omega) (psJ_5 vh) k)]) (sameB_wk (sameB_bs (Or.inl rfl)) (Or.inl rfl))
      · exact absurd h_11 (by first | decide | omega)
    | succ q ih =>
      intro k  hk
      refine zG_iload_n X dX4_highWaterOn_9 rfl ?_
      refine zG_iload_n X dX4_highWaterOn_10 rfl ?_
      refine zj_icmp_ge X dX4_highWaterOn_11 (tgt := 27) (by decide) (by first | decide | omega) (by first | decide | omega) (fun h_11 => ?_) (fun h_11 => ?_)
      · exact absurd h_11 (by first | decide | omega)
      · refine zG_aload_n X dX4_highWaterOn_14 rfl ?_
        refine zG_getR X dX4_highWaterOn_15 fl_X4_25 (by first | rfl | assumption) (by first | decide | omega) (by decide) rfl (by first | exact zF_at hF rfl rfl | assumption) ?_
        refine zj_callV0 (as2 := []) X (k_move lo (d - 1) (by omega) _ G F hF (Or.inl rfl) vb ok (mvN_ok ok.2 (by omega) pk0 k) e4') dX4_highWaterOn_18 mv_X2_moveWheels ml_X4_206 (by first | rfl | assumption) rfl (by first | decide | omega) rfl rfl (by show d - 1 + 1 ≤ d; omega) (by show 19 + 4 + 35 * (d - 1) ≤ 35 * (d); omega) (Nat.le_refl _) (Nat.le_refl _) (Nat.le_of_ble_eq_true rfl) ?_
        rw [e4]
        refine zj_iinc X dX4_highWaterOn_21 rfl (by decide) rfl ?_
        refine zG_goto X dX4_highWaterOn_24 (tgt := 9) (by decide) ?_
        exact ih (k + 1) (by omega)
  refine zG_aload_n X dX4_highWaterOn_0 rfl ?_
  refine zG_getR X dX4_highWaterOn_1 fl_X4_25 (by first | rfl | assumption) (by first | decide | omega) (by decide) rfl (by first | exact zF_at hF rfl rfl | assumption) ?_
  refine zj_callV0 (as2 := []) X (k_X2_startToday lo (d - 1) J G F hF (Or.inl rfl)) dX4_highWaterOn_4 mv_X2_startToday ml_X4_163 (by first | rfl | assumption) rfl (by first | decide | omega) rfl rfl (by show d - 1 + 1 ≤ d; omega) (by show 19 + 2 + 35 * (d - 1) ≤ 35 * (d); omega) (Nat.le_refl _) (Nat.le_refl _) (Nat.le_of_ble_eq_true rfl) ?_
  rw [stJ_wk, hJ3, hJ13]
  refine zj_iconst X dX4_highWaterOn_7 ?_
  refine zG_istore_n X dX4_highWaterOn_8 (by decide) rfl ?_
  exact loop n 0 (by omega)
def mkR (hs : Nat → Int) (wd : Nat → Nat → Int) (sb : Nat → Bool) (n : Nat) : Int := fateN hs wd sb (hs 3) true n (pT wd, hs 11)
set_option maxHeartbeats 4000000 in
set_option maxRecDepth 100000 in
theorem k_X4_marketOn (lo d : Nat) (hd : 5 ≤ d) (J : Nat → Nat → Int) (G : Nat → Nat → Int64) (F : Nat → Nat → Option Nat) (hF : zFk F) {hs : Nat → Int} {wd : Nat → Nat → Int} (vh : vH J hs wd) (ok : hwOk hs wd) {n : Nat} (hn : n ≤ 1000) : zCt lo yX4_marketOn cX4_marketOn 3 (some .int) d 0 0 [.ref (lo + 0), .int (zI (n : Int))] 57 57 (zM J) G F (zDw [.int (zI (mkR hs wd (sbC G 1) n))] J G F) := by
  refine zCt.mk (by decide) (mv_X4_marketOn.2.2.2.1) (Nat.le_of_ble_eq_true rfl) ?_
  intro p l e s m args below meth c D cA X
  have hcf := ok.1
  unfold hOk at hcf
  have hJ3 : J 1 4 = hs 3 := vh.1 3 (by decide)
  have hJ13 : J 1 13 = hs 11 := vh.1 11 (by decide)
  have hJ0 : J 1 1 = hs 0 := vh.1 0 (by decide)
  have vb : vH (bsJ J 37 (hs 3) 1) hs wd := vH_bs vh (Or.inl rfl)
  have pk0 := psJ_ok vh ok (w := 37)
  have e3 : bsJ J 37 (hs 3) 1 37 3 = hs 3 := bsJ_3
  have e4 : decide (bsJ J 37 (hs 3) 1 37 4 = 1) = true := by rw [bsJ_4]; rfl
  have e4' : bsJ J 37 (hs 3) 1 37 4 = 0 ∨ bsJ J 37 (hs 3) 1 37 4 = 1 := Or.inr bsJ_4
  have loop : ∀ (q k : Nat), k + q = n → zG p l e { frames := d, cells := 0, slots := 0, locals := 35 * d } s m args below meth c D cA lo 3 0 0 (MQ below (zQ D cA lo 57 (zDw [.int (zI (mkR hs wd (sbC G 1) n))] J G F)) args s 0 0 (fun q => lo ≤ q)) 57 (zM (wkJ (bsJ J 37 (hs 3) 1) 37 (dayN hs wd (sbC G 1) (hs 3) true k (psJ J 37, hs 11)).1 (dayN hs wd (sbC G 1) (hs 3) true k (psJ J 37, hs 11)).2)) G F [some (.ref (lo + 0)), some (.int (zI (n : Int))), some (.int (zI (k : Int)))] [] 9 := by
    intro q
    induction q with
    | zero =>
      intro k  hk
      obtain rfl : k = n := by omega
      have hdn := dayN_ok (sb := sbC G 1) (lag := hs 3) (sk := true) (r := (psJ J 37, hs 11)) ok pk0 ⟨by omega, by omega⟩ k
      refine zG_iload_n X dX4_marketOn_9 rfl ?_
      refine zG_iload_n X dX4_marketOn_10 rfl ?_
      refine zj_icmp_ge X dX4_marketOn_11 (tgt := 28) (by decide) (by first | decide | omega) (by first | decide | omega) (fun h_11 => ?_) (fun h_11 => ?_)
      · refine zG_aload_n X dX4_marketOn_28 rfl ?_
        refine zG_getR X dX4_marketOn_29 fl_X4_25 (by first | rfl | assumption) (by first | decide | omega) (by decide) rfl (by first | exact zF_at hF rfl rfl | assumption) ?_
        refine zj_callV1 (as2 := []) X (k_X2_fateOfMarket lo (d - 1) (by omega) _ G F hF (Or.inl rfl) (vH_wk vb (by omega)) vW_wk ok hdn.1 (by rw [e3]; omega) (by rw [e3]; omega) hdn.2.1 hdn.2.2) dX4_marketOn_32 mv_X2_fateOfMarket ml_X4_277 (by first | rfl | assumption) rfl (by first | decide | omega) rfl rfl (by show d - 1 + 1 ≤ d; omega) (by show 19 + 1 + 35 * (d - 1) ≤ 35 * (d); omega) (Nat.le_refl _) (Nat.le_refl _) (Nat.le_of_ble_eq_true rfl) ?_
        refine zG_iret X dX4_marketOn_35 rfl ?_
        exact zDw.of (by rw [e3]; exact congrArg (fun z => [Value.int (zI z)]) (fateN_c5 ok (psJ_5 vh) k)) (sameB_wk (sameB_bs (Or.inl rfl)) (Or.inl rfl))
      · exact absurd h_11 (by first | decide | omega)
    | succ q ih =>
      intro k  hk
      have hdn := dayN_ok (sb := sbC G 1) (lag := hs 3) (sk := true) (r := (psJ J 37, hs 11)) ok pk0 ⟨by omega, by omega⟩ k
      refine zG_iload_n X dX4_marketOn_9 rfl ?_
      refine zG_iload_n X dX4_marketOn_10 rfl ?_
      refine zj_icmp_ge X dX4_marketOn_11 (tgt := 28) (by decide) (by first | decide | omega) (by first | decide | omega) (fun h_11 => ?_) (fun h_11 => ?_)
      · exact absurd h_11 (by first | decide | omega)
      · refine zG_aload_n X dX4_marketOn_14 rfl ?_
        refine zG_getR X dX4_marketOn_15 fl_X4_25 (by first | rfl | assumption) (by first | decide | omega) (by decide) rfl (by first | exact zF_at hF rfl rfl | assumption) ?_
        refine zj_callV1 (as2 := []) X (k_live lo (d - 1) (by omega) (bsJ J 37 (hs 3) 1) G F hF (Or.inl rfl) vb ok hdn.1 (by rw [e3]; omega) (by rw [e3]; omega) e4' hdn.2.1 hdn.2.2) dX4_marketOn_18 mv_X2_liveDay ml_X4_166 (by first | rfl | assumption) rfl (by first | decide | omega) rfl rfl (by show d - 1 + 1 ≤ d; omega) (by show 19 + 2 + 35 * (d - 1) ≤ 35 * (d); omega) (Nat.le_refl _) (Nat.le_refl _) (Nat.le_of_ble_eq_true rfl) ?_
        rw [e3, e4]
        refine zG_pop X dX4_marketOn_21 rfl ?_
        refine zj_iinc X dX4_marketOn_22 rfl (by decide) rfl ?_
        refine zG_goto X dX4_marketOn_25 (tgt := 9) (by decide) ?_
        exact ih (k + 1) (by omega)
  refine zG_aload_n X dX4_marketOn_0 rfl ?_
  refine zG_getR X dX4_marketOn_1 fl_X4_25 (by first | rfl | assumption) (by first | decide | omega) (by decide) rfl (by first | exact zF_at hF rfl rfl | assumption) ?_
  refine zj_callV0 (as2 := []) X (k_X2_startToday lo (d - 1) J G F hF (Or.inl rfl)) dX4_marketOn_4 mv_X2_startToday ml_X4_163 (by first | rfl | assumption) rfl (by first | decide | omega) rfl rfl (by show d - 1 + 1 ≤ d; omega) (by show 19 + 2 + 35 * (d - 1) ≤ 35 * (d); omega) (Nat.le_refl _) (Nat.le_refl _) (Nat.le_of_ble_eq_true rfl) ?_
  rw [stJ_wk, hJ3, hJ13]
  refine zj_iconst X dX4_marketOn_7 ?_
  refine zG_istore_n X dX4_marketOn_8 (by decide) rfl ?_
  exact loop n 0 (by omega)
def nmP (hs : Nat → Int) (wd : Nat → Nat → Int) (sb : Nat → Bool) (n : Nat) : Bool := decide (mkR hs wd sb n = 1)
set_option maxHeartbeats 4000000 in
set_option maxRecDepth 100000 in
theorem k_X4_nextMarket (lo d : Nat) (hd : 5 ≤ d) (J : Nat → Nat → Int) (G : Nat → Nat → Int64) (F : Nat → Nat → Option Nat) (hF : zFk F) {hs : Nat → Int} {wd : Nat → Nat → Int} (vh : vH J hs wd) (ok : hwOk hs wd) {N : Nat} (hN : N = 2001) : zCt lo yX4_nextMarket cX4_nextMarket 2 (some .int) d 0 0 [.ref (lo + 0)] 57 57 (zM J) G F (zDw [.int (zI (zfind (nmP hs wd (sbC G 1)) N 0))] J G F) := by
  refine zCt.mk (by decide) (mv_X4_nextMarket.2.2.2.1) (Nat.le_of_ble_eq_true rfl) ?_
  intro p l e s m args below meth c D cA X
  have hcf := ok.1
  unfold hOk at hcf
  have hJ3 : J 1 4 = hs 3 := vh.1 3 (by decide)
  have hJ13 : J 1 13 = hs 11 := vh.1 11 (by decide)
  have hJ0 : J 1 1 = hs 0 := vh.1 0 (by decide)
  have vb : vH (bsJ J 37 (hs 3) 1) hs wd := vH_bs vh (Or.inl rfl)
  have pk0 := psJ_ok vh ok (w := 37)
  have e3 : bsJ J 37 (hs 3) 1 37 3 = hs 3 := bsJ_3
  have e4 : decide (bsJ J 37 (hs 3) 1 37 4 = 1) = true := by rw [bsJ_4]; rfl
  have e4' : bsJ J 37 (hs 3) 1 37 4 = 0 ∨ bsJ J 37 (hs 3) 1 37 4 = 1 := Or.inr bsJ_4
  have loop : ∀ (q k : Nat) (hall : zfind (nmP hs wd (sbC G 1)) N 0 = zfind (nmP hs wd (sbC G 1)) q k), k + q = N → zG p l e { frames := d, cells := 0, slots := 0, locals := 35 * d } s m args below meth c D cA lo 2 0 0 (MQ below (zQ D cA lo 57 (zDw [.int (zI (zfind (nmP hs wd (sbC G 1)) N 0))] J G F)) args s 0 0 (fun q => lo ≤ q)) 57 (zM (wkJ (bsJ J 37 (hs 3) 1) 37 (dayN hs wd (sbC G 1) (hs 3) true k (psJ J 37, hs 11)).1 (dayN hs wd (sbC G 1) (hs 3) true k (psJ J 37, hs 11)).2)) G F [some (.ref (lo + 0)), some (.int (zI (k : Int)))] [] 9 := by
    intro q
    induction q with
    | zero =>
      intro k hall hk
      refine zG_iload_n X dX4_nextMarket_9 rfl ?_
      refine zj_sipush X dX4_nextMarket_10 (by decide) ?_
      refine zj_icmp_gt X dX4_nextMarket_13 (tgt := 35) (by decide) (by first | decide | omega) (by first | decide | omega) (fun h_13 => ?_) (fun h_13 => ?_)
      · refine zj_iconst X dX4_nextMarket_35 ?_
        refine zG_iret X dX4_nextMarket_36 rfl ?_
        exact zDw.of (by rw [hall]; rfl) (sameB_wk (sameB_bs (Or.inl rfl)) (Or.inl rfl))
      · exact absurd h_13 (by first | decide | omega)
    | succ q ih =>
      intro k hall hk
      have hdn := dayN_ok (sb := sbC G 1) (lag := hs 3) (sk := true) (r := (psJ J 37, hs 11)) ok pk0 ⟨by omega, by omega⟩ k
      have hfe : mfate hs wd (sbC G 1) (dayN hs wd (sbC G 1) (hs 3) true k (psJ J 37, hs 11)).1 (hs 3) (dayN hs wd (sbC G 1) (hs 3) true k (psJ J 37, hs 11)).2 = mkR hs wd (sbC G 1) k := fateN_c5 ok (psJ_5 vh) k
      have hfi := mfate_in (hs := hs) (wd := wd) (sb := sbC G 1) (ps := (dayN hs wd (sbC G 1) (hs 3) true k (psJ J 37, hs 11)).1) (lag := hs 3) (wt := (dayN hs wd (sbC G 1) (hs 3) true k (psJ J 37, hs 11)).2)
      rw [zfs] at hall
      refine zG_iload_n X dX4_nextMarket_9 rfl ?_
      refine zj_sipush X dX4_nextMarket_10 (by decide) ?_
      refine zj_icmp_gt X dX4_nextMarket_13 (tgt := 35) (by decide) (by first | decide | omega) (by first | decide | omega) (fun h_13 => ?_) (fun h_13 => ?_)
      · exact absurd h_13 (by first | decide | omega)
      · refine zG_aload_n X dX4_nextMarket_16 rfl ?_
        refine zG_getR X dX4_nextMarket_17 fl_X4_25 (by first | rfl | assumption) (by first | decide | omega) (by decide) rfl (by first | exact zF_at hF rfl rfl | assumption) ?_
        refine zj_callV1 (as2 := []) X (k_live lo (d - 1) (by omega) (bsJ J 37 (hs 3) 1) G F hF (Or.inl rfl) vb ok hdn.1 (by rw [e3]; omega) (by rw [e3]; omega) e4' hdn.2.1 hdn.2.2) dX4_nextMarket_20 mv_X2_liveDay ml_X4_166 (by first | rfl | assumption) rfl (by first | decide | omega) rfl rfl (by show d - 1 + 1 ≤ d; omega) (by show 19 + 2 + 35 * (d - 1) ≤ 35 * (d); omega) (Nat.le_refl _) (Nat.le_refl _) (Nat.le_of_ble_eq_true rfl) ?_
        rw [e3, e4]
        refine zj_iconst X dX4_nextMarket_23 ?_
        refine zj_icmp_ne X dX4_nextMarket_24 (tgt := 29) (by decide) (by first | decide | omega) (by first | decide | omega) (fun h_24 => ?_) (fun h_24 => ?_)
        · refine zj_iinc X dX4_nextMarket_29 rfl (by decide) rfl ?_
          refine zG_goto X dX4_nextMarket_32 (tgt := 9) (by decide) ?_
          have h7 := hall.trans (if_neg (fun z => h_24 (hfe.trans (of_decide_eq_true z))))
          exact ih (k + 1) h7 (by omega)
        · refine zG_iload_n X dX4_nextMarket_27 rfl ?_
          refine zG_iret X dX4_nextMarket_28 rfl ?_
          exact zDw.of (by rw [hall, if_pos (show nmP hs wd (sbC G 1) k = true from decide_eq_true (hfe.symm.trans h_24))]) (sameB_wk (sameB_bs (Or.inl rfl)) (Or.inl rfl))
  refine zG_aload_n X dX4_nextMarket_0 rfl ?_
  refine zG_getR X dX4_nextMarket_1 fl_X4_25 (by first | rfl | assumption) (by first | decide | omega) (by decide) rfl (by first | exact zF_at hF rfl rfl | assumption) ?_
  refine zj_callV0 (as2 := []) X (k_X2_startToday lo (d - 1) J G F hF (Or.inl rfl)) dX4_nextMarket_4 mv_X2_startToday ml_X4_163 (by first | rfl | assumption) rfl (by first | decide | omega) rfl rfl (by show d - 1 + 1 ≤ d; omega) (by show 19 + 2 + 35 * (d - 1) ≤ 35 * (d); omega) (Nat.le_refl _) (Nat.le_refl _) (Nat.le_of_ble_eq_true rfl) ?_
  rw [stJ_wk, hJ3, hJ13]
  refine zj_iconst X dX4_nextMarket_7 ?_
  refine zG_istore_n X dX4_nextMarket_8 (by decide) rfl ?_
  exact loop N 0 rfl (by omega)
def cbP (hs : Nat → Int) (wd : Nat → Nat → Int) (n : Nat) : Bool := decide (∀ k, k < (hs 0).toNat → mvN wd (hs 0).toNat n (pT wd) k = wd k 1)
def cbR (hs : Nat → Int) (wd : Nat → Nat → Int) (N : Nat) : Int := if hs 0 = 0 then -1 else zfind (cbP hs wd) N 1
set_option maxHeartbeats 4000000 in
set_option maxRecDepth 100000 in
theorem k_X4_comesBack (lo d : Nat) (hd : 3 ≤ d) (J : Nat → Nat → Int) (G : Nat → Nat → Int64) (F : Nat → Nat → Option Nat) (hF : zFk F) {hs : Nat → Int} {wd : Nat → Nat → Int} (vh : vH J hs wd) (ok : hwOk hs wd) {N : Nat} (hN : N = 30000) : zCt lo yX4_comesBack cX4_comesBack 2 (some .int) d 0 0 [.ref (lo + 0)] 57 57 (zM J) G F (zDw [.int (zI (cbR hs wd N))] J G F) := by
  refine zCt.mk (by decide) (mv_X4_comesBack.2.2.2.1) (Nat.le_of_ble_eq_true rfl) ?_
  intro p l e s m args below meth c D cA X
  have hcf := ok.1
  unfold hOk at hcf
  have hJ3 : J 1 4 = hs 3 := vh.1 3 (by decide)
  have hJ13 : J 1 13 = hs 11 := vh.1 11 (by decide)
  have hJ0 : J 1 1 = hs 0 := vh.1 0 (by decide)
  have vb : vH (bsJ J 37 (hs 3) 1) hs wd := vH_bs vh (Or.inl rfl)
  have pk0 := psJ_ok vh ok (w := 37)
  have e3 : bsJ J 37 (hs 3) 1 37 3 = hs 3 := bsJ_3
  have e4 : decide (bsJ J 37 (hs 3) 1 37 4 = 1) = true := by rw [bsJ_4]; rfl
  have e4' : bsJ J 37 (hs 3) 1 37 4 = 0 ∨ bsJ J 37 (hs 3) 1 37 4 = 1 := Or.inr bsJ_4
  have loop : ∀ (q k : Nat) (hall : cbR hs wd N = zfind (cbP hs wd) q (k + 1)), k + q = N → zG p l e { frames := d, cells := 0, slots := 0, locals := 35 * d } s m args below meth c D cA lo 2 0 0 (MQ below (zQ D cA lo 57 (zDw [.int (zI (cbR hs wd N))] J G F)) args s 0 0 (fun q => lo ≤ q)) 57 (zM (wkJ (bsJ J 37 (hs 3) 1) 37 (mvN wd (hs 0).toNat k (psJ J 37)) (hs 11))) G F [some (.ref (lo + 0)), some (.int (zI ((k : Int) + 1)))] [] 21 := by
    intro q
    induction q with
    | zero =>
      intro k hall hk
      refine zG_iload_n X dX4_comesBack_21 rfl ?_
      refine zj_sipush X dX4_comesBack_22 (by decide) ?_
      refine zj_icmp_gt X dX4_comesBack_25 (tgt := 53) (by decide) (by first | decide | omega) (by first | decide | omega) (fun h_25 => ?_) (fun h_25 => ?_)
      · refine zj_iconst X dX4_comesBack_53 ?_
        refine zG_iret X dX4_comesBack_54 rfl ?_
        exact zDw.of (by rw [hall]; rfl) (sameB_wk (sameB_bs (Or.inl rfl)) (Or.inl rfl))
      · exact absurd h_25 (by first | decide | omega)
    | succ q ih =>
      intro k hall hk
      have hcc : cbP hs wd (k + 1) = true ↔ (∀ j, j < (hs 0).toNat → mvN wd (hs 0).toNat (k + 1) (psJ J 37) j = wd j 1) := by
        unfold cbP
        rw [decide_eq_true_iff]
        have h5 := mvN_c5 ok.2 (show (hs 0).toNat ≤ 5 by omega) (psJ_5 vh (w := 37)) (k + 1)
        exact ⟨fun z j hj => by rw [h5 j (by omega)]; exact z j hj, fun z j hj => by rw [← h5 j (by omega)]; exact z j hj⟩
      rw [zfs] at hall
      refine zG_iload_n X dX4_comesBack_21 rfl ?_
      refine zj_sipush X dX4_comesBack_22 (by decide) ?_
      refine zj_icmp_gt X dX4_comesBack_25 (tgt := 53) (by decide) (by first | decide | omega) (by first | decide | omega) (fun h_25 => ?_) (fun h_25 => ?_)
      · exact absurd h_25 (by first | decide | omega)
      · refine zG_aload_n X dX4_comesBack_28 rfl ?_
        refine zG_getR X dX4_comesBack_29 fl_X4_25 (by first | rfl | assumption) (by first | decide | omega) (by decide) rfl (by first | exact zF_at hF rfl rfl | assumption) ?_
        refine zj_callV0 (as2 := []) X (k_move lo (d - 1) (by omega) _ G F hF (Or.inl rfl) vb ok (mvN_ok ok.2 (by omega) pk0 k) e4') dX4_comesBack_32 mv_X2_moveWheels ml_X4_206 (by first | rfl | assumption) rfl (by first | decide | omega) rfl rfl (by show d - 1 + 1 ≤ d; omega) (by show 19 + 4 + 35 * (d - 1) ≤ 35 * (d); omega) (Nat.le_refl _) (Nat.le_refl _) (Nat.le_of_ble_eq_true rfl) ?_
        rw [e4]
        refine zG_aload_n X dX4_comesBack_35 rfl ?_
        refine zG_getR X dX4_comesBack_36 fl_X4_25 (by first | rfl | assumption) (by first | decide | omega) (by decide) rfl (by first | exact zF_at hF rfl rfl | assumption) ?_
        refine zj_callV1 (as2 := []) X (k_asToday lo (d - 1) (by omega) (bsJ J 37 (hs 3) 1) G F hF (ps := mvN wd (hs 0).toNat (k + 1) (psJ J 37)) (wt := hs 11) vb ok (mvN_ok ok.2 (by omega) pk0 (k + 1))) dX4_comesBack_39 mv_X2_isAsToday ml_X4_223 (by first | rfl | assumption) rfl (by first | decide | omega) rfl rfl (by show d - 1 + 1 ≤ d; omega) (by show 19 + 2 + 35 * (d - 1) ≤ 35 * (d); omega) (Nat.le_refl _) (Nat.le_refl _) (Nat.le_of_ble_eq_true rfl) ?_
        by_cases hb : ∀ j, j < (hs 0).toNat → mvN wd (hs 0).toNat (k + 1) (psJ J 37) j = wd j 1
        · rw [if_pos hb]
          refine zj_if_eq X dX4_comesBack_42 (tgt := 47) (by decide) (by first | decide | omega) (fun h_42 => ?_) (fun h_42 => ?_)
          · exact absurd h_42 (by first | decide | omega)
          · refine zG_iload_n X dX4_comesBack_45 rfl ?_
            refine zG_iret X dX4_comesBack_46 rfl ?_
            exact zDw.of (by rw [hall, if_pos (hcc.mpr hb)]; rfl) (sameB_wk (sameB_bs (Or.inl rfl)) (Or.inl rfl))
        · rw [if_neg hb]
          refine zj_if_eq X dX4_comesBack_42 (tgt := 47) (by decide) (by first | decide | omega) (fun h_42 => ?_) (fun h_42 => ?_)
          · refine zj_iinc X dX4_comesBack_47 rfl (by decide) rfl ?_
            refine zG_goto X dX4_comesBack_50 (tgt := 21) (by decide) ?_
            exact ih (k + 1) (by rw [hall, if_neg (fun z => hb (hcc.mp z))]) (by omega)
          · exact absurd h_42 (by first | decide | omega)
  refine zG_aload_n X dX4_comesBack_0 rfl ?_
  refine zG_getR X dX4_comesBack_1 fl_X4_10 (by first | rfl | assumption) (by first | decide | omega) (by decide) rfl (by first | exact zF_at hF rfl rfl | assumption) ?_
  refine zj_getv (v := hs 0) X dX4_comesBack_4 fl_X4_50 (by first | rfl | assumption) (by first | decide | omega) (by decide) rfl (hJ0) ?_
  refine zj_if_ne X dX4_comesBack_7 (tgt := 12) (by decide) (by first | decide | omega) (fun h_7 => ?_) (fun h_7 => ?_)
  · refine zG_aload_n X dX4_comesBack_12 rfl ?_
    refine zG_getR X dX4_comesBack_13 fl_X4_25 (by first | rfl | assumption) (by first | decide | omega) (by decide) rfl (by first | exact zF_at hF rfl rfl | assumption) ?_
    refine zj_callV0 (as2 := []) X (k_X2_startToday lo (d - 1) J G F hF (Or.inl rfl)) dX4_comesBack_16 mv_X2_startToday ml_X4_163 (by first | rfl | assumption) rfl (by first | decide | omega) rfl rfl (by show d - 1 + 1 ≤ d; omega) (by show 19 + 2 + 35 * (d - 1) ≤ 35 * (d); omega) (Nat.le_refl _) (Nat.le_refl _) (Nat.le_of_ble_eq_true rfl) ?_
    rw [stJ_wk, hJ3, hJ13]
    refine zj_iconst X dX4_comesBack_19 ?_
    refine zG_istore_n X dX4_comesBack_20 (by decide) rfl ?_
    exact loop N 0 (by unfold cbR; rw [if_neg h_7]) (by omega)
  · refine zj_iconst X dX4_comesBack_10 ?_
    refine zG_iret X dX4_comesBack_11 rfl ?_
    exact zDw.of (by unfold cbR; rw [if_pos h_7]) sameB_rf
def dhR (hs : Nat → Int) (wd : Nat → Nat → Int) (sb : Nat → Bool) (lag : Int) (n : Nat) : Int := zcnt (fun k => decide (fateN hs wd sb lag true k (pT wd, hs 11) > 1)) n
theorem bs_lag {J : Nat → Nat → Int} {lag u : Int} {ps : Nat → Int} {wt : Int} : zup (wkJ (bsJ J 37 lag 1) 37 ps wt) 37 3 u = wkJ (bsJ J 37 u 1) 37 ps wt := by
  funext a i
  by_cases h1 : a = 37
  · subst h1
    by_cases h3 : i = 3
    · subst h3; simp [wkJ, bsJ, zup, upr]
    · simp [wkJ, bsJ, zup, upr, h3]
  · simp [wkJ, bsJ, zup, upr, h1]
theorem zcs (P : Nat → Bool) (n : Nat) : zcnt P (n + 1) = zcnt P n + if P n = true then 1 else 0 := rfl
set_option maxHeartbeats 4000000 in
set_option maxRecDepth 100000 in
theorem k_X4_daysHindered (lo d : Nat) (hd : 5 ≤ d) (J : Nat → Nat → Int) (G : Nat → Nat → Int64) (F : Nat → Nat → Option Nat) (hF : zFk F) {hs : Nat → Int} {wd : Nat → Nat → Int} (vh : vH J hs wd) (ok : hwOk hs wd) {u : Int} (u1 : 0 ≤ u) (u2 : u < 720) {n : Nat} (hn : n ≤ 200) : zCt lo yX4_daysHindered cX4_daysHindered 6 (some .int) d 0 0 [.ref (lo + 0), .int (zI u), .int (zI (n : Int))] 57 57 (zM J) G F (zDw [.int (zI (dhR hs wd (sbC G 1) u n))] J G F) := by
  refine zCt.mk (by decide) (mv_X4_daysHindered.2.2.2.1) (Nat.le_of_ble_eq_true rfl) ?_
  intro p l e s m args below meth c D cA X
  have hcf := ok.1
  unfold hOk at hcf
  have hJ3 : J 1 4 = hs 3 := vh.1 3 (by decide)
  have hJ13 : J 1 13 = hs 11 := vh.1 11 (by decide)
  have hJ0 : J 1 1 = hs 0 := vh.1 0 (by decide)
  have vb : vH (bsJ J 37 u 1) hs wd := vH_bs vh (Or.inl rfl)
  have pk0 := psJ_ok vh ok (w := 37)
  have e3 : bsJ J 37 u 1 37 3 = u := bsJ_3
  have e4 : decide (bsJ J 37 u 1 37 4 = 1) = true := by rw [bsJ_4]; rfl
  have e4' : bsJ J 37 u 1 37 4 = 0 ∨ bsJ J 37 u 1 37 4 = 1 := Or.inr bsJ_4
  have loop : ∀ (q k : Nat), k + q = n → zG p l e { frames := d, cells := 0, slots := 0, locals := 35 * d } s m args below meth c D cA lo 6 0 0 (MQ below (zQ D cA lo 57 (zDw [.int (zI (dhR hs wd (sbC G 1) u n))] J G F)) args s 0 0 (fun q => lo ≤ q)) 57 (zM (wkJ (bsJ J 37 u 1) 37 (dayN hs wd (sbC G 1) u true k (psJ J 37, hs 11)).1 (dayN hs wd (sbC G 1) u true k (psJ J 37, hs 11)).2)) G F [some (.ref (lo + 0)), some (.int (zI u)), some (.int (zI (n : Int))), some (.int (zI (zcnt (fun k => decide (fateN hs wd (sbC G 1) u true k (pT wd, hs 11) > 1)) k))), some (.int (zI (k : Int))), none] [] 20 := by
    intro q
    induction q with
    | zero =>
      intro k  hk
      obtain rfl : k = n := by omega
      refine zG_iload X dX4_daysHindered_20 rfl ?_
      refine zG_iload_n X dX4_daysHindered_22 rfl ?_
      refine zj_icmp_ge X dX4_daysHindered_23 (tgt := 56) (by decide) (by first | decide | omega) (by first | decide | omega) (fun h_23 => ?_) (fun h_23 => ?_)
      · refine zG_iload_n X dX4_daysHindered_56 rfl ?_
        refine zG_iret X dX4_daysHindered_57 rfl ?_
        exact zDw.of rfl (sameB_wk (sameB_bs (Or.inl rfl)) (Or.inl rfl))
      · exact absurd h_23 (by first | decide | omega)
    | succ q ih =>
      intro k  hk
      have hzc := zcnt_in (fun k => decide (fateN hs wd (sbC G 1) u true k (pT wd, hs 11) > 1)) k
      have hdn := dayN_ok (sb := sbC G 1) (lag := u) (sk := true) (r := (psJ J 37, hs 11)) ok pk0 ⟨by omega, by omega⟩ k
      have hfe : mfate hs wd (sbC G 1) (dayN hs wd (sbC G 1) u true k (psJ J 37, hs 11)).1 u (dayN hs wd (sbC G 1) u true k (psJ J 37, hs 11)).2 = fateN hs wd (sbC G 1) u true k (pT wd, hs 11) := fateN_c5 ok (psJ_5 vh) k
      have hfi := mfate_in (hs := hs) (wd := wd) (sb := sbC G 1) (ps := (dayN hs wd (sbC G 1) u true k (psJ J 37, hs 11)).1) (lag := u) (wt := (dayN hs wd (sbC G 1) u true k (psJ J 37, hs 11)).2)
      refine zG_iload X dX4_daysHindered_20 rfl ?_
      refine zG_iload_n X dX4_daysHindered_22 rfl ?_
      refine zj_icmp_ge X dX4_daysHindered_23 (tgt := 56) (by decide) (by first | decide | omega) (by first | decide | omega) (fun h_23 => ?_) (fun h_23 => ?_)
      · exact absurd h_23 (by first | decide | omega)
      · refine zG_aload_n X dX4_daysHindered_26 rfl ?_
        refine zG_getR X dX4_daysHindered_27 fl_X4_25 (by first | rfl | assumption) (by first | decide | omega) (by decide) rfl (by first | exact zF_at hF rfl rfl | assumption) ?_
        refine zj_callV1 (as2 := []) X (k_live lo (d - 1) (by omega) (bsJ J 37 u 1) G F hF (Or.inl rfl) vb ok hdn.1 (by rw [e3]; omega) (by rw [e3]; omega) e4' hdn.2.1 hdn.2.2) dX4_daysHindered_30 mv_X2_liveDay ml_X4_166 (by first | rfl | assumption) rfl (by first | decide | omega) rfl rfl (by show d - 1 + 1 ≤ d; omega) (by show 19 + 2 + 35 * (d - 1) ≤ 35 * (d); omega) (Nat.le_refl _) (Nat.le_refl _) (Nat.le_of_ble_eq_true rfl) ?_
        rw [e3, e4]
        refine zG_istore X dX4_daysHindered_33 (by decide) rfl ?_
        refine zG_iload X dX4_daysHindered_35 rfl ?_
        refine zj_iconst X dX4_daysHindered_37 ?_
        refine zj_icmp_eq X dX4_daysHindered_38 (tgt := 47) (by decide) (by first | decide | omega) (by first | decide | omega) (fun h_38 => ?_) (fun h_38 => ?_)
        · refine zj_iinc X dX4_daysHindered_47 rfl (by decide) rfl ?_
          refine zj_iinc X dX4_daysHindered_50 rfl (by decide) rfl ?_
          refine zG_goto X dX4_daysHindered_53 (tgt := 20) (by decide) ?_
          have hz := zcs (fun k => decide (fateN hs wd (sbC G 1) u true k (pT wd, hs 11) > 1)) k
          have hi := ih (k + 1) (by omega)
          by_cases hgt : mfate hs wd (sbC G 1) (dayN hs wd (sbC G 1) u true k (psJ J 37, hs 11)).1 u (dayN hs wd (sbC G 1) u true k (psJ J 37, hs 11)).2 > 1
          · rw [hz, if_pos (decide_eq_true (by rw [← hfe]; exact hgt))] at hi
            first
              | exact zG_sub (zle_some (zle_some (zle_some (zle_some (zle_some (zle_none zle_nil)))))) hi
              | (exfalso; omega)
          · rw [hz, if_neg (fun z => hgt (by rw [hfe]; exact of_decide_eq_true z)), Int.add_zero] at hi
            first
              | (exfalso; omega)
              | exact zG_sub (zle_some (zle_some (zle_some (zle_some (zle_some (zle_none zle_nil)))))) hi
        · refine zG_iload X dX4_daysHindered_41 rfl ?_
          refine zj_iconst X dX4_daysHindered_43 ?_
          refine zj_icmp_ne X dX4_daysHindered_44 (tgt := 50) (by decide) (by first | decide | omega) (by first | decide | omega) (fun h_44 => ?_) (fun h_44 => ?_)
          · refine zj_iinc X dX4_daysHindered_50 rfl (by decide) rfl ?_
            refine zG_goto X dX4_daysHindered_53 (tgt := 20) (by decide) ?_
            have hz := zcs (fun k => decide (fateN hs wd (sbC G 1) u true k (pT wd, hs 11) > 1)) k
            have hi := ih (k + 1) (by omega)
            by_cases hgt : mfate hs wd (sbC G 1) (dayN hs wd (sbC G 1) u true k (psJ J 37, hs 11)).1 u (dayN hs wd (sbC G 1) u true k (psJ J 37, hs 11)).2 > 1
            · rw [hz, if_pos (decide_eq_true (by rw [← hfe]; exact hgt))] at hi
              first
                | exact zG_sub (zle_some (zle_some (zle_some (zle_some (zle_some (zle_none zle_nil)))))) hi
                | (exfalso; omega)
            · rw [hz, if_neg (fun z => hgt (by rw [hfe]; exact of_decide_eq_true z)), Int.add_zero] at hi
              first
                | (exfalso; omega)
                | exact zG_sub (zle_some (zle_some (zle_some (zle_some (zle_some (zle_none zle_nil)))))) hi
          · refine zj_iinc X dX4_daysHindered_47 rfl (by decide) rfl ?_
            refine zj_iinc X dX4_daysHindered_50 rfl (by decide) rfl ?_
            refine zG_goto X dX4_daysHindered_53 (tgt := 20) (by decide) ?_
            have hz := zcs (fun k => decide (fateN hs wd (sbC G 1) u true k (pT wd, hs 11) > 1)) k
            have hi := ih (k + 1) (by omega)
            by_cases hgt : mfate hs wd (sbC G 1) (dayN hs wd (sbC G 1) u true k (psJ J 37, hs 11)).1 u (dayN hs wd (sbC G 1) u true k (psJ J 37, hs 11)).2 > 1
            · rw [hz, if_pos (decide_eq_true (by rw [← hfe]; exact hgt))] at hi
              first
                | exact zG_sub (zle_some (zle_some (zle_some (zle_some (zle_some (zle_none zle_nil)))))) hi
                | (exfalso; omega)
            · rw [hz, if_neg (fun z => hgt (by rw [hfe]; exact of_decide_eq_true z)), Int.add_zero] at hi
              first
                | (exfalso; omega)
                | exact zG_sub (zle_some (zle_some (zle_some (zle_some (zle_some (zle_none zle_nil)))))) hi
  refine zG_aload_n X dX4_daysHindered_0 rfl ?_
  refine zG_getR X dX4_daysHindered_1 fl_X4_25 (by first | rfl | assumption) (by first | decide | omega) (by decide) rfl (by first | exact zF_at hF rfl rfl | assumption) ?_
  refine zj_callV0 (as2 := []) X (k_X2_startToday lo (d - 1) J G F hF (Or.inl rfl)) dX4_daysHindered_4 mv_X2_startToday ml_X4_163 (by first | rfl | assumption) rfl (by first | decide | omega) rfl rfl (by show d - 1 + 1 ≤ d; omega) (by show 19 + 2 + 35 * (d - 1) ≤ 35 * (d); omega) (Nat.le_refl _) (Nat.le_refl _) (Nat.le_of_ble_eq_true rfl) ?_
  rw [stJ_wk, hJ3, hJ13]
  refine zG_aload_n X dX4_daysHindered_7 rfl ?_
  refine zG_getR X dX4_daysHindered_8 fl_X4_25 (by first | rfl | assumption) (by first | decide | omega) (by decide) rfl (by first | exact zF_at hF rfl rfl | assumption) ?_
  refine zG_iload_n X dX4_daysHindered_11 rfl ?_
  refine zj_put X dX4_daysHindered_12 fl_X4_280 (by first | rfl | assumption) (by first | decide | omega) (by decide) rfl rfl ?_
  rw [bs_lag]
  refine zj_iconst X dX4_daysHindered_15 ?_
  refine zG_istore_n X dX4_daysHindered_16 (by decide) rfl ?_
  refine zj_iconst X dX4_daysHindered_17 ?_
  refine zG_istore X dX4_daysHindered_18 (by decide) rfl ?_
  exact loop n 0 (by omega)
set_option maxHeartbeats 4000000 in
set_option maxRecDepth 100000 in
theorem k_X4_isSet (lo d : Nat) (J : Nat → Nat → Int) (G : Nat → Nat → Int64) (F : Nat → Nat → Option Nat) (hF : zFk F) {u : Int} (hu : zr u) (h1 : 0 ≤ J 1 1) (h2 : J 1 1 ≤ 5) : zCt lo yX4_isSet cX4_isSet 2 (some .boolean) d 0 0 [.ref (lo + 0), .int (zI u)] 57 57 (zM J) G F (zD [.int (zI (if 0 < u ∧ u < 2 ^ (J 1 1).toNat then 1 else 0))] J G F) := by
  refine zCt.mk (by decide) (mv_X4_isSet.2.2.2.1) (Nat.le_of_ble_eq_true rfl) ?_
  intro p l e s m args below meth c D cA X
  have hp : (2 : Int) ^ (J 1 1).toNat ≤ 32 := by
    have : (J 1 1).toNat = 0 ∨ (J 1 1).toNat = 1 ∨ (J 1 1).toNat = 2 ∨ (J 1 1).toNat = 3 ∨ (J 1 1).toNat = 4 ∨ (J 1 1).toNat = 5 := by omega
    rcases this with h | h | h | h | h | h <;> rw [h] <;> decide
  have hp0 : (0 : Int) < 2 ^ (J 1 1).toNat := Int.pow_pos (by decide)
  refine zG_iload_n X dX4_isSet_0 rfl ?_
  refine zj_if_le X dX4_isSet_1 (tgt := 21) (by decide) (by first | decide | omega) (fun h_1 => ?_) (fun h_1 => ?_)
  · refine zj_iconst X dX4_isSet_21 ?_
    refine zG_zret X dX4_isSet_22 rfl (by first | rfl | assumption) ?_
    exact zD.of (by (repeat' split) <;> first | rfl | omega) rfl rfl rfl
  · refine zG_iload_n X dX4_isSet_4 rfl ?_
    refine zj_iconst X dX4_isSet_5 ?_
    refine zG_aload_n X dX4_isSet_6 rfl ?_
    refine zG_getR X dX4_isSet_7 fl_X4_10 (by first | rfl | assumption) (by first | decide | omega) (by decide) rfl (by first | exact zF_at hF rfl rfl | assumption) ?_
    refine zj_get X dX4_isSet_10 fl_X4_50 (by first | rfl | assumption) (by first | decide | omega) (by decide) rfl ?_
    refine zj_ishl1 X dX4_isSet_13 (by omega) (by omega) ?_
    refine zj_icmp_ge X dX4_isSet_14 (tgt := 21) (by decide) (by first | decide | omega) (by first | decide | omega) (fun h_14 => ?_) (fun h_14 => ?_)
    · refine zj_iconst X dX4_isSet_21 ?_
      refine zG_zret X dX4_isSet_22 rfl (by first | rfl | assumption) ?_
      exact zD.of (by (repeat' split) <;> first | rfl | omega) rfl rfl rfl
    · refine zj_iconst X dX4_isSet_17 ?_
      refine zG_goto X dX4_isSet_18 (tgt := 22) (by decide) ?_
      refine zG_zret X dX4_isSet_22 rfl (by first | rfl | assumption) ?_
      exact zD.of (by (repeat' split) <;> first | rfl | omega) rfl rfl rfl
