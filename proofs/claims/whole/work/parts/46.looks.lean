/-! the Model's looks ahead -/
set_option maxHeartbeats 4000000 in
set_option maxRecDepth 100000 in
theorem k_X5_highOn (lo d : Nat) (hd : 3 ≤ d) (J : Nat → Nat → Int) (G : Nat → Nat → Int64) (F : Nat → Nat → Option Nat) (hF : zFk F) {hs : Nat → Int} {wd : Nat → Nat → Int} {sb : Nat → Bool} (mh : mH (J 51) hs wd sb) (ok : hwOk hs wd) {n : Nat} (hn : n ≤ 1000) : zCt lo yX5_highOn cX5_highOn 3 (some .int) d 0 0 [.ref (lo + 50), .int (zI (n : Int))] 57 57 (zM J) G F (zDm [.int (zI (hwR hs wd n))] J G F) := by
  refine zCt.mk (by decide) (mv_X5_highOn.2.2.2.1) (Nat.le_of_ble_eq_true rfl) ?_
  intro p l e s m args below meth c D cA X
  have hok := ok.1
  unfold hOk at hok
  have hc5 : (hs 0).toNat ≤ 5 := by omega
  have e0 := mh.1 0 (by decide)
  have po := pT_ok ok
  have vm := mV_H mh
  by_cases c0 : 0 < hs 0
  · have loop : ∀ (q k : Nat), k + q = n → zG p l e { frames := d, cells := 0, slots := 0, locals := 35 * d } s m args below meth c D cA lo 3 0 0 (MQ below (zQ D cA lo 57 (zDm [.int (zI (hwR hs wd n))] J G F)) args s 0 0 (fun q => lo ≤ q)) 57 (zM (upr (kpJ J) 51 (mvRN wd (hs 0).toNat (J 51) (pT wd) k))) G F [some (.ref (lo + 50)), some (.int (zI (n : Int))), some (.int (zI (k : Int)))] [] 17 := by
      intro q
      induction q with
      | zero =>
        intro k  hk
        have hM := mV_M (vm hc5) hc5 k
        have hq := mvN_ok ok.2 hc5 po k
        refine zG_iload_n X dX5_highOn_17 rfl ?_
        refine zG_iload_n X dX5_highOn_18 rfl ?_
        refine zj_icmp_ge X dX5_highOn_19 (tgt := 32) (by decide) (by first | decide | omega) (by first | decide | omega) (fun h_19 => ?_) (fun h_19 => ?_)
        · refine zG_aload_n X dX5_highOn_32 rfl ?_
          refine zj_callV1 (as2 := []) X (k_X5_firstHigh lo (d - 1) (by omega) (upr (kpJ J) 51 (mvRN wd (hs 0).toNat (J 51) (pT wd) k)) G F hF (ps := mvN wd (hs 0).toNat k (pT wd)) (lag := hs 3) (wt := hs 11) (sk := true) (by rw [show (upr (kpJ J) 51 (mvRN wd (hs 0).toNat (J 51) (pT wd) k)) 51 = mvRN wd (hs 0).toNat (J 51) (pT wd) k from funext (fun i => upr_eq)]; exact hM) ok hq (by omega) (by omega) (by omega) (by omega) c0) dX5_highOn_33 mv_X5_firstHigh ml_X5_79 (by first | rfl | assumption) rfl (by first | decide | omega) rfl rfl (by show d - 1 + 1 ≤ d; omega) (by show 19 + 1 + 35 * (d - 1) ≤ 35 * (d); omega) (Nat.le_of_ble_eq_true rfl) (Nat.le_of_ble_eq_true rfl) (Nat.le_of_ble_eq_true rfl) ?_
          refine zG_istore_n X dX5_highOn_36 (by decide) rfl ?_
          refine zG_aload_n X dX5_highOn_37 rfl ?_
          refine zj_callV0 (as2 := []) X (k_X5_takesBack lo (d - 1) (upr (kpJ J) 51 (mvRN wd (hs 0).toNat (J 51) (pT wd) k)) G F hF) dX5_highOn_38 mv_X5_takesBack ml_X5_111 (by first | rfl | assumption) rfl (by first | decide | omega) rfl rfl (by show d - 1 + 1 ≤ d; omega) (by show 19 + 2 + 35 * (d - 1) ≤ 35 * (d); omega) (Nat.le_of_ble_eq_true rfl) (Nat.le_of_ble_eq_true rfl) (Nat.le_of_ble_eq_true rfl) ?_
          refine zG_iload_n X dX5_highOn_41 rfl ?_
          refine zG_iret X dX5_highOn_42 rfl ?_
          obtain rfl : k = n := by omega
          exact zDm.kb (by unfold hwR; rw [if_pos c0]) (fun i hi => mvRN_o hc5 (by omega) (by omega) k)
        · exact absurd h_19 (by first | decide | omega)
      | succ q ih =>
        intro k  hk
        have hM := mV_M (vm hc5) hc5 k
        have hq := mvN_ok ok.2 hc5 po k
        have hmv := k_X5_moves lo (d - 1) (by omega) (upr (kpJ J) 51 (mvRN wd (hs 0).toNat (J 51) (pT wd) k)) G F hF (ps := mvN wd (hs 0).toNat k (pT wd)) (lag := hs 3) (wt := hs 11) (sk := true) (by rw [show (upr (kpJ J) 51 (mvRN wd (hs 0).toNat (J 51) (pT wd) k)) 51 = mvRN wd (hs 0).toNat (J 51) (pT wd) k from funext (fun i => upr_eq)]; exact hM) ok hq (by omega) (by omega) (by omega) (by omega)
        rw [show (upr (kpJ J) 51 (mvRN wd (hs 0).toNat (J 51) (pT wd) k)) 51 = mvRN wd (hs 0).toNat (J 51) (pT wd) k from funext (fun i => upr_eq), upr_upr] at hmv
        refine zG_iload_n X dX5_highOn_17 rfl ?_
        refine zG_iload_n X dX5_highOn_18 rfl ?_
        refine zj_icmp_ge X dX5_highOn_19 (tgt := 32) (by decide) (by first | decide | omega) (by first | decide | omega) (fun h_19 => ?_) (fun h_19 => ?_)
        · exact absurd h_19 (by first | decide | omega)
        · refine zG_aload_n X dX5_highOn_22 rfl ?_
          refine zj_callV0 (as2 := []) X (hmv) dX5_highOn_23 mv_X5_moves ml_X5_89 (by first | rfl | assumption) rfl (by first | decide | omega) rfl rfl (by show d - 1 + 1 ≤ d; omega) (by show 19 + 3 + 35 * (d - 1) ≤ 35 * (d); omega) (Nat.le_of_ble_eq_true rfl) (Nat.le_of_ble_eq_true rfl) (Nat.le_of_ble_eq_true rfl) ?_
          refine zj_iinc X dX5_highOn_26 rfl (by decide) rfl ?_
          refine zG_goto X dX5_highOn_29 (tgt := 17) (by decide) ?_
          exact ih (k + 1) (by omega)
    refine zG_aload_n X dX5_highOn_0 rfl ?_
    refine zG_getR X dX5_highOn_1 fl_X5_7 (by first | rfl | assumption) (by first | decide | omega) (by decide) rfl (by first | exact zF_at hF rfl rfl | assumption) ?_
    refine zj_iconst X dX5_highOn_4 ?_
    refine zj_iaload X dX5_highOn_5 (by first | rfl | assumption) (by first | decide | omega) (0) (by decide) (by decide) ?_
    refine zj_if_ne X dX5_highOn_6 (tgt := 11) (by decide) (by first | decide | omega) (fun h_6 => ?_) (fun h_6 => ?_)
    · refine zG_aload_n X dX5_highOn_11 rfl ?_
      refine zj_callV0 (as2 := []) X (k_X5_keeps lo (d - 1) J G F hF) dX5_highOn_12 mv_X5_keeps ml_X5_108 (by first | rfl | assumption) rfl (by first | decide | omega) rfl rfl (by show d - 1 + 1 ≤ d; omega) (by show 19 + 2 + 35 * (d - 1) ≤ 35 * (d); omega) (Nat.le_of_ble_eq_true rfl) (Nat.le_of_ble_eq_true rfl) (Nat.le_of_ble_eq_true rfl) ?_
      refine zj_iconst X dX5_highOn_15 ?_
      refine zG_istore_n X dX5_highOn_16 (by decide) rfl ?_
      have h0 := loop n 0 (by omega)
      rw [mvRN_0, kp_row] at h0
      exact h0
    · exact absurd h_6 (by first | decide | omega)
  · refine zG_aload_n X dX5_highOn_0 rfl ?_
    refine zG_getR X dX5_highOn_1 fl_X5_7 (by first | rfl | assumption) (by first | decide | omega) (by decide) rfl (by first | exact zF_at hF rfl rfl | assumption) ?_
    refine zj_iconst X dX5_highOn_4 ?_
    refine zj_iaload X dX5_highOn_5 (by first | rfl | assumption) (by first | decide | omega) (0) (by decide) (by decide) ?_
    refine zj_if_ne X dX5_highOn_6 (tgt := 11) (by decide) (by first | decide | omega) (fun h_6 => ?_) (fun h_6 => ?_)
    · exact absurd h_6 (by first | decide | omega)
    · refine zj_iconst X dX5_highOn_9 ?_
      refine zG_iret X dX5_highOn_10 rfl ?_
      exact (by unfold hwR; rw [if_neg c0]; exact zDm.rf)
set_option maxHeartbeats 4000000 in
set_option maxRecDepth 100000 in
theorem k_X5_marketOn (lo d : Nat) (hd : 7 ≤ d) (J : Nat → Nat → Int) (G : Nat → Nat → Int64) (F : Nat → Nat → Option Nat) (hF : zFk F) {hs : Nat → Int} {wd : Nat → Nat → Int} {sb : Nat → Bool} (mh : mH (J 51) hs wd sb) (ok : hwOk hs wd) {n : Nat} (hn : n ≤ 1000) : zCt lo yX5_marketOn cX5_marketOn 4 (some .int) d 0 0 [.ref (lo + 50), .int (zI (n : Int))] 57 57 (zM J) G F (zDm [.int (zI (mkR hs wd sb n))] J G F) := by
  refine zCt.mk (by decide) (mv_X5_marketOn.2.2.2.1) (Nat.le_of_ble_eq_true rfl) ?_
  intro p l e s m args below meth c D cA X
  have hok := ok.1
  unfold hOk at hok
  have hc5 : (hs 0).toNat ≤ 5 := by omega
  have e0 := mh.1 0 (by decide)
  have po := pT_ok ok
  have vm := mV_H mh
  refine zG_aload_n X dX5_marketOn_0 rfl ?_
  refine zj_callV0 (as2 := []) X (k_X5_keeps lo (d - 1) J G F hF) dX5_marketOn_1 mv_X5_keeps ml_X5_108 (by first | rfl | assumption) rfl (by first | decide | omega) rfl rfl (by show d - 1 + 1 ≤ d; omega) (by show 19 + 2 + 35 * (d - 1) ≤ 35 * (d); omega) (Nat.le_of_ble_eq_true rfl) (Nat.le_of_ble_eq_true rfl) (Nat.le_of_ble_eq_true rfl) ?_
  have hlp := k_X5_letsPass lo (d - 1) (by omega) (kpJ J) G F hF (ps := pT wd) (lag := hs 3) (wt := hs 11) (sk := true) (by rw [kp51]; exact vm hc5) ok po (by omega) (by omega) (by omega) (by omega) (n := n) (by omega)
  rw [kp51] at hlp
  have hN := mV_N (vm hc5) hc5 n
  have hD := dayN_ok (sb := sb) (lag := hs 3) (sk := true) (r := (pT wd, hs 11)) ok po ⟨by omega, by omega⟩ n
  refine zG_aload_n X dX5_marketOn_4 rfl ?_
  refine zG_iload_n X dX5_marketOn_5 rfl ?_
  refine zj_callV1 (as2 := [_]) X (hlp) dX5_marketOn_6 mv_X5_letsPass ml_X5_96 (by first | rfl | assumption) rfl (by first | decide | omega) rfl rfl (by show d - 1 + 1 ≤ d; omega) (by show 19 + 4 + 35 * (d - 1) ≤ 35 * (d); omega) (Nat.le_of_ble_eq_true rfl) (Nat.le_of_ble_eq_true rfl) (Nat.le_of_ble_eq_true rfl) ?_
  refine zG_istore_n X dX5_marketOn_9 (by decide) rfl ?_
  refine zG_aload_n X dX5_marketOn_10 rfl ?_
  refine zj_callV1 (as2 := []) X (k_X5_today lo (d - 1) (by omega) (upr (kpJ J) 51 (psN hs wd sb (hs 3) true (J 51) (pT wd) (hs 11) n)) G F hF (ps := (dayN hs wd sb (hs 3) true n (pT wd, hs 11)).1) (lag := hs 3) (wt := (dayN hs wd sb (hs 3) true n (pT wd, hs 11)).2) (sk := true) (by rw [show (upr (kpJ J) 51 (psN hs wd sb (hs 3) true (J 51) (pT wd) (hs 11) n)) 51 = psN hs wd sb (hs 3) true (J 51) (pT wd) (hs 11) n from funext (fun i => upr_eq)]; exact hN) ok hD.1 (by omega) (by omega) hD.2.1 (by omega)) dX5_marketOn_11 mv_X5_today ml_X5_86 (by first | rfl | assumption) rfl (by first | decide | omega) rfl rfl (by show d - 1 + 1 ≤ d; omega) (by show 19 + 1 + 35 * (d - 1) ≤ 35 * (d); omega) (Nat.le_of_ble_eq_true rfl) (Nat.le_of_ble_eq_true rfl) (Nat.le_of_ble_eq_true rfl) ?_
  refine zG_istore_n X dX5_marketOn_14 (by decide) rfl ?_
  refine zG_aload_n X dX5_marketOn_15 rfl ?_
  refine zj_callV0 (as2 := []) X (k_X5_takesBack lo (d - 1) (upr (kpJ J) 51 (psN hs wd sb (hs 3) true (J 51) (pT wd) (hs 11) n)) G F hF) dX5_marketOn_16 mv_X5_takesBack ml_X5_111 (by first | rfl | assumption) rfl (by first | decide | omega) rfl rfl (by show d - 1 + 1 ≤ d; omega) (by show 19 + 2 + 35 * (d - 1) ≤ 35 * (d); omega) (Nat.le_of_ble_eq_true rfl) (Nat.le_of_ble_eq_true rfl) (Nat.le_of_ble_eq_true rfl) ?_
  refine zG_iload_n X dX5_marketOn_19 rfl ?_
  refine zG_iret X dX5_marketOn_20 rfl ?_
  exact zDm.kb rfl (fun i hi => psN_hi hc5 (by omega) (by omega) n)
set_option maxHeartbeats 4000000 in
set_option maxRecDepth 100000 in
theorem k_X5_nextOne (lo d : Nat) (hd : 6 ≤ d) (J : Nat → Nat → Int) (G : Nat → Nat → Int64) (F : Nat → Nat → Option Nat) (hF : zFk F) {hs : Nat → Int} {wd : Nat → Nat → Int} {sb : Nat → Bool} (mh : mH (J 51) hs wd sb) (ok : hwOk hs wd) {N : Nat} (hN : N = 2001) : zCt lo yX5_nextOne cX5_nextOne 3 (some .int) d 0 0 [.ref (lo + 50)] 57 57 (zM J) G F (zDm [.int (zI (zfind (nmP hs wd sb) N 0))] J G F) := by
  refine zCt.mk (by decide) (mv_X5_nextOne.2.2.2.1) (Nat.le_of_ble_eq_true rfl) ?_
  intro p l e s m args below meth c D cA X
  have hok := ok.1
  unfold hOk at hok
  have hc5 : (hs 0).toNat ≤ 5 := by omega
  have e0 := mh.1 0 (by decide)
  have po := pT_ok ok
  have vm := mV_H mh
  have loop : ∀ (q k : Nat) (hall : zfind (nmP hs wd sb) N 0 = zfind (nmP hs wd sb) q k), k + q = N → zG p l e { frames := d, cells := 0, slots := 0, locals := 35 * d } s m args below meth c D cA lo 3 0 0 (MQ below (zQ D cA lo 57 (zDm [.int (zI (zfind (nmP hs wd sb) N 0))] J G F)) args s 0 0 (fun q => lo ≤ q)) 57 (zM (upr (kpJ J) 51 (psN hs wd sb (hs 3) true (J 51) (pT wd) (hs 11) k))) G F [some (.ref (lo + 50)), some (.int (zI (k : Int))), none] [] 6 := by
    intro q
    induction q with
    | zero =>
      intro k hall hk
      have hN := mV_N (vm hc5) hc5 k
      have hD := dayN_ok (sb := sb) (lag := hs 3) (sk := true) (r := (pT wd, hs 11)) ok po ⟨by omega, by omega⟩ k
      have hfi := mfate_in (hs := hs) (wd := wd) (sb := sb) (ps := (dayN hs wd sb (hs 3) true k (pT wd, hs 11)).1) (lag := hs 3) (wt := (dayN hs wd sb (hs 3) true k (pT wd, hs 11)).2)
      refine zG_iload_n X dX5_nextOne_6 rfl ?_
      refine zj_sipush X dX5_nextOne_7 (by decide) ?_
      refine zj_icmp_gt X dX5_nextOne_10 (tgt := 32) (by decide) (by first | decide | omega) (by first | decide | omega) (fun h_10 => ?_) (fun h_10 => ?_)
      · refine zG_aload_n X dX5_nextOne_32 rfl ?_
        refine zj_callV0 (as2 := []) X (k_X5_takesBack lo (d - 1) (upr (kpJ J) 51 (psN hs wd sb (hs 3) true (J 51) (pT wd) (hs 11) k)) G F hF) dX5_nextOne_33 mv_X5_takesBack ml_X5_111 (by first | rfl | assumption) rfl (by first | decide | omega) rfl rfl (by show d - 1 + 1 ≤ d; omega) (by show 19 + 2 + 35 * (d - 1) ≤ 35 * (d); omega) (Nat.le_of_ble_eq_true rfl) (Nat.le_of_ble_eq_true rfl) (Nat.le_of_ble_eq_true rfl) ?_
        refine zG_iload_n X dX5_nextOne_36 rfl ?_
        refine zj_sipush X dX5_nextOne_37 (by decide) ?_
        refine zj_icmp_le X dX5_nextOne_40 (tgt := 47) (by decide) (by first | decide | omega) (by first | decide | omega) (fun h_40 => ?_) (fun h_40 => ?_)
        · exact absurd h_40 (by first | decide | omega)
        · refine zj_iconst X dX5_nextOne_43 ?_
          refine zG_goto X dX5_nextOne_44 (tgt := 48) (by decide) ?_
          refine zG_iret X dX5_nextOne_48 rfl ?_
          exact zDm.kb (by rw [hall]; rfl) (fun i hi => psN_hi hc5 (by omega) (by omega) k)
      · exact absurd h_10 (by first | decide | omega)
    | succ q ih =>
      intro k hall hk
      have hN := mV_N (vm hc5) hc5 k
      have hD := dayN_ok (sb := sb) (lag := hs 3) (sk := true) (r := (pT wd, hs 11)) ok po ⟨by omega, by omega⟩ k
      have hfi := mfate_in (hs := hs) (wd := wd) (sb := sb) (ps := (dayN hs wd sb (hs 3) true k (pT wd, hs 11)).1) (lag := hs 3) (wt := (dayN hs wd sb (hs 3) true k (pT wd, hs 11)).2)
      have hps := k_X5_passes lo (d - 1) (by omega) (upr (kpJ J) 51 (psN hs wd sb (hs 3) true (J 51) (pT wd) (hs 11) k)) G F hF (ps := (dayN hs wd sb (hs 3) true k (pT wd, hs 11)).1) (lag := hs 3) (wt := (dayN hs wd sb (hs 3) true k (pT wd, hs 11)).2) (sk := true) (by rw [show (upr (kpJ J) 51 (psN hs wd sb (hs 3) true (J 51) (pT wd) (hs 11) k)) 51 = psN hs wd sb (hs 3) true (J 51) (pT wd) (hs 11) k from funext (fun i => upr_eq)]; exact hN) ok hD.1 (by omega) (by omega) hD.2.1 (by omega)
      rw [show (upr (kpJ J) 51 (psN hs wd sb (hs 3) true (J 51) (pT wd) (hs 11) k)) 51 = psN hs wd sb (hs 3) true (J 51) (pT wd) (hs 11) k from funext (fun i => upr_eq), upr_upr] at hps
      rw [show zfind (nmP hs wd sb) (q + 1) k = if nmP hs wd sb k = true then (k : Int) else zfind (nmP hs wd sb) q (k + 1) from rfl] at hall
      have hnm : nmP hs wd sb k = decide (mfate hs wd sb (dayN hs wd sb (hs 3) true k (pT wd, hs 11)).1 (hs 3) (dayN hs wd sb (hs 3) true k (pT wd, hs 11)).2 = 1) := rfl
      refine zG_iload_n X dX5_nextOne_6 rfl ?_
      refine zj_sipush X dX5_nextOne_7 (by decide) ?_
      refine zj_icmp_gt X dX5_nextOne_10 (tgt := 32) (by decide) (by first | decide | omega) (by first | decide | omega) (fun h_10 => ?_) (fun h_10 => ?_)
      · exact absurd h_10 (by first | decide | omega)
      · refine zG_aload_n X dX5_nextOne_13 rfl ?_
        refine zj_callV1 (as2 := []) X (k_X5_today lo (d - 1) (by omega) (upr (kpJ J) 51 (psN hs wd sb (hs 3) true (J 51) (pT wd) (hs 11) k)) G F hF (ps := (dayN hs wd sb (hs 3) true k (pT wd, hs 11)).1) (lag := hs 3) (wt := (dayN hs wd sb (hs 3) true k (pT wd, hs 11)).2) (sk := true) (by rw [show (upr (kpJ J) 51 (psN hs wd sb (hs 3) true (J 51) (pT wd) (hs 11) k)) 51 = psN hs wd sb (hs 3) true (J 51) (pT wd) (hs 11) k from funext (fun i => upr_eq)]; exact hN) ok hD.1 (by omega) (by omega) hD.2.1 (by omega)) dX5_nextOne_14 mv_X5_today ml_X5_86 (by first | rfl | assumption) rfl (by first | decide | omega) rfl rfl (by show d - 1 + 1 ≤ d; omega) (by show 19 + 1 + 35 * (d - 1) ≤ 35 * (d); omega) (Nat.le_of_ble_eq_true rfl) (Nat.le_of_ble_eq_true rfl) (Nat.le_of_ble_eq_true rfl) ?_
        refine zj_iconst X dX5_nextOne_17 ?_
        refine zj_icmp_eq X dX5_nextOne_18 (tgt := 32) (by decide) (by first | decide | omega) (by first | decide | omega) (fun h_18 => ?_) (fun h_18 => ?_)
        · refine zG_aload_n X dX5_nextOne_32 rfl ?_
          refine zj_callV0 (as2 := []) X (k_X5_takesBack lo (d - 1) (upr (kpJ J) 51 (psN hs wd sb (hs 3) true (J 51) (pT wd) (hs 11) k)) G F hF) dX5_nextOne_33 mv_X5_takesBack ml_X5_111 (by first | rfl | assumption) rfl (by first | decide | omega) rfl rfl (by show d - 1 + 1 ≤ d; omega) (by show 19 + 2 + 35 * (d - 1) ≤ 35 * (d); omega) (Nat.le_of_ble_eq_true rfl) (Nat.le_of_ble_eq_true rfl) (Nat.le_of_ble_eq_true rfl) ?_
          refine zG_iload_n X dX5_nextOne_36 rfl ?_
          refine zj_sipush X dX5_nextOne_37 (by decide) ?_
          refine zj_icmp_le X dX5_nextOne_40 (tgt := 47) (by decide) (by first | decide | omega) (by first | decide | omega) (fun h_40 => ?_) (fun h_40 => ?_)
          · refine zG_iload_n X dX5_nextOne_47 rfl ?_
            refine zG_iret X dX5_nextOne_48 rfl ?_
            exact zDm.kb (by rw [hall, if_pos (hnm.trans (decide_eq_true (by assumption)))]) (fun i hi => psN_hi hc5 (by omega) (by omega) k)
          · exact absurd h_40 (by first | decide | omega)
        · refine zG_aload_n X dX5_nextOne_21 rfl ?_
          refine zj_callV1 (as2 := []) X (hps) dX5_nextOne_22 mv_X5_passes ml_X5_92 (by first | rfl | assumption) rfl (by first | decide | omega) rfl rfl (by show d - 1 + 1 ≤ d; omega) (by show 19 + 2 + 35 * (d - 1) ≤ 35 * (d); omega) (Nat.le_of_ble_eq_true rfl) (Nat.le_of_ble_eq_true rfl) (Nat.le_of_ble_eq_true rfl) ?_
          refine zG_istore_n X dX5_nextOne_25 (by decide) rfl ?_
          refine zj_iinc X dX5_nextOne_26 rfl (by decide) rfl ?_
          refine zG_goto X dX5_nextOne_29 (tgt := 6) (by decide) ?_
          refine zG_sub (zle_some (zle_some (zle_none zle_nil))) (ih (k + 1) (by rw [hall, if_neg (by rw [hnm, decide_eq_true_iff]; assumption)]) (by omega))
  refine zG_aload_n X dX5_nextOne_0 rfl ?_
  refine zj_callV0 (as2 := []) X (k_X5_keeps lo (d - 1) J G F hF) dX5_nextOne_1 mv_X5_keeps ml_X5_108 (by first | rfl | assumption) rfl (by first | decide | omega) rfl rfl (by show d - 1 + 1 ≤ d; omega) (by show 19 + 2 + 35 * (d - 1) ≤ 35 * (d); omega) (Nat.le_of_ble_eq_true rfl) (Nat.le_of_ble_eq_true rfl) (Nat.le_of_ble_eq_true rfl) ?_
  refine zj_iconst X dX5_nextOne_4 ?_
  refine zG_istore_n X dX5_nextOne_5 (by decide) rfl ?_
  have h0 := loop N 0 rfl (by omega)
  rw [psN_0, kp_row] at h0
  exact h0
