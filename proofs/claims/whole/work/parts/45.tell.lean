theorem z51 {J : Nat → Nat → Int} {i : Nat} {r : Int} : zup J 50 4 r 51 i = J 51 i := zup_ne (by omega)
/-! the Model's row is the house: looks ahead -/
def mH (r hs : Nat → Int) (wd : Nat → Nat → Int) (sb : Nat → Bool) : Prop := (∀ j, j < 13 → r j = hs j) ∧ (∀ k, k < (hs 0).toNat → ∀ i, i < 7 → r (13 + 7 * k + i) = wd k i) ∧ ∀ t, t < 60 → r (48 + t) = if sb t = true then 1 else 0
theorem pT_at {wd : Nat → Nat → Int} {k : Nat} (h : k < 5) : pT wd k = wd k 1 := if_pos h
theorem mV_H {r hs : Nat → Int} {wd : Nat → Nat → Int} {sb : Nat → Bool} (h : mH r hs wd sb) (hc : (hs 0).toNat ≤ 5) : mV r hs wd sb (pT wd) (hs 3) (hs 11) true := by
  refine ⟨⟨h.1 0 (by decide), h.1 2 (by decide), h.1 3 (by decide), h.1 4 (by decide), h.1 5 (by decide), h.1 6 (by decide), h.1 7 (by decide), h.1 11 (by decide)⟩, fun k hk => ?_, h.2.2⟩
  have q := h.2.1 k hk
  exact ⟨q 0 (by decide), (q 1 (by decide)).trans (pT_at (by omega)).symm, Or.inl ⟨rfl, q 3 (by decide), q 4 (by decide), q 5 (by decide)⟩⟩
theorem mOk_H {r hs : Nat → Int} {wd : Nat → Nat → Int} {sb : Nat → Bool} (h : mH r hs wd sb) (ok : hwOk hs wd) : mOk r := by
  have hok := ok.1
  unfold hOk at hok
  have e0 := h.1 0 (by decide)
  refine ⟨by omega, fun k hk => ?_⟩
  have q := h.2.1 k (by omega)
  have hw := hwOk_w ok (k := k) (by omega)
  rw [q 0 (by decide), q 3 (by decide)]
  omega
def mvRN (wd : Nat → Nat → Int) (c : Nat) (r p : Nat → Int) : Nat → (Nat → Int)
  | 0 => r
  | n + 1 => mvR (mvRN wd c r p n) c (mvN wd c (n + 1) p)
theorem mvRN_0 {wd : Nat → Nat → Int} {c : Nat} {r p : Nat → Int} : mvRN wd c r p 0 = r := rfl
theorem mvRN_s {wd : Nat → Nat → Int} {c : Nat} {r p : Nat → Int} {n : Nat} : mvRN wd c r p (n + 1) = mvR (mvRN wd c r p n) c (mvp wd true c (mvN wd c n p)) := rfl
theorem mV_M {r hs : Nat → Int} {wd : Nat → Nat → Int} {sb : Nat → Bool} {p : Nat → Int} {lag wt : Int} (v : mV r hs wd sb p lag wt true) (hc : (hs 0).toNat ≤ 5) : ∀ n, mV (mvRN wd (hs 0).toNat r p n) hs wd sb (mvN wd (hs 0).toNat n p) lag wt true
  | 0 => v
  | n + 1 => mV_mv (mV_M v hc n) hc
theorem mvRN_o {wd : Nat → Nat → Int} {c : Nat} {r p : Nat → Int} (hc : c ≤ 5) {i : Nat} (hi : i ≠ 1) (h7 : i % 7 ≠ 0 ∨ 48 ≤ i) : ∀ n, mvRN wd c r p n i = r i
  | 0 => rfl
  | n + 1 => by
    rw [mvRN_s]
    unfold mvR
    rw [if_neg hi, stR_ne (by omega), mvRN_o hc hi h7 n]
theorem kp51 {J : Nat → Nat → Int} : kpJ J 51 = J 51 := funext fun i => upr_ne (by decide)
theorem kb_same {J : Nat → Nat → Int} {row : Nat → Int} (h : ∀ i, 108 ≤ i → row i = J 51 i) : sameM (upr (upr (kpJ J) 51 row) 51 (cpR (upr (kpJ J) 51 row 51) (upr (kpJ J) 51 row 53) 108)) J := by
  intro x i a b c
  by_cases hx : x = 51
  · subst hx
    rw [upr_eq]
    unfold cpR
    by_cases hi : i < 108
    · rw [if_pos hi, upr_ne (by decide)]
      unfold kpJ
      rw [upr_eq]
      exact if_pos hi
    · rw [if_neg hi, upr_eq]
      exact h i (by omega)
  · rw [upr_ne hx, upr_ne hx]
    exact upr_ne a
def zDm (v : List Value) (J : Nat → Nat → Int) (G : Nat → Nat → Int64) (F : Nat → Nat → Option Nat) : List Value → (Nat → Nat → Int32) → (Nat → Nat → Int64) → (Nat → Nat → Option Nat) → Prop := fun v2 I2 G2 F2 => v2 = v ∧ (∃ J2, I2 = zM J2 ∧ sameM J2 J ∧ J2 50 4 = J 50 4) ∧ G2 = G ∧ F2 = F
theorem zDm.rf {v : List Value} {J : Nat → Nat → Int} {G : Nat → Nat → Int64} {F : Nat → Nat → Option Nat} : zDm v J G F v (zM J) G F := ⟨rfl, ⟨J, rfl, sameM_rf, rfl⟩, rfl, rfl⟩
theorem zDm.kb {v v2 : List Value} {J : Nat → Nat → Int} {G : Nat → Nat → Int64} {F : Nat → Nat → Option Nat} {row : Nat → Int} (hv : v2 = v) (h : ∀ i, 108 ≤ i → row i = J 51 i) : zDm v J G F v2 (zM (upr (upr (kpJ J) 51 row) 51 (cpR (upr (kpJ J) 51 row 51) (upr (kpJ J) 51 row 53) 108))) G F := ⟨hv, ⟨_, rfl, kb_same h, by rw [upr_ne (by decide), upr_ne (by decide)]; exact upr_ne (by decide)⟩, rfl, rfl⟩
theorem kp_row {J : Nat → Nat → Int} : upr (kpJ J) 51 (J 51) = kpJ J := by
  rw [show J 51 = kpJ J 51 from kp51.symm, upr_self]
set_option maxHeartbeats 4000000 in
set_option maxRecDepth 100000 in
theorem k_X5_pass (lo d : Nat) (hd : 7 ≤ d) (J : Nat → Nat → Int) (G : Nat → Nat → Int64) (F : Nat → Nat → Option Nat) (hF : zFk F) {hs : Nat → Int} {wd : Nat → Nat → Int} {sb : Nat → Bool} (mh : mH (J 51) hs wd sb) (ok : hwOk hs wd) (t1 : 0 ≤ J 50 3) (t2 : J 50 3 ≤ 4) {u : Int} (hu : zr u) : zCt lo yX5_pass cX5_pass 2 (some .int) d 0 0 [.ref (lo + 50), .int (zI u)] 57 57 (zM J) G F (zMR (if u < 1 ∨ 400 < u then 1 else if 100000 - J 51 1 < u then 2 else 0) (cN hs wd sb 1 u.toNat) J (upr (msJ (zup J 50 4 0)) 51 (psN hs wd sb (hs 3) true (J 51) (pT wd) (hs 11) u.toNat)) G F) := by
  refine zCt.mk (by decide) (mv_X5_pass.2.2.2.1) (Nat.le_of_ble_eq_true rfl) ?_
  intro p l e s m args below meth c D cA X
  have hok := ok.1
  unfold hOk at hok
  have hc5 : (hs 0).toNat ≤ 5 := by omega
  have e0 := mh.1 0 (by decide)
  have po := pT_ok ok
  have vm := mV_H mh
  have e1 := mh.1 1 (by decide)
  refine zG_aload_n X dX5_pass_0 rfl ?_
  refine zG_iload_n X dX5_pass_1 rfl ?_
  refine zj_iconst X dX5_pass_2 ?_
  refine zj_sipush X dX5_pass_3 (by decide) ?_
  refine zj_callS1 (as2 := [_, _, _]) X (k_X5_in lo (d - 1) J G F (x := u) (a := 1) (b := 400) (by first | assumption | (unfold zr; omega)) (by first | decide | (unfold zr; omega)) (by first | decide | (unfold zr; omega))) dX5_pass_6 ms_X5_in ml_X5_41 rfl rfl (by show d - 1 + 1 ≤ d; omega) (by show 19 + 3 + 35 * (d - 1) ≤ 35 * (d); omega) (Nat.le_of_ble_eq_true rfl) (Nat.le_of_ble_eq_true rfl) (Nat.le_of_ble_eq_true rfl) ?_
  by_cases hb : 1 ≤ u ∧ u ≤ 400
  · rw [if_pos hb]
    refine zj_if_ne X dX5_pass_9 (tgt := 16) (by decide) (by first | decide | omega) (fun h_9 => ?_) (fun h_9 => ?_)
    · refine zG_aload_n X dX5_pass_16 rfl ?_
      refine zG_getR X dX5_pass_17 fl_X5_7 (by first | rfl | assumption) (by first | decide | omega) (by decide) rfl (by first | exact zF_at hF rfl rfl | assumption) ?_
      refine zj_iconst X dX5_pass_20 ?_
      refine zj_iaload X dX5_pass_21 (by first | rfl | assumption) (by first | decide | omega) (1) (by decide) (by decide) ?_
      refine zG_iload_n X dX5_pass_22 rfl ?_
      refine zj_iadd X dX5_pass_23 ?_
      refine zj_ldc (v := 100000) X dX5_pass_24 (List.mem_of_getElem? (i := 931) (by decide +kernel)) ?_
      refine zj_icmp_le X dX5_pass_26 (tgt := 33) (by decide) (by first | decide | omega) (by first | decide | omega) (fun h_26 => ?_) (fun h_26 => ?_)
      · refine zj_iconst X dX5_pass_33 ?_
        refine zj_callV1 (as2 := [_]) X (k_X5_refused lo (d - 1) J G F (x := 0) (by decide)) dX5_pass_34 mv_X5_refused ml_X5_33 (by first | rfl | assumption) rfl (by first | decide | omega) rfl rfl (by show d - 1 + 1 ≤ d; omega) (by show 19 + 2 + 35 * (d - 1) ≤ 35 * (d); omega) (Nat.le_of_ble_eq_true rfl) (Nat.le_of_ble_eq_true rfl) (Nat.le_of_ble_eq_true rfl) ?_
        refine zj_if_eq X dX5_pass_37 (tgt := 42) (by decide) (by first | decide | omega) (fun h_37 => ?_) (fun h_37 => ?_)
        · have hlp := k_X5_letsPass lo (d - 1) (by omega) (msJ (zup J 50 4 0)) G F hF (ps := pT wd) (lag := hs 3) (wt := hs 11) (sk := true) (by rw [ms51f]; exact vm hc5) ok po (by omega) (by omega) (by omega) (by omega) (n := u.toNat) (by omega)
          rw [show ((u.toNat : Nat) : Int) = u by omega, ms51f] at hlp
          refine zG_aload_n X dX5_pass_42 rfl ?_
          refine zj_callV0 (as2 := []) X (k_X5_saves lo (d - 1) (zup J 50 4 0) G F hF (by rw [zup_ne (by decide)]; omega) (by rw [zup_ne (by decide)]; omega)) dX5_pass_43 mv_X5_saves ml_X5_55 (by first | rfl | assumption) rfl (by first | decide | omega) rfl rfl (by show d - 1 + 1 ≤ d; omega) (by show 19 + 2 + 35 * (d - 1) ≤ 35 * (d); omega) (Nat.le_of_ble_eq_true rfl) (Nat.le_of_ble_eq_true rfl) (Nat.le_of_ble_eq_true rfl) ?_
          refine zG_aload_n X dX5_pass_46 rfl ?_
          refine zG_iload_n X dX5_pass_47 rfl ?_
          refine zj_callV1 (as2 := [_]) X (hlp) dX5_pass_48 mv_X5_letsPass ml_X5_96 (by first | rfl | assumption) rfl (by first | decide | omega) rfl rfl (by show d - 1 + 1 ≤ d; omega) (by show 19 + 4 + 35 * (d - 1) ≤ 35 * (d); omega) (Nat.le_of_ble_eq_true rfl) (Nat.le_of_ble_eq_true rfl) (Nat.le_of_ble_eq_true rfl) ?_
          refine zG_iret X dX5_pass_51 rfl ?_
          first
            | exact zMR.yes (by first | exact if_neg (by omega) | exact (if_neg (by omega)).trans (if_neg (by omega))) (by simp [zup, upr, ms504]) (rfl) sameM_rf
            | (exfalso; omega)
        · exact absurd h_37 (by first | decide | omega)
      · refine zj_iconst X dX5_pass_29 ?_
        refine zG_goto X dX5_pass_30 (tgt := 34) (by decide) ?_
        refine zj_callV1 (as2 := [_]) X (k_X5_refused lo (d - 1) J G F (x := 2) (by decide)) dX5_pass_34 mv_X5_refused ml_X5_33 (by first | rfl | assumption) rfl (by first | decide | omega) rfl rfl (by show d - 1 + 1 ≤ d; omega) (by show 19 + 2 + 35 * (d - 1) ≤ 35 * (d); omega) (Nat.le_of_ble_eq_true rfl) (Nat.le_of_ble_eq_true rfl) (Nat.le_of_ble_eq_true rfl) ?_
        refine zj_if_eq X dX5_pass_37 (tgt := 42) (by decide) (by first | decide | omega) (fun h_37 => ?_) (fun h_37 => ?_)
        · exact absurd h_37 (by first | decide | omega)
        · refine zj_iconst X dX5_pass_40 ?_
          refine zG_iret X dX5_pass_41 rfl ?_
          first
            | exact zMR.no (if_pos (by omega)) (by decide)
            | exact zMR.no ((if_neg (by omega)).trans (if_pos (by omega))) (by decide)
            | (exfalso; omega)
    · exact absurd h_9 (by first | decide | omega)
  · rw [if_neg hb]
    refine zj_if_ne X dX5_pass_9 (tgt := 16) (by decide) (by first | decide | omega) (fun h_9 => ?_) (fun h_9 => ?_)
    · exact absurd h_9 (by first | decide | omega)
    · refine zj_iconst X dX5_pass_12 ?_
      refine zG_goto X dX5_pass_13 (tgt := 34) (by decide) ?_
      refine zj_callV1 (as2 := [_]) X (k_X5_refused lo (d - 1) J G F (x := 1) (by decide)) dX5_pass_34 mv_X5_refused ml_X5_33 (by first | rfl | assumption) rfl (by first | decide | omega) rfl rfl (by show d - 1 + 1 ≤ d; omega) (by show 19 + 2 + 35 * (d - 1) ≤ 35 * (d); omega) (Nat.le_of_ble_eq_true rfl) (Nat.le_of_ble_eq_true rfl) (Nat.le_of_ble_eq_true rfl) ?_
      refine zj_if_eq X dX5_pass_37 (tgt := 42) (by decide) (by first | decide | omega) (fun h_37 => ?_) (fun h_37 => ?_)
      · exact absurd h_37 (by first | decide | omega)
      · refine zj_iconst X dX5_pass_40 ?_
        refine zG_iret X dX5_pass_41 rfl ?_
        first
          | exact zMR.no (if_pos (by omega)) (by decide)
          | exact zMR.no ((if_neg (by omega)).trans (if_pos (by omega))) (by decide)
          | (exfalso; omega)
def twM (J : Nat → Nat → Int) (k : Nat) (q : Int) : Int := if q = 6 then (J 51 (13 + 7 * k + 6) + J 51 1 - J 51 12) % J 51 (13 + 7 * k + 0) else J 51 (13 + 7 * k + q.toNat)
def tvM (J : Nat → Nat → Int) (q : Int) : Int := if q = 0 then J 51 1 else if q = 1 then J 51 0 else if q = 8 then zsm (fun t => J 51 (48 + t)) 60 else if 9 ≤ q then J 51 (q.toNat - 1) else J 51 q.toNat
set_option maxHeartbeats 4000000 in
set_option maxRecDepth 100000 in
theorem k_X5_tellWheel (lo d : Nat) (hd : 2 ≤ d) (J : Nat → Nat → Int) (G : Nat → Nat → Int64) (F : Nat → Nat → Option Nat) (hF : zFk F) {k : Nat} (hk : k < 5) {q : Int} (q1 : 0 ≤ q) (q2 : q ≤ 6) (a1 : 0 ≤ J 51 (13 + 7 * k + 6)) (a2 : J 51 (13 + 7 * k + 6) ≤ 1000) (n1 : 1 ≤ J 51 (13 + 7 * k + 0)) (n2 : J 51 (13 + 7 * k + 0) ≤ 60) (d1 : 0 ≤ J 51 12) (d2 : J 51 12 ≤ J 51 1) (d3 : J 51 1 ≤ 1000000) : zCt lo yX5_tellWheel cX5_tellWheel 3 (some .int) d 0 0 [.ref (lo + 50), .int (zI (k : Int)), .int (zI q)] 57 57 (zM J) G F (zD [.int (zI (twM J k q))] J G F) := by
  refine zCt.mk (by decide) (mv_X5_tellWheel.2.2.2.1) (Nat.le_of_ble_eq_true rfl) ?_
  intro p l e s m args below meth c D cA X
  refine zG_iload_n X dX5_tellWheel_0 rfl ?_
  refine zj_bipush X dX5_tellWheel_1 (by decide) ?_
  refine zj_icmp_ge X dX5_tellWheel_3 (tgt := 15) (by decide) (by first | decide | omega) (by first | decide | omega) (fun h_3 => ?_) (fun h_3 => ?_)
  · refine zG_aload_n X dX5_tellWheel_15 rfl ?_
    refine zG_iload_n X dX5_tellWheel_16 rfl ?_
    refine zj_bipush X dX5_tellWheel_17 (by decide) ?_
    refine zj_callV1 (as2 := [_, _]) X (k_X5_ofv lo (d - 1) (by omega) J G F hF (u := (k : Int)) (v := 6) (x := J 51 (13 + 7 * k + 6)) k (6) hk (by omega) rfl (by omega) rfl) dX5_tellWheel_19 mv_X5_of ml_X5_45 (by first | rfl | assumption) rfl (by first | decide | omega) rfl rfl (by show d - 1 + 1 ≤ d; omega) (by show 19 + 3 + 35 * (d - 1) ≤ 35 * (d); omega) (Nat.le_of_ble_eq_true rfl) (Nat.le_of_ble_eq_true rfl) (Nat.le_of_ble_eq_true rfl) ?_
    refine zG_aload_n X dX5_tellWheel_22 rfl ?_
    refine zG_getR X dX5_tellWheel_23 fl_X5_7 (by first | rfl | assumption) (by first | decide | omega) (by decide) rfl (by first | exact zF_at hF rfl rfl | assumption) ?_
    refine zj_iconst X dX5_tellWheel_26 ?_
    refine zj_iaload X dX5_tellWheel_27 (by first | rfl | assumption) (by first | decide | omega) (1) (by decide) (by decide) ?_
    refine zj_iadd X dX5_tellWheel_28 ?_
    refine zG_aload_n X dX5_tellWheel_29 rfl ?_
    refine zG_getR X dX5_tellWheel_30 fl_X5_7 (by first | rfl | assumption) (by first | decide | omega) (by decide) rfl (by first | exact zF_at hF rfl rfl | assumption) ?_
    refine zj_bipush X dX5_tellWheel_33 (by decide) ?_
    refine zj_iaload X dX5_tellWheel_35 (by first | rfl | assumption) (by first | decide | omega) (12) (by decide) (by decide) ?_
    refine zj_isub X dX5_tellWheel_36 ?_
    refine zG_aload_n X dX5_tellWheel_37 rfl ?_
    refine zG_iload_n X dX5_tellWheel_38 rfl ?_
    refine zj_iconst X dX5_tellWheel_39 ?_
    refine zj_callV1 (as2 := [_, _]) X (k_X5_ofv lo (d - 1) (by omega) J G F hF (u := (k : Int)) (v := 0) (x := J 51 (13 + 7 * k + 0)) k (0) hk (by omega) rfl (by omega) rfl) dX5_tellWheel_40 mv_X5_of ml_X5_45 (by first | rfl | assumption) rfl (by first | decide | omega) rfl rfl (by show d - 1 + 1 ≤ d; omega) (by show 19 + 3 + 35 * (d - 1) ≤ 35 * (d); omega) (Nat.le_of_ble_eq_true rfl) (Nat.le_of_ble_eq_true rfl) (Nat.le_of_ble_eq_true rfl) ?_
    refine zj_iremN X dX5_tellWheel_43 (by omega) (by omega) (by omega) (by omega) ?_
    refine zG_iret X dX5_tellWheel_44 rfl ?_
    first
      | exact zD.of (congrArg (fun z => [Value.int (zI z)]) (show _ = twM J k q from (if_neg (by omega)).symm)) rfl rfl rfl
      | exact zD.of (congrArg (fun z => [Value.int (zI z)]) (show _ = twM J k q from (if_pos (by omega)).symm)) rfl rfl rfl
  · refine zG_aload_n X dX5_tellWheel_6 rfl ?_
    refine zG_iload_n X dX5_tellWheel_7 rfl ?_
    refine zG_iload_n X dX5_tellWheel_8 rfl ?_
    refine zj_callV1 (as2 := [_, _]) X (k_X5_ofv lo (d - 1) (by omega) J G F hF (u := (k : Int)) (v := q) (x := J 51 (13 + 7 * k + q.toNat)) k (q.toNat) hk (by omega) rfl (by omega) rfl) dX5_tellWheel_9 mv_X5_of ml_X5_45 (by first | rfl | assumption) rfl (by first | decide | omega) rfl rfl (by show d - 1 + 1 ≤ d; omega) (by show 19 + 3 + 35 * (d - 1) ≤ 35 * (d); omega) (Nat.le_of_ble_eq_true rfl) (Nat.le_of_ble_eq_true rfl) (Nat.le_of_ble_eq_true rfl) ?_
    refine zG_goto X dX5_tellWheel_12 (tgt := 44) (by decide) ?_
    refine zG_iret X dX5_tellWheel_44 rfl ?_
    first
      | exact zD.of (congrArg (fun z => [Value.int (zI z)]) (show _ = twM J k q from (if_neg (by omega)).symm)) rfl rfl rfl
      | exact zD.of (congrArg (fun z => [Value.int (zI z)]) (show _ = twM J k q from (if_pos (by omega)).symm)) rfl rfl rfl
set_option maxHeartbeats 4000000 in
set_option maxRecDepth 100000 in
theorem k_X5_tellValue (lo d : Nat) (hd : 1 ≤ d) (J : Nat → Nat → Int) (G : Nat → Nat → Int64) (F : Nat → Nat → Option Nat) (hF : zFk F) {q : Int} (q1 : 0 ≤ q) (q2 : q ≤ 13) : zCt lo yX5_tellValue cX5_tellValue 2 (some .int) d 0 0 [.ref (lo + 50), .int (zI q)] 57 57 (zM J) G F (zD [.int (zI (tvM J q))] J G F) := by
  refine zCt.mk (by decide) (mv_X5_tellValue.2.2.2.1) (Nat.le_of_ble_eq_true rfl) ?_
  intro p l e s m args below meth c D cA X
  have hq : q = 0 ∨ q = 1 ∨ q = 2 ∨ q = 3 ∨ q = 4 ∨ q = 5 ∨ q = 6 ∨ q = 7 ∨ q = 8 ∨ q = 9 ∨ q = 10 ∨ q = 11 ∨ q = 12 ∨ q = 13 := by omega
  rcases hq with rfl | rfl | rfl | rfl | rfl | rfl | rfl | rfl | rfl | rfl | rfl | rfl | rfl | rfl
  · refine zG_iload_n X dX5_tellValue_0 rfl ?_
    refine zG_switchIn (off := 71) (tgt := 72) X dX5_tellValue_1 (by decide) (by decide) (by decide) (by decide) ?_
    refine zG_aload_n X dX5_tellValue_72 rfl ?_
    refine zG_getR X dX5_tellValue_73 fl_X5_7 (by first | rfl | assumption) (by first | decide | omega) (by decide) rfl (by first | exact zF_at hF rfl rfl | assumption) ?_
    refine zj_iconst X dX5_tellValue_76 ?_
    refine zj_iaload X dX5_tellValue_77 (by first | rfl | assumption) (by first | decide | omega) (1) (by decide) (by decide) ?_
    refine zG_iret X dX5_tellValue_78 rfl ?_
    exact zD.of rfl rfl rfl rfl
  · refine zG_iload_n X dX5_tellValue_0 rfl ?_
    refine zG_switchIn (off := 78) (tgt := 79) X dX5_tellValue_1 (by decide) (by decide) (by decide) (by decide) ?_
    refine zG_aload_n X dX5_tellValue_79 rfl ?_
    refine zG_getR X dX5_tellValue_80 fl_X5_7 (by first | rfl | assumption) (by first | decide | omega) (by decide) rfl (by first | exact zF_at hF rfl rfl | assumption) ?_
    refine zj_iconst X dX5_tellValue_83 ?_
    refine zj_iaload X dX5_tellValue_84 (by first | rfl | assumption) (by first | decide | omega) (0) (by decide) (by decide) ?_
    refine zG_iret X dX5_tellValue_85 rfl ?_
    exact zD.of rfl rfl rfl rfl
  · refine zG_iload_n X dX5_tellValue_0 rfl ?_
    refine zG_switchIn (off := 103) (tgt := 104) X dX5_tellValue_1 (by decide) (by decide) (by decide) (by decide) ?_
    refine zG_aload_n X dX5_tellValue_104 rfl ?_
    refine zG_getR X dX5_tellValue_105 fl_X5_7 (by first | rfl | assumption) (by first | decide | omega) (by decide) rfl (by first | exact zF_at hF rfl rfl | assumption) ?_
    refine zG_iload_n X dX5_tellValue_108 rfl ?_
    refine zj_iaload X dX5_tellValue_109 (by first | rfl | assumption) (by first | decide | omega) (2) (by omega) (by omega) ?_
    refine zG_iret X dX5_tellValue_110 rfl ?_
    exact zD.of rfl rfl rfl rfl
  · refine zG_iload_n X dX5_tellValue_0 rfl ?_
    refine zG_switchIn (off := 103) (tgt := 104) X dX5_tellValue_1 (by decide) (by decide) (by decide) (by decide) ?_
    refine zG_aload_n X dX5_tellValue_104 rfl ?_
    refine zG_getR X dX5_tellValue_105 fl_X5_7 (by first | rfl | assumption) (by first | decide | omega) (by decide) rfl (by first | exact zF_at hF rfl rfl | assumption) ?_
    refine zG_iload_n X dX5_tellValue_108 rfl ?_
    refine zj_iaload X dX5_tellValue_109 (by first | rfl | assumption) (by first | decide | omega) (3) (by omega) (by omega) ?_
    refine zG_iret X dX5_tellValue_110 rfl ?_
    exact zD.of rfl rfl rfl rfl
  · refine zG_iload_n X dX5_tellValue_0 rfl ?_
    refine zG_switchIn (off := 103) (tgt := 104) X dX5_tellValue_1 (by decide) (by decide) (by decide) (by decide) ?_
    refine zG_aload_n X dX5_tellValue_104 rfl ?_
    refine zG_getR X dX5_tellValue_105 fl_X5_7 (by first | rfl | assumption) (by first | decide | omega) (by decide) rfl (by first | exact zF_at hF rfl rfl | assumption) ?_
    refine zG_iload_n X dX5_tellValue_108 rfl ?_
    refine zj_iaload X dX5_tellValue_109 (by first | rfl | assumption) (by first | decide | omega) (4) (by omega) (by omega) ?_
    refine zG_iret X dX5_tellValue_110 rfl ?_
    exact zD.of rfl rfl rfl rfl
  · refine zG_iload_n X dX5_tellValue_0 rfl ?_
    refine zG_switchIn (off := 103) (tgt := 104) X dX5_tellValue_1 (by decide) (by decide) (by decide) (by decide) ?_
    refine zG_aload_n X dX5_tellValue_104 rfl ?_
    refine zG_getR X dX5_tellValue_105 fl_X5_7 (by first | rfl | assumption) (by first | decide | omega) (by decide) rfl (by first | exact zF_at hF rfl rfl | assumption) ?_
    refine zG_iload_n X dX5_tellValue_108 rfl ?_
    refine zj_iaload X dX5_tellValue_109 (by first | rfl | assumption) (by first | decide | omega) (5) (by omega) (by omega) ?_
    refine zG_iret X dX5_tellValue_110 rfl ?_
    exact zD.of rfl rfl rfl rfl
  · refine zG_iload_n X dX5_tellValue_0 rfl ?_
    refine zG_switchIn (off := 103) (tgt := 104) X dX5_tellValue_1 (by decide) (by decide) (by decide) (by decide) ?_
    refine zG_aload_n X dX5_tellValue_104 rfl ?_
    refine zG_getR X dX5_tellValue_105 fl_X5_7 (by first | rfl | assumption) (by first | decide | omega) (by decide) rfl (by first | exact zF_at hF rfl rfl | assumption) ?_
    refine zG_iload_n X dX5_tellValue_108 rfl ?_
    refine zj_iaload X dX5_tellValue_109 (by first | rfl | assumption) (by first | decide | omega) (6) (by omega) (by omega) ?_
    refine zG_iret X dX5_tellValue_110 rfl ?_
    exact zD.of rfl rfl rfl rfl
  · refine zG_iload_n X dX5_tellValue_0 rfl ?_
    refine zG_switchIn (off := 103) (tgt := 104) X dX5_tellValue_1 (by decide) (by decide) (by decide) (by decide) ?_
    refine zG_aload_n X dX5_tellValue_104 rfl ?_
    refine zG_getR X dX5_tellValue_105 fl_X5_7 (by first | rfl | assumption) (by first | decide | omega) (by decide) rfl (by first | exact zF_at hF rfl rfl | assumption) ?_
    refine zG_iload_n X dX5_tellValue_108 rfl ?_
    refine zj_iaload X dX5_tellValue_109 (by first | rfl | assumption) (by first | decide | omega) (7) (by omega) (by omega) ?_
    refine zG_iret X dX5_tellValue_110 rfl ?_
    exact zD.of rfl rfl rfl rfl
  · refine zG_iload_n X dX5_tellValue_0 rfl ?_
    refine zG_switchIn (off := 85) (tgt := 86) X dX5_tellValue_1 (by decide) (by decide) (by decide) (by decide) ?_
    refine zG_aload_n X dX5_tellValue_86 rfl ?_
    refine zj_callV1 (as2 := []) X (k_X5_inSet lo (d - 1) J G F hF) dX5_tellValue_87 mv_X5_inSet ml_X5_75 (by first | rfl | assumption) rfl (by first | decide | omega) rfl rfl (by show d - 1 + 1 ≤ d; omega) (by show 19 + 3 + 35 * (d - 1) ≤ 35 * (d); omega) (Nat.le_of_ble_eq_true rfl) (Nat.le_of_ble_eq_true rfl) (Nat.le_of_ble_eq_true rfl) ?_
    refine zG_iret X dX5_tellValue_90 rfl ?_
    exact zD.of rfl rfl rfl rfl
  · refine zG_iload_n X dX5_tellValue_0 rfl ?_
    refine zG_switchIn (off := 90) (tgt := 91) X dX5_tellValue_1 (by decide) (by decide) (by decide) (by decide) ?_
    refine zG_aload_n X dX5_tellValue_91 rfl ?_
    refine zG_getR X dX5_tellValue_92 fl_X5_7 (by first | rfl | assumption) (by first | decide | omega) (by decide) rfl (by first | exact zF_at hF rfl rfl | assumption) ?_
    refine zj_bipush X dX5_tellValue_95 (by decide) ?_
    refine zG_iload_n X dX5_tellValue_97 rfl ?_
    refine zj_iadd X dX5_tellValue_98 ?_
    refine zj_bipush X dX5_tellValue_99 (by decide) ?_
    refine zj_isub X dX5_tellValue_101 ?_
    refine zj_iaload X dX5_tellValue_102 (by first | rfl | assumption) (by first | decide | omega) (8) (by omega) (by omega) ?_
    refine zG_iret X dX5_tellValue_103 rfl ?_
    exact zD.of rfl rfl rfl rfl
  · refine zG_iload_n X dX5_tellValue_0 rfl ?_
    refine zG_switchIn (off := 90) (tgt := 91) X dX5_tellValue_1 (by decide) (by decide) (by decide) (by decide) ?_
    refine zG_aload_n X dX5_tellValue_91 rfl ?_
    refine zG_getR X dX5_tellValue_92 fl_X5_7 (by first | rfl | assumption) (by first | decide | omega) (by decide) rfl (by first | exact zF_at hF rfl rfl | assumption) ?_
    refine zj_bipush X dX5_tellValue_95 (by decide) ?_
    refine zG_iload_n X dX5_tellValue_97 rfl ?_
    refine zj_iadd X dX5_tellValue_98 ?_
    refine zj_bipush X dX5_tellValue_99 (by decide) ?_
    refine zj_isub X dX5_tellValue_101 ?_
    refine zj_iaload X dX5_tellValue_102 (by first | rfl | assumption) (by first | decide | omega) (9) (by omega) (by omega) ?_
    refine zG_iret X dX5_tellValue_103 rfl ?_
    exact zD.of rfl rfl rfl rfl
  · refine zG_iload_n X dX5_tellValue_0 rfl ?_
    refine zG_switchIn (off := 90) (tgt := 91) X dX5_tellValue_1 (by decide) (by decide) (by decide) (by decide) ?_
    refine zG_aload_n X dX5_tellValue_91 rfl ?_
    refine zG_getR X dX5_tellValue_92 fl_X5_7 (by first | rfl | assumption) (by first | decide | omega) (by decide) rfl (by first | exact zF_at hF rfl rfl | assumption) ?_
    refine zj_bipush X dX5_tellValue_95 (by decide) ?_
    refine zG_iload_n X dX5_tellValue_97 rfl ?_
    refine zj_iadd X dX5_tellValue_98 ?_
    refine zj_bipush X dX5_tellValue_99 (by decide) ?_
    refine zj_isub X dX5_tellValue_101 ?_
    refine zj_iaload X dX5_tellValue_102 (by first | rfl | assumption) (by first | decide | omega) (10) (by omega) (by omega) ?_
    refine zG_iret X dX5_tellValue_103 rfl ?_
    exact zD.of rfl rfl rfl rfl
  · refine zG_iload_n X dX5_tellValue_0 rfl ?_
    refine zG_switchIn (off := 90) (tgt := 91) X dX5_tellValue_1 (by decide) (by decide) (by decide) (by decide) ?_
    refine zG_aload_n X dX5_tellValue_91 rfl ?_
    refine zG_getR X dX5_tellValue_92 fl_X5_7 (by first | rfl | assumption) (by first | decide | omega) (by decide) rfl (by first | exact zF_at hF rfl rfl | assumption) ?_
    refine zj_bipush X dX5_tellValue_95 (by decide) ?_
    refine zG_iload_n X dX5_tellValue_97 rfl ?_
    refine zj_iadd X dX5_tellValue_98 ?_
    refine zj_bipush X dX5_tellValue_99 (by decide) ?_
    refine zj_isub X dX5_tellValue_101 ?_
    refine zj_iaload X dX5_tellValue_102 (by first | rfl | assumption) (by first | decide | omega) (11) (by omega) (by omega) ?_
    refine zG_iret X dX5_tellValue_103 rfl ?_
    exact zD.of rfl rfl rfl rfl
  · refine zG_iload_n X dX5_tellValue_0 rfl ?_
    refine zG_switchIn (off := 90) (tgt := 91) X dX5_tellValue_1 (by decide) (by decide) (by decide) (by decide) ?_
    refine zG_aload_n X dX5_tellValue_91 rfl ?_
    refine zG_getR X dX5_tellValue_92 fl_X5_7 (by first | rfl | assumption) (by first | decide | omega) (by decide) rfl (by first | exact zF_at hF rfl rfl | assumption) ?_
    refine zj_bipush X dX5_tellValue_95 (by decide) ?_
    refine zG_iload_n X dX5_tellValue_97 rfl ?_
    refine zj_iadd X dX5_tellValue_98 ?_
    refine zj_bipush X dX5_tellValue_99 (by decide) ?_
    refine zj_isub X dX5_tellValue_101 ?_
    refine zj_iaload X dX5_tellValue_102 (by first | rfl | assumption) (by first | decide | omega) (12) (by omega) (by omega) ?_
    refine zG_iret X dX5_tellValue_103 rfl ?_
    exact zD.of rfl rfl rfl rfl
set_option maxHeartbeats 4000000 in
set_option maxRecDepth 100000 in
theorem k_X5_wheel (lo d : Nat) (hd : 3 ≤ d) (J : Nat → Nat → Int) (G : Nat → Nat → Int64) (F : Nat → Nat → Option Nat) (hF : zFk F) {hs : Nat → Int} {wd : Nat → Nat → Int} {sb : Nat → Bool} (mh : mH (J 51) hs wd sb) (ok : hwOk hs wd) {u v : Int} (hu : zr u) (hv : zr v) : zCt lo yX5_wheel cX5_wheel 3 (some .int) d 0 0 [.ref (lo + 50), .int (zI u), .int (zI v)] 57 57 (zM J) G F (zMR (if ¬ (0 ≤ u ∧ u < J 51 0) then 1 else if v < 0 ∨ 6 < v then 2 else 0) (twM J u.toNat v) J J G F) := by
  refine zCt.mk (by decide) (mv_X5_wheel.2.2.2.1) (Nat.le_of_ble_eq_true rfl) ?_
  intro p l e s m args below meth c D cA X
  have hok := ok.1
  unfold hOk at hok
  have hc5 : (hs 0).toNat ≤ 5 := by omega
  have e0 := mh.1 0 (by decide)
  have po := pT_ok ok
  have vm := mV_H mh
  refine zG_aload_n X dX5_wheel_0 rfl ?_
  refine zG_aload_n X dX5_wheel_1 rfl ?_
  refine zG_iload_n X dX5_wheel_2 rfl ?_
  refine zj_callV1 (as2 := [_]) X (k_X5_isWheel lo (d - 1) (by omega) J G F hF (u := u) hu (by omega) (by omega)) dX5_wheel_3 mv_X5_isWheel ml_X5_61 (by first | rfl | assumption) rfl (by first | decide | omega) rfl rfl (by show d - 1 + 1 ≤ d; omega) (by show 19 + 2 + 35 * (d - 1) ≤ 35 * (d); omega) (Nat.le_of_ble_eq_true rfl) (Nat.le_of_ble_eq_true rfl) (Nat.le_of_ble_eq_true rfl) ?_
  by_cases hb : 0 ≤ u ∧ u ≤ J 51 0 - 1
  · rw [if_pos hb]
    obtain ⟨k, rfl⟩ := Int.eq_ofNat_of_zero_le hb.1
    have hk5 : k < 5 := by omega
    have q0 := mh.2.1 k (by omega) 0 (by decide)
    have q6 := mh.2.1 k (by omega) 6 (by decide)
    have hwk := hwOk_w ok hk5
    have e1 := mh.1 1 (by decide)
    have e12 := mh.1 12 (by decide)
    simp only [Int.toNat_natCast]
    refine zj_if_ne X dX5_wheel_6 (tgt := 13) (by decide) (by first | decide | omega) (fun h_6 => ?_) (fun h_6 => ?_)
    · refine zG_iload_n X dX5_wheel_13 rfl ?_
      refine zj_iconst X dX5_wheel_14 ?_
      refine zj_bipush X dX5_wheel_15 (by decide) ?_
      refine zj_callS1 (as2 := [_, _, _]) X (k_X5_in lo (d - 1) J G F (x := v) (a := 0) (b := 6) (by first | assumption | (unfold zr; omega)) (by first | decide | (unfold zr; omega)) (by first | decide | (unfold zr; omega))) dX5_wheel_17 ms_X5_in ml_X5_41 rfl rfl (by show d - 1 + 1 ≤ d; omega) (by show 19 + 3 + 35 * (d - 1) ≤ 35 * (d); omega) (Nat.le_of_ble_eq_true rfl) (Nat.le_of_ble_eq_true rfl) (Nat.le_of_ble_eq_true rfl) ?_
      by_cases hv2 : 0 ≤ v ∧ v ≤ 6
      · rw [if_pos hv2]
        refine zj_if_eq X dX5_wheel_20 (tgt := 27) (by decide) (by first | decide | omega) (fun h_20 => ?_) (fun h_20 => ?_)
        · exact absurd h_20 (by first | decide | omega)
        · refine zj_iconst X dX5_wheel_23 ?_
          refine zG_goto X dX5_wheel_24 (tgt := 28) (by decide) ?_
          refine zj_callV1 (as2 := [_]) X (k_X5_refused lo (d - 1) J G F (x := 0) (by decide)) dX5_wheel_28 mv_X5_refused ml_X5_33 (by first | rfl | assumption) rfl (by first | decide | omega) rfl rfl (by show d - 1 + 1 ≤ d; omega) (by show 19 + 2 + 35 * (d - 1) ≤ 35 * (d); omega) (Nat.le_of_ble_eq_true rfl) (Nat.le_of_ble_eq_true rfl) (Nat.le_of_ble_eq_true rfl) ?_
          refine zj_if_eq X dX5_wheel_31 (tgt := 38) (by decide) (by first | decide | omega) (fun h_31 => ?_) (fun h_31 => ?_)
          · refine zG_aload_n X dX5_wheel_38 rfl ?_
            refine zG_iload_n X dX5_wheel_39 rfl ?_
            refine zG_iload_n X dX5_wheel_40 rfl ?_
            refine zj_callV1 (as2 := [_, _]) X (k_X5_tellWheel lo (d - 1) (by omega) (zup J 50 4 0) G F hF (k := k) hk5 (q := v) (by omega) (by omega) (by rw [z51]; omega) (by rw [z51]; omega) (by rw [z51]; omega) (by rw [z51]; omega) (by rw [z51]; omega) (by rw [z51, z51]; omega) (by rw [z51]; omega)) dX5_wheel_41 mv_X5_tellWheel ml_X5_102 (by first | rfl | assumption) rfl (by first | decide | omega) rfl rfl (by show d - 1 + 1 ≤ d; omega) (by show 19 + 3 + 35 * (d - 1) ≤ 35 * (d); omega) (Nat.le_of_ble_eq_true rfl) (Nat.le_of_ble_eq_true rfl) (Nat.le_of_ble_eq_true rfl) ?_
            refine zG_iret X dX5_wheel_44 rfl ?_
            first
              | exact zMR.no (if_pos (by omega)) (by decide)
              | exact zMR.no ((if_neg (by omega)).trans (if_pos (by omega))) (by decide)
              | exact zMR.yes ((if_neg (by omega)).trans (if_neg (by omega))) zup_eq (by unfold twM; simp only [z51]) sameM_r
          · exact absurd h_31 (by first | decide | omega)
      · rw [if_neg hv2]
        refine zj_if_eq X dX5_wheel_20 (tgt := 27) (by decide) (by first | decide | omega) (fun h_20 => ?_) (fun h_20 => ?_)
        · refine zj_iconst X dX5_wheel_27 ?_
          refine zj_callV1 (as2 := [_]) X (k_X5_refused lo (d - 1) J G F (x := 2) (by decide)) dX5_wheel_28 mv_X5_refused ml_X5_33 (by first | rfl | assumption) rfl (by first | decide | omega) rfl rfl (by show d - 1 + 1 ≤ d; omega) (by show 19 + 2 + 35 * (d - 1) ≤ 35 * (d); omega) (Nat.le_of_ble_eq_true rfl) (Nat.le_of_ble_eq_true rfl) (Nat.le_of_ble_eq_true rfl) ?_
          refine zj_if_eq X dX5_wheel_31 (tgt := 38) (by decide) (by first | decide | omega) (fun h_31 => ?_) (fun h_31 => ?_)
          · exact absurd h_31 (by first | decide | omega)
          · refine zj_iconst X dX5_wheel_34 ?_
            refine zG_goto X dX5_wheel_35 (tgt := 44) (by decide) ?_
            refine zG_iret X dX5_wheel_44 rfl ?_
            first
              | exact zMR.no (if_pos (by omega)) (by decide)
              | exact zMR.no ((if_neg (by omega)).trans (if_pos (by omega))) (by decide)
              | exact zMR.yes ((if_neg (by omega)).trans (if_neg (by omega))) zup_eq (by unfold twM; simp only [z51]) sameM_r
        · exact absurd h_20 (by first | decide | omega)
    · exact absurd h_6 (by first | decide | omega)
  · rw [if_neg hb]
    refine zj_if_ne X dX5_wheel_6 (tgt := 13) (by decide) (by first | decide | omega) (fun h_6 => ?_) (fun h_6 => ?_)
    · exact absurd h_6 (by first | decide | omega)
    · refine zj_iconst X dX5_wheel_9 ?_
      refine zG_goto X dX5_wheel_10 (tgt := 28) (by decide) ?_
      refine zj_callV1 (as2 := [_]) X (k_X5_refused lo (d - 1) J G F (x := 1) (by decide)) dX5_wheel_28 mv_X5_refused ml_X5_33 (by first | rfl | assumption) rfl (by first | decide | omega) rfl rfl (by show d - 1 + 1 ≤ d; omega) (by show 19 + 2 + 35 * (d - 1) ≤ 35 * (d); omega) (Nat.le_of_ble_eq_true rfl) (Nat.le_of_ble_eq_true rfl) (Nat.le_of_ble_eq_true rfl) ?_
      refine zj_if_eq X dX5_wheel_31 (tgt := 38) (by decide) (by first | decide | omega) (fun h_31 => ?_) (fun h_31 => ?_)
      · exact absurd h_31 (by first | decide | omega)
      · refine zj_iconst X dX5_wheel_34 ?_
        refine zG_goto X dX5_wheel_35 (tgt := 44) (by decide) ?_
        refine zG_iret X dX5_wheel_44 rfl ?_
        first
          | exact zMR.no (if_pos (by omega)) (by decide)
          | exact zMR.no ((if_neg (by omega)).trans (if_pos (by omega))) (by decide)
          | exact zMR.yes ((if_neg (by omega)).trans (if_neg (by omega))) zup_eq (by unfold twM; simp only [z51]) sameM_r
set_option maxHeartbeats 4000000 in
set_option maxRecDepth 100000 in
theorem k_X5_value (lo d : Nat) (hd : 2 ≤ d) (J : Nat → Nat → Int) (G : Nat → Nat → Int64) (F : Nat → Nat → Option Nat) (hF : zFk F) {u : Int} (hu : zr u) : zCt lo yX5_value cX5_value 2 (some .int) d 0 0 [.ref (lo + 50), .int (zI u)] 57 57 (zM J) G F (zMR (if u < 0 ∨ 13 < u then 1 else 0) (tvM J u) J J G F) := by
  refine zCt.mk (by decide) (mv_X5_value.2.2.2.1) (Nat.le_of_ble_eq_true rfl) ?_
  intro p l e s m args below meth c D cA X
  refine zG_aload_n X dX5_value_0 rfl ?_
  refine zG_iload_n X dX5_value_1 rfl ?_
  refine zj_iconst X dX5_value_2 ?_
  refine zj_bipush X dX5_value_3 (by decide) ?_
  refine zj_callS1 (as2 := [_, _, _]) X (k_X5_in lo (d - 1) J G F (x := u) (a := 0) (b := 13) (by first | assumption | (unfold zr; omega)) (by first | decide | (unfold zr; omega)) (by first | decide | (unfold zr; omega))) dX5_value_5 ms_X5_in ml_X5_41 rfl rfl (by show d - 1 + 1 ≤ d; omega) (by show 19 + 3 + 35 * (d - 1) ≤ 35 * (d); omega) (Nat.le_of_ble_eq_true rfl) (Nat.le_of_ble_eq_true rfl) (Nat.le_of_ble_eq_true rfl) ?_
  by_cases hb : 0 ≤ u ∧ u ≤ 13
  · rw [if_pos hb]
    refine zj_if_eq X dX5_value_8 (tgt := 15) (by decide) (by first | decide | omega) (fun h_8 => ?_) (fun h_8 => ?_)
    · exact absurd h_8 (by first | decide | omega)
    · refine zj_iconst X dX5_value_11 ?_
      refine zG_goto X dX5_value_12 (tgt := 16) (by decide) ?_
      refine zj_callV1 (as2 := [_]) X (k_X5_refused lo (d - 1) J G F (x := 0) (by decide)) dX5_value_16 mv_X5_refused ml_X5_33 (by first | rfl | assumption) rfl (by first | decide | omega) rfl rfl (by show d - 1 + 1 ≤ d; omega) (by show 19 + 2 + 35 * (d - 1) ≤ 35 * (d); omega) (Nat.le_of_ble_eq_true rfl) (Nat.le_of_ble_eq_true rfl) (Nat.le_of_ble_eq_true rfl) ?_
      refine zj_if_eq X dX5_value_19 (tgt := 26) (by decide) (by first | decide | omega) (fun h_19 => ?_) (fun h_19 => ?_)
      · refine zG_aload_n X dX5_value_26 rfl ?_
        refine zG_iload_n X dX5_value_27 rfl ?_
        refine zj_callV1 (as2 := [_]) X (k_X5_tellValue lo (d - 1) (by omega) (zup J 50 4 0) G F hF (q := u) (by omega) (by omega)) dX5_value_28 mv_X5_tellValue ml_X5_105 (by first | rfl | assumption) rfl (by first | decide | omega) rfl rfl (by show d - 1 + 1 ≤ d; omega) (by show 19 + 2 + 35 * (d - 1) ≤ 35 * (d); omega) (Nat.le_of_ble_eq_true rfl) (Nat.le_of_ble_eq_true rfl) (Nat.le_of_ble_eq_true rfl) ?_
        refine zG_iret X dX5_value_31 rfl ?_
        first
          | exact zMR.no (if_pos (by omega)) (by decide)
          | exact zMR.yes (if_neg (by omega)) zup_eq (by unfold tvM; simp only [z51]) sameM_r
      · exact absurd h_19 (by first | decide | omega)
  · rw [if_neg hb]
    refine zj_if_eq X dX5_value_8 (tgt := 15) (by decide) (by first | decide | omega) (fun h_8 => ?_) (fun h_8 => ?_)
    · refine zj_iconst X dX5_value_15 ?_
      refine zj_callV1 (as2 := [_]) X (k_X5_refused lo (d - 1) J G F (x := 1) (by decide)) dX5_value_16 mv_X5_refused ml_X5_33 (by first | rfl | assumption) rfl (by first | decide | omega) rfl rfl (by show d - 1 + 1 ≤ d; omega) (by show 19 + 2 + 35 * (d - 1) ≤ 35 * (d); omega) (Nat.le_of_ble_eq_true rfl) (Nat.le_of_ble_eq_true rfl) (Nat.le_of_ble_eq_true rfl) ?_
      refine zj_if_eq X dX5_value_19 (tgt := 26) (by decide) (by first | decide | omega) (fun h_19 => ?_) (fun h_19 => ?_)
      · exact absurd h_19 (by first | decide | omega)
      · refine zj_iconst X dX5_value_22 ?_
        refine zG_goto X dX5_value_23 (tgt := 31) (by decide) ?_
        refine zG_iret X dX5_value_31 rfl ?_
        first
          | exact zMR.no (if_pos (by omega)) (by decide)
          | exact zMR.yes (if_neg (by omega)) zup_eq (by unfold tvM; simp only [z51]) sameM_r
    · exact absurd h_8 (by first | decide | omega)
