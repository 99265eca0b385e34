/-! the Model's looks ahead that may be refused; meetings -/
theorem zMR.lk {r A a : Int} {J J2 : Nat → Nat → Int} {G : Nat → Nat → Int64} {F : Nat → Nat → Option Nat} (h : r = 0) (ha : a = A) (hs : sameM J2 (zup J 50 4 0)) (h4 : J2 50 4 = zup J 50 4 0 50 4) : zMR r A J J G F [.int (zI a)] (zM J2) G F := zMR.yes h (h4.trans zup_eq) ha (sameM_tr hs sameM_r)
theorem mH_r {J : Nat → Nat → Int} {hs : Nat → Int} {wd : Nat → Nat → Int} {sb : Nat → Bool} {r : Int} (h : mH (J 51) hs wd sb) : mH (zup J 50 4 r 51) hs wd sb := by
  rw [show zup J 50 4 r 51 = J 51 from funext fun i => z51]
  exact h
set_option maxHeartbeats 4000000 in
set_option maxRecDepth 100000 in
theorem k_X5_isAfter (lo d : Nat) (hd : 1 ≤ d) (J : Nat → Nat → Int) (G : Nat → Nat → Int64) (F : Nat → Nat → Option Nat) {u : Int} (hu : zr u) : zCt lo yX5_isAfter cX5_isAfter 1 (some .boolean) d 0 0 [.int (zI u)] 57 57 (zM J) G F (zD [.int (zI (if 0 ≤ u ∧ u ≤ 1000 then 1 else 0))] J G F) := by
  refine zCt.mk (by decide) (ms_X5_isAfter.2.2.1) (Nat.le_of_ble_eq_true rfl) ?_
  intro p l e s m args below meth c D cA X
  refine zG_iload_n X dX5_isAfter_0 rfl ?_
  refine zj_iconst X dX5_isAfter_1 ?_
  refine zj_sipush X dX5_isAfter_2 (by decide) ?_
  refine zj_callS1 (as2 := [_, _, _]) X (k_X5_in lo (d - 1) J G F (x := u) (a := 0) (b := 1000) (by first | assumption | (unfold zr; omega)) (by first | decide | (unfold zr; omega)) (by first | decide | (unfold zr; omega))) dX5_isAfter_5 ms_X5_in ml_X5_41 rfl rfl (by show d - 1 + 1 ≤ d; omega) (by show 19 + 3 + 35 * (d - 1) ≤ 35 * (d); omega) (Nat.le_of_ble_eq_true rfl) (Nat.le_of_ble_eq_true rfl) (Nat.le_of_ble_eq_true rfl) ?_
  by_cases hq : 0 ≤ u ∧ u ≤ 1000
  · rw [if_pos hq]
    refine zG_zret X dX5_isAfter_8 rfl (by first | rfl | assumption) ?_
    exact zD.rf
  · rw [if_neg hq]
    refine zG_zret X dX5_isAfter_8 rfl (by first | rfl | assumption) ?_
    exact zD.rf
set_option maxHeartbeats 4000000 in
set_option maxRecDepth 100000 in
theorem k_X5_highWater (lo d : Nat) (hd : 4 ≤ d) (J : Nat → Nat → Int) (G : Nat → Nat → Int64) (F : Nat → Nat → Option Nat) (hF : zFk F) {hs : Nat → Int} {wd : Nat → Nat → Int} {sb : Nat → Bool} (mh : mH (J 51) hs wd sb) (ok : hwOk hs wd) {u : Int} (hu : zr u) : zCt lo yX5_highWater cX5_highWater 2 (some .int) d 0 0 [.ref (lo + 50), .int (zI u)] 57 57 (zM J) G F (zMR (if u < 0 ∨ 1000 < u then 1 else 0) (hwR hs wd u.toNat) J J G F) := by
  refine zCt.mk (by decide) (mv_X5_highWater.2.2.2.1) (Nat.le_of_ble_eq_true rfl) ?_
  intro p l e s m args below meth c D cA X
  refine zG_aload_n X dX5_highWater_0 rfl ?_
  refine zG_iload_n X dX5_highWater_1 rfl ?_
  refine zj_callS1 (as2 := [_]) X (k_X5_isAfter lo (d - 1) (by omega) J G F (u := u) hu) dX5_highWater_2 ms_X5_isAfter ml_X5_114 rfl rfl (by show d - 1 + 1 ≤ d; omega) (by show 19 + 1 + 35 * (d - 1) ≤ 35 * (d); omega) (Nat.le_of_ble_eq_true rfl) (Nat.le_of_ble_eq_true rfl) (Nat.le_of_ble_eq_true rfl) ?_
  by_cases hb : 0 ≤ u ∧ u ≤ 1000
  · rw [if_pos hb]
    refine zj_if_eq X dX5_highWater_5 (tgt := 12) (by decide) (by first | decide | omega) (fun h_5 => ?_) (fun h_5 => ?_)
    · exact absurd h_5 (by first | decide | omega)
    · refine zj_iconst X dX5_highWater_8 ?_
      refine zG_goto X dX5_highWater_9 (tgt := 13) (by decide) ?_
      refine zj_callV1 (as2 := [_]) X (k_X5_refused lo (d - 1) J G F (x := 0) (by decide)) dX5_highWater_13 mv_X5_refused ml_X5_33 (by first | rfl | assumption) rfl (by first | decide | omega) rfl rfl (by show d - 1 + 1 ≤ d; omega) (by show 19 + 2 + 35 * (d - 1) ≤ 35 * (d); omega) (Nat.le_of_ble_eq_true rfl) (Nat.le_of_ble_eq_true rfl) (Nat.le_of_ble_eq_true rfl) ?_
      refine zj_if_eq X dX5_highWater_16 (tgt := 23) (by decide) (by first | decide | omega) (fun h_16 => ?_) (fun h_16 => ?_)
      · have hfn := k_X5_highOn lo (d - 1) (by omega) (zup J 50 4 0) G F hF (mH_r mh) ok (n := u.toNat) (by omega)
        rw [show ((u.toNat : Nat) : Int) = u by omega] at hfn
        refine zG_aload_n X dX5_highWater_23 rfl ?_
        refine zG_iload_n X dX5_highWater_24 rfl ?_
        refine zG_callV (as2 := [_]) rfl X (hfn) dX5_highWater_25 mv_X5_highOn ml_X5_117 (by first | rfl | assumption) rfl (by first | decide | omega) rfl (by show d - 1 + 1 ≤ d; omega) (by show 19 + 3 + 35 * (d - 1) ≤ 35 * (d); omega) (Nat.le_of_ble_eq_true rfl) (Nat.le_of_ble_eq_true rfl) (Nat.le_of_ble_eq_true rfl) ?_
        rintro v2 I3 G3 F3 ⟨rfl, ⟨J2, rfl, hsm, h54⟩, rfl, rfl⟩
        refine zG_iret X dX5_highWater_28 rfl ?_
        first
          | exact zMR.no (if_pos (by omega)) (by decide)
          | exact zMR.lk (if_neg (by omega)) rfl hsm h54
      · exact absurd h_16 (by first | decide | omega)
  · rw [if_neg hb]
    refine zj_if_eq X dX5_highWater_5 (tgt := 12) (by decide) (by first | decide | omega) (fun h_5 => ?_) (fun h_5 => ?_)
    · refine zj_iconst X dX5_highWater_12 ?_
      refine zj_callV1 (as2 := [_]) X (k_X5_refused lo (d - 1) J G F (x := 1) (by decide)) dX5_highWater_13 mv_X5_refused ml_X5_33 (by first | rfl | assumption) rfl (by first | decide | omega) rfl rfl (by show d - 1 + 1 ≤ d; omega) (by show 19 + 2 + 35 * (d - 1) ≤ 35 * (d); omega) (Nat.le_of_ble_eq_true rfl) (Nat.le_of_ble_eq_true rfl) (Nat.le_of_ble_eq_true rfl) ?_
      refine zj_if_eq X dX5_highWater_16 (tgt := 23) (by decide) (by first | decide | omega) (fun h_16 => ?_) (fun h_16 => ?_)
      · exact absurd h_16 (by first | decide | omega)
      · refine zj_iconst X dX5_highWater_19 ?_
        refine zG_goto X dX5_highWater_20 (tgt := 28) (by decide) ?_
        refine zG_iret X dX5_highWater_28 rfl ?_
        first
          | exact zMR.no (if_pos (by omega)) (by decide)
          | exact zMR.lk (if_neg (by omega)) rfl hsm h54
    · exact absurd h_5 (by first | decide | omega)
set_option maxHeartbeats 4000000 in
set_option maxRecDepth 100000 in
theorem k_X5_market (lo d : Nat) (hd : 8 ≤ d) (J : Nat → Nat → Int) (G : Nat → Nat → Int64) (F : Nat → Nat → Option Nat) (hF : zFk F) {hs : Nat → Int} {wd : Nat → Nat → Int} {sb : Nat → Bool} (mh : mH (J 51) hs wd sb) (ok : hwOk hs wd) {u : Int} (hu : zr u) : zCt lo yX5_market cX5_market 2 (some .int) d 0 0 [.ref (lo + 50), .int (zI u)] 57 57 (zM J) G F (zMR (if u < 0 ∨ 1000 < u then 1 else 0) (mkR hs wd sb u.toNat) J J G F) := by
  refine zCt.mk (by decide) (mv_X5_market.2.2.2.1) (Nat.le_of_ble_eq_true rfl) ?_
  intro p l e s m args below meth c D cA X
  refine zG_aload_n X dX5_market_0 rfl ?_
  refine zG_iload_n X dX5_market_1 rfl ?_
  refine zj_callS1 (as2 := [_]) X (k_X5_isAfter lo (d - 1) (by omega) J G F (u := u) hu) dX5_market_2 ms_X5_isAfter ml_X5_114 rfl rfl (by show d - 1 + 1 ≤ d; omega) (by show 19 + 1 + 35 * (d - 1) ≤ 35 * (d); omega) (Nat.le_of_ble_eq_true rfl) (Nat.le_of_ble_eq_true rfl) (Nat.le_of_ble_eq_true rfl) ?_
  by_cases hb : 0 ≤ u ∧ u ≤ 1000
  · rw [if_pos hb]
    refine zj_if_eq X dX5_market_5 (tgt := 12) (by decide) (by first | decide | omega) (fun h_5 => ?_) (fun h_5 => ?_)
    · exact absurd h_5 (by first | decide | omega)
    · refine zj_iconst X dX5_market_8 ?_
      refine zG_goto X dX5_market_9 (tgt := 13) (by decide) ?_
      refine zj_callV1 (as2 := [_]) X (k_X5_refused lo (d - 1) J G F (x := 0) (by decide)) dX5_market_13 mv_X5_refused ml_X5_33 (by first | rfl | assumption) rfl (by first | decide | omega) rfl rfl (by show d - 1 + 1 ≤ d; omega) (by show 19 + 2 + 35 * (d - 1) ≤ 35 * (d); omega) (Nat.le_of_ble_eq_true rfl) (Nat.le_of_ble_eq_true rfl) (Nat.le_of_ble_eq_true rfl) ?_
      refine zj_if_eq X dX5_market_16 (tgt := 23) (by decide) (by first | decide | omega) (fun h_16 => ?_) (fun h_16 => ?_)
      · have hfn := k_X5_marketOn lo (d - 1) (by omega) (zup J 50 4 0) G F hF (mH_r mh) ok (n := u.toNat) (by omega)
        rw [show ((u.toNat : Nat) : Int) = u by omega] at hfn
        refine zG_aload_n X dX5_market_23 rfl ?_
        refine zG_iload_n X dX5_market_24 rfl ?_
        refine zG_callV (as2 := [_]) rfl X (hfn) dX5_market_25 mv_X5_marketOn ml_X5_120 (by first | rfl | assumption) rfl (by first | decide | omega) rfl (by show d - 1 + 1 ≤ d; omega) (by show 19 + 4 + 35 * (d - 1) ≤ 35 * (d); omega) (Nat.le_of_ble_eq_true rfl) (Nat.le_of_ble_eq_true rfl) (Nat.le_of_ble_eq_true rfl) ?_
        rintro v2 I3 G3 F3 ⟨rfl, ⟨J2, rfl, hsm, h54⟩, rfl, rfl⟩
        refine zG_iret X dX5_market_28 rfl ?_
        first
          | exact zMR.no (if_pos (by omega)) (by decide)
          | exact zMR.lk (if_neg (by omega)) rfl hsm h54
      · exact absurd h_16 (by first | decide | omega)
  · rw [if_neg hb]
    refine zj_if_eq X dX5_market_5 (tgt := 12) (by decide) (by first | decide | omega) (fun h_5 => ?_) (fun h_5 => ?_)
    · refine zj_iconst X dX5_market_12 ?_
      refine zj_callV1 (as2 := [_]) X (k_X5_refused lo (d - 1) J G F (x := 1) (by decide)) dX5_market_13 mv_X5_refused ml_X5_33 (by first | rfl | assumption) rfl (by first | decide | omega) rfl rfl (by show d - 1 + 1 ≤ d; omega) (by show 19 + 2 + 35 * (d - 1) ≤ 35 * (d); omega) (Nat.le_of_ble_eq_true rfl) (Nat.le_of_ble_eq_true rfl) (Nat.le_of_ble_eq_true rfl) ?_
      refine zj_if_eq X dX5_market_16 (tgt := 23) (by decide) (by first | decide | omega) (fun h_16 => ?_) (fun h_16 => ?_)
      · exact absurd h_16 (by first | decide | omega)
      · refine zj_iconst X dX5_market_19 ?_
        refine zG_goto X dX5_market_20 (tgt := 28) (by decide) ?_
        refine zG_iret X dX5_market_28 rfl ?_
        first
          | exact zMR.no (if_pos (by omega)) (by decide)
          | exact zMR.lk (if_neg (by omega)) rfl hsm h54
    · exact absurd h_5 (by first | decide | omega)
set_option maxHeartbeats 4000000 in
set_option maxRecDepth 100000 in
theorem k_X5_nextMarket (lo d : Nat) (hd : 7 ≤ d) (J : Nat → Nat → Int) (G : Nat → Nat → Int64) (F : Nat → Nat → Option Nat) (hF : zFk F) {hs : Nat → Int} {wd : Nat → Nat → Int} {sb : Nat → Bool} (mh : mH (J 51) hs wd sb) (ok : hwOk hs wd) {N : Nat} (hN : N = 2001) : zCt lo yX5_nextMarket cX5_nextMarket 1 (some .int) d 0 0 [.ref (lo + 50)] 57 57 (zM J) G F (zMR 0 (zfind (nmP hs wd sb) N 0) J J G F) := by
  refine zCt.mk (by decide) (mv_X5_nextMarket.2.2.2.1) (Nat.le_of_ble_eq_true rfl) ?_
  intro p l e s m args below meth c D cA X
  refine zG_aload_n X dX5_nextMarket_0 rfl ?_
  refine zj_iconst X dX5_nextMarket_1 ?_
  refine zj_put X dX5_nextMarket_2 fl_X5_26 (by first | rfl | assumption) (by first | decide | omega) (by decide) rfl rfl ?_
  refine zG_aload_n X dX5_nextMarket_5 rfl ?_
  refine zG_callV (as2 := []) rfl X (k_X5_nextOne lo (d - 1) (by omega) (zup J 50 4 0) G F hF (mH_r mh) ok hN) dX5_nextMarket_6 mv_X5_nextOne ml_X5_123 (by first | rfl | assumption) rfl (by first | decide | omega) rfl (by show d - 1 + 1 ≤ d; omega) (by show 19 + 3 + 35 * (d - 1) ≤ 35 * (d); omega) (Nat.le_of_ble_eq_true rfl) (Nat.le_of_ble_eq_true rfl) (Nat.le_of_ble_eq_true rfl) ?_
  rintro v2 I3 G3 F3 ⟨rfl, ⟨J2, rfl, hsm, h54⟩, rfl, rfl⟩
  refine zG_iret X dX5_nextMarket_9 rfl ?_
  exact zMR.lk rfl rfl hsm h54
set_option maxHeartbeats 4000000 in
set_option maxRecDepth 100000 in
theorem k_X5_isSet (lo d : Nat) (hd : 1 ≤ d) (J : Nat → Nat → Int) (G : Nat → Nat → Int64) (F : Nat → Nat → Option Nat) (hF : zFk F) {u : Int} (hu : zr u) (h1 : 0 ≤ J 51 0) (h2 : J 51 0 ≤ 5) : zCt lo yX5_isSet cX5_isSet 2 (some .boolean) d 0 0 [.ref (lo + 50), .int (zI u)] 57 57 (zM J) G F (zD [.int (zI (if 0 < u ∧ u < 2 ^ (J 51 0).toNat then 1 else 0))] J G F) := by
  refine zCt.mk (by decide) (mv_X5_isSet.2.2.2.1) (Nat.le_of_ble_eq_true rfl) ?_
  intro p l e s m args below meth c D cA X
  have hp : (2 : Int) ^ (J 51 0).toNat ≤ 32 := by
    have : (J 51 0).toNat = 0 ∨ (J 51 0).toNat = 1 ∨ (J 51 0).toNat = 2 ∨ (J 51 0).toNat = 3 ∨ (J 51 0).toNat = 4 ∨ (J 51 0).toNat = 5 := by omega
    rcases this with h | h | h | h | h | h <;> rw [h] <;> decide
  have hp0 : (0 : Int) < 2 ^ (J 51 0).toNat := Int.pow_pos (by decide)
  refine zG_iload_n X dX5_isSet_0 rfl ?_
  refine zj_iconst X dX5_isSet_1 ?_
  refine zj_iconst X dX5_isSet_2 ?_
  refine zG_aload_n X dX5_isSet_3 rfl ?_
  refine zG_getR X dX5_isSet_4 fl_X5_7 (by first | rfl | assumption) (by first | decide | omega) (by decide) rfl (by first | exact zF_at hF rfl rfl | assumption) ?_
  refine zj_iconst X dX5_isSet_7 ?_
  refine zj_iaload X dX5_isSet_8 (by first | rfl | assumption) (by first | decide | omega) (0) (by decide) (by decide) ?_
  refine zj_ishl1 X dX5_isSet_9 (by omega) (by omega) ?_
  refine zj_iconst X dX5_isSet_10 ?_
  refine zj_isub X dX5_isSet_11 ?_
  refine zj_callS1 (as2 := [_, _, _]) X (k_X5_in lo (d - 1) J G F (x := u) (a := 1) (b := 2 ^ (J 51 0).toNat - 1) hu (by decide) (by unfold zr; omega)) dX5_isSet_12 ms_X5_in ml_X5_41 rfl rfl (by show d - 1 + 1 ≤ d; omega) (by show 19 + 3 + 35 * (d - 1) ≤ 35 * (d); omega) (Nat.le_of_ble_eq_true rfl) (Nat.le_of_ble_eq_true rfl) (Nat.le_of_ble_eq_true rfl) ?_
  by_cases hq : 0 < u ∧ u < 2 ^ (J 51 0).toNat
  · rw [if_pos hq, if_pos (by omega)]
    refine zG_zret X dX5_isSet_15 rfl (by first | rfl | assumption) ?_
    exact zD.rf
  · rw [if_neg hq, if_neg (by omega)]
    refine zG_zret X dX5_isSet_15 rfl (by first | rfl | assumption) ?_
    exact zD.rf
def meF (wd : Nat → Nat → Int) (u : Int) (q : Nat → Int) : Nat → Int
  | 0 => 1
  | k + 1 => if meF wd u q k = 1 ∧ (u / 2 ^ k % 2 = 0 ∨ q k = wd k 2) then 1 else 0
theorem meF_s {wd : Nat → Nat → Int} {u : Int} {q : Nat → Int} {k : Nat} : meF wd u q (k + 1) = if meF wd u q k = 1 ∧ (u / 2 ^ k % 2 = 0 ∨ q k = wd k 2) then 1 else 0 := rfl
theorem meF_01 {wd : Nat → Nat → Int} {u : Int} {q : Nat → Int} : ∀ k, meF wd u q k = 0 ∨ meF wd u q k = 1
  | 0 => Or.inr rfl
  | k + 1 => by
    rw [meF_s]
    split <;> simp
theorem meF_i {wd : Nat → Nat → Int} {u : Int} {q : Nat → Int} : ∀ n, meF wd u q n = 1 ↔ ∀ k, k < n → (u / 2 ^ k % 2 = 0 ∨ q k = wd k 2)
  | 0 => ⟨fun _ k hk => absurd hk (Nat.not_lt_zero k), fun _ => rfl⟩
  | n + 1 => by
    rw [meF_s]
    constructor
    · intro h k hk
      split at h
      · rename_i hh
        by_cases hkn : k = n
        · subst hkn; exact hh.2
        · exact (meF_i n).mp hh.1 k (by omega)
      · exact absurd h (by decide)
    · intro h
      rw [if_pos ⟨(meF_i n).mpr (fun k hk => h k (by omega)), h n (by omega)⟩]
set_option maxHeartbeats 4000000 in
set_option maxRecDepth 100000 in
theorem k_X5_meets (lo d : Nat) (hd : 2 ≤ d) (J : Nat → Nat → Int) (G : Nat → Nat → Int64) (F : Nat → Nat → Option Nat) (hF : zFk F) {hs : Nat → Int} {wd : Nat → Nat → Int} {sb : Nat → Bool} {ps : Nat → Int} {lag wt : Int} {sk : Bool} (v : mV (J 51) hs wd sb ps lag wt sk) (ok : hwOk hs wd) (po : pOk wd ps) (hm2 : ∀ k, k < (hs 0).toNat → J 51 (13 + 7 * k + 2) = wd k 2) {u : Int} (u1 : 0 ≤ u) (u2 : zr u) : zCt lo yX5_meets cX5_meets 4 (some .boolean) d 0 0 [.ref (lo + 50), .int (zI u)] 57 57 (zM J) G F (zD [.int (zI (meF wd u ps (hs 0).toNat))] J G F) := by
  refine zCt.mk (by decide) (mv_X5_meets.2.2.2.1) (Nat.le_of_ble_eq_true rfl) ?_
  intro p l e s m args below meth c D cA X
  obtain ⟨e0, e2, e3, e4, e5, e6, e7, e11⟩ := v.1
  have hok := ok.1
  unfold hOk at hok
  have hc5 : (hs 0).toNat ≤ 5 := by omega
  have loop : ∀ (q k : Nat), k + q = (hs 0).toNat → zG p l e { frames := d, cells := 0, slots := 0, locals := 35 * d } s m args below meth c D cA lo 4 0 0 (MQ below (zQ D cA lo 57 (zD [.int (zI (meF wd u ps (hs 0).toNat))] J G F)) args s 0 0 (fun q => lo ≤ q)) 57 (zM (J)) G F [some (.ref (lo + 50)), some (.int (zI u)), some (.int (zI (meF wd u ps k))), some (.int (zI (k : Int)))] [] 4 := by
    intro q
    induction q with
    | zero =>
      intro k  hk
      refine zG_iload_n X dX5_meets_4 rfl ?_
      refine zG_aload_n X dX5_meets_5 rfl ?_
      refine zG_getR X dX5_meets_6 fl_X5_7 (by first | rfl | assumption) (by first | decide | omega) (by decide) rfl (by first | exact zF_at hF rfl rfl | assumption) ?_
      refine zj_iconst X dX5_meets_9 ?_
      refine zj_ialoadv (v := hs 0) X dX5_meets_10 (by first | rfl | assumption) (by first | decide | omega) (0) (by decide) (by decide) (e0) ?_
      refine zj_icmp_ge X dX5_meets_11 (tgt := 53) (by decide) (by first | decide | omega) (by first | decide | omega) (fun h_11 => ?_) (fun h_11 => ?_)
      · refine zG_iload_n X dX5_meets_53 rfl ?_
        obtain rfl : k = (hs 0).toNat := by omega
        refine zG_zret X dX5_meets_54 rfl (by rcases meF_01 (wd := wd) (u := u) (q := ps) (hs 0).toNat with z | z <;> rw [z] <;> rfl) ?_
        exact zD.rf
      · exact absurd h_11 (by first | decide | omega)
    | succ q ih =>
      intro k  hk
      have hv := v.2.1 k (by omega)
      have hpk := po k (by omega)
      have hwk := hwOk_w ok (k := k) (by omega)
      have hq1 : 0 ≤ u / 2 ^ k := Int.ediv_nonneg u1 (Int.le_of_lt (Int.pow_pos (by decide)))
      have hq2 : u / 2 ^ k ≤ u := Int.ediv_le_self _ u1
      have hf1 := meF_01 (wd := wd) (u := u) (q := ps) k
      refine zG_iload_n X dX5_meets_4 rfl ?_
      refine zG_aload_n X dX5_meets_5 rfl ?_
      refine zG_getR X dX5_meets_6 fl_X5_7 (by first | rfl | assumption) (by first | decide | omega) (by decide) rfl (by first | exact zF_at hF rfl rfl | assumption) ?_
      refine zj_iconst X dX5_meets_9 ?_
      refine zj_ialoadv (v := hs 0) X dX5_meets_10 (by first | rfl | assumption) (by first | decide | omega) (0) (by decide) (by decide) (e0) ?_
      refine zj_icmp_ge X dX5_meets_11 (tgt := 53) (by decide) (by first | decide | omega) (by first | decide | omega) (fun h_11 => ?_) (fun h_11 => ?_)
      · exact absurd h_11 (by first | decide | omega)
      · refine zG_iload_n X dX5_meets_14 rfl ?_
        refine zj_if_eq X dX5_meets_15 (tgt := 45) (by decide) (by first | decide | omega) (fun h_15 => ?_) (fun h_15 => ?_)
        · refine zj_iconst X dX5_meets_45 ?_
          refine zG_istore_n X dX5_meets_46 (by decide) rfl ?_
          refine zj_iinc X dX5_meets_47 rfl (by decide) rfl ?_
          refine zG_goto X dX5_meets_50 (tgt := 4) (by decide) ?_
          have hi := ih (k + 1) (by omega)
          rw [meF_s] at hi
          first
            | (rw [if_pos ⟨by omega, by first | exact Or.inl hb | exact Or.inr (by omega)⟩] at hi; exact hi)
            | (rw [if_neg (by rintro ⟨z1, z2 | z2⟩ <;> first | omega | exact hb z2)] at hi; exact hi)
        · refine zG_iload_n X dX5_meets_18 rfl ?_
          refine zG_iload_n X dX5_meets_19 rfl ?_
          refine zj_ishr X dX5_meets_20 (by omega) (by omega) (by omega) ?_
          refine zj_iconst X dX5_meets_21 ?_
          refine zj_iand1 X dX5_meets_22 (by omega) (by omega) ?_
          by_cases hb : u / 2 ^ k % 2 = 0
          · refine zj_if_eq X dX5_meets_23 (tgt := 41) (by decide) (by first | decide | omega) (fun h_23 => ?_) (fun h_23 => ?_)
            · refine zj_iconst X dX5_meets_41 ?_
              refine zG_goto X dX5_meets_42 (tgt := 46) (by decide) ?_
              refine zG_istore_n X dX5_meets_46 (by decide) rfl ?_
              refine zj_iinc X dX5_meets_47 rfl (by decide) rfl ?_
              refine zG_goto X dX5_meets_50 (tgt := 4) (by decide) ?_
              have hi := ih (k + 1) (by omega)
              rw [meF_s] at hi
              first
                | (rw [if_pos ⟨by omega, by first | exact Or.inl hb | exact Or.inr (by omega)⟩] at hi; exact hi)
                | (rw [if_neg (by rintro ⟨z1, z2 | z2⟩ <;> first | omega | exact hb z2)] at hi; exact hi)
            · refine zG_aload_n X dX5_meets_26 rfl ?_
              refine zG_iload_n X dX5_meets_27 rfl ?_
              refine zj_iconst X dX5_meets_28 ?_
              refine zj_callV1 (as2 := [_, _]) X (k_X5_ofv lo (d - 1) (by omega) J G F hF (u := (k : Int)) (v := 1) (x := ps k) k 1 (by omega) (by omega) rfl rfl hv.2.1) dX5_meets_29 mv_X5_of ml_X5_45 (by first | rfl | assumption) rfl (by first | decide | omega) rfl rfl (by show d - 1 + 1 ≤ d; omega) (by show 19 + 3 + 35 * (d - 1) ≤ 35 * (d); omega) (Nat.le_of_ble_eq_true rfl) (Nat.le_of_ble_eq_true rfl) (Nat.le_of_ble_eq_true rfl) ?_
              refine zG_aload_n X dX5_meets_32 rfl ?_
              refine zG_iload_n X dX5_meets_33 rfl ?_
              refine zj_iconst X dX5_meets_34 ?_
              refine zj_callV1 (as2 := [_, _]) X (k_X5_ofv lo (d - 1) (by omega) J G F hF (u := (k : Int)) (v := 2) (x := wd k 2) k 2 (by omega) (by omega) rfl rfl (hm2 k (by omega))) dX5_meets_35 mv_X5_of ml_X5_45 (by first | rfl | assumption) rfl (by first | decide | omega) rfl rfl (by show d - 1 + 1 ≤ d; omega) (by show 19 + 3 + 35 * (d - 1) ≤ 35 * (d); omega) (Nat.le_of_ble_eq_true rfl) (Nat.le_of_ble_eq_true rfl) (Nat.le_of_ble_eq_true rfl) ?_
              refine zj_icmp_ne X dX5_meets_38 (tgt := 45) (by decide) (by first | decide | omega) (by first | decide | omega) (fun h_38 => ?_) (fun h_38 => ?_)
              · refine zj_iconst X dX5_meets_45 ?_
                refine zG_istore_n X dX5_meets_46 (by decide) rfl ?_
                refine zj_iinc X dX5_meets_47 rfl (by decide) rfl ?_
                refine zG_goto X dX5_meets_50 (tgt := 4) (by decide) ?_
                have hi := ih (k + 1) (by omega)
                rw [meF_s] at hi
                first
                  | (rw [if_pos ⟨by omega, by first | exact Or.inl hb | exact Or.inr (by omega)⟩] at hi; exact hi)
                  | (rw [if_neg (by rintro ⟨z1, z2 | z2⟩ <;> first | omega | exact hb z2)] at hi; exact hi)
              · refine zj_iconst X dX5_meets_41 ?_
                refine zG_goto X dX5_meets_42 (tgt := 46) (by decide) ?_
                refine zG_istore_n X dX5_meets_46 (by decide) rfl ?_
                refine zj_iinc X dX5_meets_47 rfl (by decide) rfl ?_
                refine zG_goto X dX5_meets_50 (tgt := 4) (by decide) ?_
                have hi := ih (k + 1) (by omega)
                rw [meF_s] at hi
                first
                  | (rw [if_pos ⟨by omega, by first | exact Or.inl hb | exact Or.inr (by omega)⟩] at hi; exact hi)
                  | (rw [if_neg (by rintro ⟨z1, z2 | z2⟩ <;> first | omega | exact hb z2)] at hi; exact hi)
          · refine zj_if_eq X dX5_meets_23 (tgt := 41) (by decide) (by first | decide | omega) (fun h_23 => ?_) (fun h_23 => ?_)
            · refine zj_iconst X dX5_meets_41 ?_
              refine zG_goto X dX5_meets_42 (tgt := 46) (by decide) ?_
              refine zG_istore_n X dX5_meets_46 (by decide) rfl ?_
              refine zj_iinc X dX5_meets_47 rfl (by decide) rfl ?_
              refine zG_goto X dX5_meets_50 (tgt := 4) (by decide) ?_
              have hi := ih (k + 1) (by omega)
              rw [meF_s] at hi
              first
                | (rw [if_pos ⟨by omega, by first | exact Or.inl hb | exact Or.inr (by omega)⟩] at hi; exact hi)
                | (rw [if_neg (by rintro ⟨z1, z2 | z2⟩ <;> first | omega | exact hb z2)] at hi; exact hi)
            · refine zG_aload_n X dX5_meets_26 rfl ?_
              refine zG_iload_n X dX5_meets_27 rfl ?_
              refine zj_iconst X dX5_meets_28 ?_
              refine zj_callV1 (as2 := [_, _]) X (k_X5_ofv lo (d - 1) (by omega) J G F hF (u := (k : Int)) (v := 1) (x := ps k) k 1 (by omega) (by omega) rfl rfl hv.2.1) dX5_meets_29 mv_X5_of ml_X5_45 (by first | rfl | assumption) rfl (by first | decide | omega) rfl rfl (by show d - 1 + 1 ≤ d; omega) (by show 19 + 3 + 35 * (d - 1) ≤ 35 * (d); omega) (Nat.le_of_ble_eq_true rfl) (Nat.le_of_ble_eq_true rfl) (Nat.le_of_ble_eq_true rfl) ?_
              refine zG_aload_n X dX5_meets_32 rfl ?_
              refine zG_iload_n X dX5_meets_33 rfl ?_
              refine zj_iconst X dX5_meets_34 ?_
              refine zj_callV1 (as2 := [_, _]) X (k_X5_ofv lo (d - 1) (by omega) J G F hF (u := (k : Int)) (v := 2) (x := wd k 2) k 2 (by omega) (by omega) rfl rfl (hm2 k (by omega))) dX5_meets_35 mv_X5_of ml_X5_45 (by first | rfl | assumption) rfl (by first | decide | omega) rfl rfl (by show d - 1 + 1 ≤ d; omega) (by show 19 + 3 + 35 * (d - 1) ≤ 35 * (d); omega) (Nat.le_of_ble_eq_true rfl) (Nat.le_of_ble_eq_true rfl) (Nat.le_of_ble_eq_true rfl) ?_
              refine zj_icmp_ne X dX5_meets_38 (tgt := 45) (by decide) (by first | decide | omega) (by first | decide | omega) (fun h_38 => ?_) (fun h_38 => ?_)
              · refine zj_iconst X dX5_meets_45 ?_
                refine zG_istore_n X dX5_meets_46 (by decide) rfl ?_
                refine zj_iinc X dX5_meets_47 rfl (by decide) rfl ?_
                refine zG_goto X dX5_meets_50 (tgt := 4) (by decide) ?_
                have hi := ih (k + 1) (by omega)
                rw [meF_s] at hi
                first
                  | (rw [if_pos ⟨by omega, by first | exact Or.inl hb | exact Or.inr (by omega)⟩] at hi; exact hi)
                  | (rw [if_neg (by rintro ⟨z1, z2 | z2⟩ <;> first | omega | exact hb z2)] at hi; exact hi)
              · refine zj_iconst X dX5_meets_41 ?_
                refine zG_goto X dX5_meets_42 (tgt := 46) (by decide) ?_
                refine zG_istore_n X dX5_meets_46 (by decide) rfl ?_
                refine zj_iinc X dX5_meets_47 rfl (by decide) rfl ?_
                refine zG_goto X dX5_meets_50 (tgt := 4) (by decide) ?_
                have hi := ih (k + 1) (by omega)
                rw [meF_s] at hi
                first
                  | (rw [if_pos ⟨by omega, by first | exact Or.inl hb | exact Or.inr (by omega)⟩] at hi; exact hi)
                  | (rw [if_neg (by rintro ⟨z1, z2 | z2⟩ <;> first | omega | exact hb z2)] at hi; exact hi)
  refine zj_iconst X dX5_meets_0 ?_
  refine zG_istore_n X dX5_meets_1 (by decide) rfl ?_
  refine zj_iconst X dX5_meets_2 ?_
  refine zG_istore_n X dX5_meets_3 (by decide) rfl ?_
  exact loop (hs 0).toNat 0 (by omega)
theorem zMR.kb {r A a : Int} {J : Nat → Nat → Int} {G : Nat → Nat → Int64} {F : Nat → Nat → Option Nat} {row : Nat → Int} (h : r = 0) (ha : a = A) (hr : ∀ i, 108 ≤ i → row i = J 51 i) : zMR r A J J G F [.int (zI a)] (zM (upr (upr (kpJ (zup J 50 4 0)) 51 row) 51 (cpR (upr (kpJ (zup J 50 4 0)) 51 row 51) (upr (kpJ (zup J 50 4 0)) 51 row 53) 108))) G F := zMR.lk h ha (kb_same (fun i hi => (hr i hi).trans z51.symm)) (by rw [upr_ne (by decide), upr_ne (by decide)]; exact upr_ne (by decide))
set_option maxHeartbeats 4000000 in
set_option maxRecDepth 100000 in
theorem k_X5_nextMeeting (lo d : Nat) (hd : 3 ≤ d) (J : Nat → Nat → Int) (G : Nat → Nat → Int64) (F : Nat → Nat → Option Nat) (hF : zFk F) {hs : Nat → Int} {wd : Nat → Nat → Int} {sb : Nat → Bool} (mh : mH (J 51) hs wd sb) (ok : hwOk hs wd) {u : Int} (hu : zr u) {N : Nat} (hN : N = 30001) : zCt lo yX5_nextMeeting cX5_nextMeeting 3 (some .int) d 0 0 [.ref (lo + 50), .int (zI u)] 57 57 (zM J) G F (zMR (if ¬ (0 < u ∧ u < 2 ^ (J 51 0).toNat) then 1 else 0) (zfind (nmQ hs wd u) N 0) J J G F) := by
  refine zCt.mk (by decide) (mv_X5_nextMeeting.2.2.2.1) (Nat.le_of_ble_eq_true rfl) ?_
  intro p l e s m args below meth c D cA X
  have hok := ok.1
  unfold hOk at hok
  have hc5 : (hs 0).toNat ≤ 5 := by omega
  have e0 := mh.1 0 (by decide)
  have po := pT_ok ok
  have vm := mV_H mh
  by_cases hb : 0 < u ∧ u < 2 ^ (J 51 0).toNat
  · have loop : ∀ (q k : Nat) (hall : zfind (nmQ hs wd u) N 0 = zfind (nmQ hs wd u) q k), k + q = N → zG p l e { frames := d, cells := 0, slots := 0, locals := 35 * d } s m args below meth c D cA lo 3 0 0 (MQ below (zQ D cA lo 57 (zMR (if ¬ (0 < u ∧ u < 2 ^ (J 51 0).toNat) then 1 else 0) (zfind (nmQ hs wd u) N 0) J J G F)) args s 0 0 (fun q => lo ≤ q)) 57 (zM (upr (kpJ (zup J 50 4 0)) 51 (mvRN wd (hs 0).toNat (J 51) (pT wd) k))) G F [some (.ref (lo + 50)), some (.int (zI u)), some (.int (zI (k : Int)))] [] 28 := by
      intro q
      induction q with
      | zero =>
        intro k hall hk
        refine zG_iload_n X dX5_nextMeeting_28 rfl ?_
        refine zj_sipush X dX5_nextMeeting_29 (by decide) ?_
        refine zj_icmp_gt X dX5_nextMeeting_32 (tgt := 53) (by decide) (by first | decide | omega) (by first | decide | omega) (fun h_32 => ?_) (fun h_32 => ?_)
        · refine zG_aload_n X dX5_nextMeeting_53 rfl ?_
          refine zj_callV0 (as2 := []) X (k_X5_takesBack lo (d - 1) (upr (kpJ (zup J 50 4 0)) 51 (mvRN wd (hs 0).toNat (J 51) (pT wd) k)) G F hF) dX5_nextMeeting_54 mv_X5_takesBack ml_X5_111 (by first | rfl | assumption) rfl (by first | decide | omega) rfl rfl (by show d - 1 + 1 ≤ d; omega) (by show 19 + 2 + 35 * (d - 1) ≤ 35 * (d); omega) (Nat.le_of_ble_eq_true rfl) (Nat.le_of_ble_eq_true rfl) (Nat.le_of_ble_eq_true rfl) ?_
          refine zG_iload_n X dX5_nextMeeting_57 rfl ?_
          refine zj_sipush X dX5_nextMeeting_58 (by decide) ?_
          refine zj_icmp_le X dX5_nextMeeting_61 (tgt := 68) (by decide) (by first | decide | omega) (by first | decide | omega) (fun h_61 => ?_) (fun h_61 => ?_)
          · exact absurd h_61 (by first | decide | omega)
          · refine zj_iconst X dX5_nextMeeting_64 ?_
            refine zG_goto X dX5_nextMeeting_65 (tgt := 69) (by decide) ?_
            refine zG_iret X dX5_nextMeeting_69 rfl ?_
            exact zMR.kb (if_neg (fun z => z hb)) (by rw [hall]; rfl) (fun i hi => mvRN_o hc5 (by omega) (by omega) k)
        · exact absurd h_32 (by first | decide | omega)
      | succ q ih =>
        intro k hall hk
        have hM := mV_M (vm hc5) hc5 k
        have hq := mvN_ok ok.2 hc5 po k
        have hmv := k_X5_moves lo (d - 1) (by omega) (upr (kpJ (zup J 50 4 0)) 51 (mvRN wd (hs 0).toNat (J 51) (pT wd) k)) G F hF (ps := mvN wd (hs 0).toNat k (pT wd)) (lag := hs 3) (wt := hs 11) (sk := true) (by rw [show (upr (kpJ (zup J 50 4 0)) 51 (mvRN wd (hs 0).toNat (J 51) (pT wd) k)) 51 = mvRN wd (hs 0).toNat (J 51) (pT wd) k from funext (fun i => upr_eq)]; exact hM) ok hq (by omega) (by omega) (by omega) (by omega)
        rw [show (upr (kpJ (zup J 50 4 0)) 51 (mvRN wd (hs 0).toNat (J 51) (pT wd) k)) 51 = mvRN wd (hs 0).toNat (J 51) (pT wd) k from funext (fun i => upr_eq), upr_upr] at hmv
        have hme := k_X5_meets lo (d - 1) (by omega) (upr (kpJ (zup J 50 4 0)) 51 (mvRN wd (hs 0).toNat (J 51) (pT wd) k)) G F hF (ps := mvN wd (hs 0).toNat k (pT wd)) (lag := hs 3) (wt := hs 11) (sk := true) (by rw [show (upr (kpJ (zup J 50 4 0)) 51 (mvRN wd (hs 0).toNat (J 51) (pT wd) k)) 51 = mvRN wd (hs 0).toNat (J 51) (pT wd) k from funext (fun i => upr_eq)]; exact hM) ok hq (by rw [show (upr (kpJ (zup J 50 4 0)) 51 (mvRN wd (hs 0).toNat (J 51) (pT wd) k)) 51 = mvRN wd (hs 0).toNat (J 51) (pT wd) k from funext (fun i => upr_eq)]; intro j hj; rw [mvRN_o hc5 (by omega) (by omega)]; exact mh.2.1 j hj 2 (by decide)) (u := u) (by omega) hu
        have hnq : nmQ hs wd u k = true ↔ meF wd u (mvN wd (hs 0).toNat k (pT wd)) (hs 0).toNat = 1 := by
          unfold nmQ
          rw [decide_eq_true_iff, meF_i]
        have hf1 := meF_01 (wd := wd) (u := u) (q := mvN wd (hs 0).toNat k (pT wd)) (hs 0).toNat
        rw [show zfind (nmQ hs wd u) (q + 1) k = if nmQ hs wd u k = true then (k : Int) else zfind (nmQ hs wd u) q (k + 1) from rfl] at hall
        refine zG_iload_n X dX5_nextMeeting_28 rfl ?_
        refine zj_sipush X dX5_nextMeeting_29 (by decide) ?_
        refine zj_icmp_gt X dX5_nextMeeting_32 (tgt := 53) (by decide) (by first | decide | omega) (by first | decide | omega) (fun h_32 => ?_) (fun h_32 => ?_)
        · exact absurd h_32 (by first | decide | omega)
        · refine zG_aload_n X dX5_nextMeeting_35 rfl ?_
          refine zG_iload_n X dX5_nextMeeting_36 rfl ?_
          refine zj_callV1 (as2 := [_]) X (hme) dX5_nextMeeting_37 mv_X5_meets ml_X5_129 (by first | rfl | assumption) rfl (by first | decide | omega) rfl rfl (by show d - 1 + 1 ≤ d; omega) (by show 19 + 4 + 35 * (d - 1) ≤ 35 * (d); omega) (Nat.le_of_ble_eq_true rfl) (Nat.le_of_ble_eq_true rfl) (Nat.le_of_ble_eq_true rfl) ?_
          refine zj_if_ne X dX5_nextMeeting_40 (tgt := 53) (by decide) (by first | decide | omega) (fun h_40 => ?_) (fun h_40 => ?_)
          · refine zG_aload_n X dX5_nextMeeting_53 rfl ?_
            refine zj_callV0 (as2 := []) X (k_X5_takesBack lo (d - 1) (upr (kpJ (zup J 50 4 0)) 51 (mvRN wd (hs 0).toNat (J 51) (pT wd) k)) G F hF) dX5_nextMeeting_54 mv_X5_takesBack ml_X5_111 (by first | rfl | assumption) rfl (by first | decide | omega) rfl rfl (by show d - 1 + 1 ≤ d; omega) (by show 19 + 2 + 35 * (d - 1) ≤ 35 * (d); omega) (Nat.le_of_ble_eq_true rfl) (Nat.le_of_ble_eq_true rfl) (Nat.le_of_ble_eq_true rfl) ?_
            refine zG_iload_n X dX5_nextMeeting_57 rfl ?_
            refine zj_sipush X dX5_nextMeeting_58 (by decide) ?_
            refine zj_icmp_le X dX5_nextMeeting_61 (tgt := 68) (by decide) (by first | decide | omega) (by first | decide | omega) (fun h_61 => ?_) (fun h_61 => ?_)
            · refine zG_iload_n X dX5_nextMeeting_68 rfl ?_
              refine zG_iret X dX5_nextMeeting_69 rfl ?_
              exact zMR.kb (if_neg (fun z => z hb)) (by rw [hall, if_pos (hnq.mpr (by omega))]) (fun i hi => mvRN_o hc5 (by omega) (by omega) k)
            · exact absurd h_61 (by first | decide | omega)
          · refine zG_aload_n X dX5_nextMeeting_43 rfl ?_
            refine zj_callV0 (as2 := []) X (hmv) dX5_nextMeeting_44 mv_X5_moves ml_X5_89 (by first | rfl | assumption) rfl (by first | decide | omega) rfl rfl (by show d - 1 + 1 ≤ d; omega) (by show 19 + 3 + 35 * (d - 1) ≤ 35 * (d); omega) (Nat.le_of_ble_eq_true rfl) (Nat.le_of_ble_eq_true rfl) (Nat.le_of_ble_eq_true rfl) ?_
            refine zj_iinc X dX5_nextMeeting_47 rfl (by decide) rfl ?_
            refine zG_goto X dX5_nextMeeting_50 (tgt := 28) (by decide) ?_
            exact ih (k + 1) (by rw [hall, if_neg (fun z => by have := hnq.mp z; omega)]) (by omega)
    refine zG_aload_n X dX5_nextMeeting_0 rfl ?_
    refine zG_aload_n X dX5_nextMeeting_1 rfl ?_
    refine zG_iload_n X dX5_nextMeeting_2 rfl ?_
    refine zj_callV1 (as2 := [_]) X (k_X5_isSet lo (d - 1) (by omega) J G F hF (u := u) hu (by omega) (by omega)) dX5_nextMeeting_3 mv_X5_isSet ml_X5_126 (by first | rfl | assumption) rfl (by first | decide | omega) rfl rfl (by show d - 1 + 1 ≤ d; omega) (by show 19 + 2 + 35 * (d - 1) ≤ 35 * (d); omega) (Nat.le_of_ble_eq_true rfl) (Nat.le_of_ble_eq_true rfl) (Nat.le_of_ble_eq_true rfl) ?_
    rw [if_pos hb]
    refine zj_if_eq X dX5_nextMeeting_6 (tgt := 13) (by decide) (by first | decide | omega) (fun h_6 => ?_) (fun h_6 => ?_)
    · exact absurd h_6 (by first | decide | omega)
    · refine zj_iconst X dX5_nextMeeting_9 ?_
      refine zG_goto X dX5_nextMeeting_10 (tgt := 14) (by decide) ?_
      refine zj_callV1 (as2 := [_]) X (k_X5_refused lo (d - 1) J G F (x := 0) (by decide)) dX5_nextMeeting_14 mv_X5_refused ml_X5_33 (by first | rfl | assumption) rfl (by first | decide | omega) rfl rfl (by show d - 1 + 1 ≤ d; omega) (by show 19 + 2 + 35 * (d - 1) ≤ 35 * (d); omega) (Nat.le_of_ble_eq_true rfl) (Nat.le_of_ble_eq_true rfl) (Nat.le_of_ble_eq_true rfl) ?_
      refine zj_if_eq X dX5_nextMeeting_17 (tgt := 22) (by decide) (by first | decide | omega) (fun h_17 => ?_) (fun h_17 => ?_)
      · refine zG_aload_n X dX5_nextMeeting_22 rfl ?_
        refine zj_callV0 (as2 := []) X (k_X5_keeps lo (d - 1) (zup J 50 4 0) G F hF) dX5_nextMeeting_23 mv_X5_keeps ml_X5_108 (by first | rfl | assumption) rfl (by first | decide | omega) rfl rfl (by show d - 1 + 1 ≤ d; omega) (by show 19 + 2 + 35 * (d - 1) ≤ 35 * (d); omega) (Nat.le_of_ble_eq_true rfl) (Nat.le_of_ble_eq_true rfl) (Nat.le_of_ble_eq_true rfl) ?_
        refine zj_iconst X dX5_nextMeeting_26 ?_
        refine zG_istore_n X dX5_nextMeeting_27 (by decide) rfl ?_
        have h0 := loop N 0 rfl (by omega)
        rw [mvRN_0, show upr (kpJ (zup J 50 4 0)) 51 (J 51) = kpJ (zup J 50 4 0) from by rw [show J 51 = zup J 50 4 0 51 from funext (fun i => z51.symm), kp_row]] at h0
        exact h0
      · exact absurd h_17 (by first | decide | omega)
  · refine zG_aload_n X dX5_nextMeeting_0 rfl ?_
    refine zG_aload_n X dX5_nextMeeting_1 rfl ?_
    refine zG_iload_n X dX5_nextMeeting_2 rfl ?_
    refine zj_callV1 (as2 := [_]) X (k_X5_isSet lo (d - 1) (by omega) J G F hF (u := u) hu (by omega) (by omega)) dX5_nextMeeting_3 mv_X5_isSet ml_X5_126 (by first | rfl | assumption) rfl (by first | decide | omega) rfl rfl (by show d - 1 + 1 ≤ d; omega) (by show 19 + 2 + 35 * (d - 1) ≤ 35 * (d); omega) (Nat.le_of_ble_eq_true rfl) (Nat.le_of_ble_eq_true rfl) (Nat.le_of_ble_eq_true rfl) ?_
    rw [if_neg hb]
    refine zj_if_eq X dX5_nextMeeting_6 (tgt := 13) (by decide) (by first | decide | omega) (fun h_6 => ?_) (fun h_6 => ?_)
    · refine zj_iconst X dX5_nextMeeting_13 ?_
      refine zj_callV1 (as2 := [_]) X (k_X5_refused lo (d - 1) J G F (x := 1) (by decide)) dX5_nextMeeting_14 mv_X5_refused ml_X5_33 (by first | rfl | assumption) rfl (by first | decide | omega) rfl rfl (by show d - 1 + 1 ≤ d; omega) (by show 19 + 2 + 35 * (d - 1) ≤ 35 * (d); omega) (Nat.le_of_ble_eq_true rfl) (Nat.le_of_ble_eq_true rfl) (Nat.le_of_ble_eq_true rfl) ?_
      refine zj_if_eq X dX5_nextMeeting_17 (tgt := 22) (by decide) (by first | decide | omega) (fun h_17 => ?_) (fun h_17 => ?_)
      · exact absurd h_17 (by first | decide | omega)
      · refine zj_iconst X dX5_nextMeeting_20 ?_
        refine zG_iret X dX5_nextMeeting_21 rfl ?_
        exact zMR.no (if_pos hb) (by decide)
    · exact absurd h_6 (by first | decide | omega)
