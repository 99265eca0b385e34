/-! the Model: digest -/
theorem hx_s {G : Nat → Nat → Int64} {h z : Int64} : zup (zup G 50 10 h) 50 10 (31 * zup G 50 10 h 50 10 + z) = zup G 50 10 (31 * h + z) := by
  rw [zup_eq]
  funext x j
  unfold zup
  by_cases q : x = 50 ∧ j = 10
  · rw [if_pos q, if_pos q]
  · rw [if_neg q, if_neg q, if_neg q]
theorem mH_sM {J J2 : Nat → Nat → Int} {hs : Nat → Int} {wd : Nat → Nat → Int} {sb : Nat → Bool} (h : mH (J 51) hs wd sb) (s : sameM J2 J) : mH (J2 51) hs wd sb := by
  rw [show J2 51 = J 51 from funext fun i => s 51 i (by decide) (by decide) (by omega)]
  exact h
def md1 (J : Nat → Nat → Int) (h : Int64) : Nat → Int64
  | 0 => h
  | k + 1 => 31 * md1 J h k + lI (tvM J (k : Int))
def md3 (J : Nat → Nat → Int) (h : Int64) : Nat → Int64
  | 0 => h
  | k + 1 => 31 * md3 J h k + lI (twM J (k / 7) ((k : Int) % 7))
theorem md1_0 {J : Nat → Nat → Int} {h : Int64} : md1 J h 0 = h := rfl
theorem md1_s {J : Nat → Nat → Int} {h : Int64} {k : Nat} : md1 J h (k + 1) = 31 * md1 J h k + lI (tvM J (k : Int)) := rfl
theorem md3_0 {J : Nat → Nat → Int} {h : Int64} : md3 J h 0 = h := rfl
theorem md3_s {J : Nat → Nat → Int} {h : Int64} {k : Nat} : md3 J h (k + 1) = 31 * md3 J h k + lI (twM J (k / 7) ((k : Int) % 7)) := rfl
def mdR (hs : Nat → Int) (wd : Nat → Nat → Int) (sb : Nat → Bool) (N : Nat) (J : Nat → Nat → Int) : Int64 :=
  31 * (31 * dg4 hs wd sb (md3 J (md1 J (31 * 3463 + lI (J 50 6)) 14) (7 * (hs 0).toNat)) 10 + lI (zfind (nmP hs wd sb) N 0)) + lI (J 50 3)
theorem zsm_in {f : Nat → Int} (h : ∀ t, 0 ≤ f t ∧ f t ≤ 1) : ∀ n, 0 ≤ zsm f n ∧ zsm f n ≤ n
  | 0 => ⟨Int.le_refl _, Int.le_refl _⟩
  | n + 1 => by
    have ih := zsm_in h n
    have := h n
    rw [zsm_s]
    omega
theorem zsm_in2 {f : Nat → Int} : ∀ n, (∀ t, t < n → 0 ≤ f t ∧ f t ≤ 1) → 0 ≤ zsm f n ∧ zsm f n ≤ n
  | 0, _ => ⟨Int.le_refl _, Int.le_refl _⟩
  | n + 1, h => by
    have ih := zsm_in2 n (fun t ht => h t (by omega))
    have := h n (by omega)
    rw [zsm_s]
    omega
theorem tvM_in {J : Nat → Nat → Int} {hs : Nat → Int} {wd : Nat → Nat → Int} {sb : Nat → Bool} (mh : mH (J 51) hs wd sb) (ok : hwOk hs wd) {q : Int} (q1 : 0 ≤ q) (q2 : q ≤ 13) : 0 ≤ tvM J q ∧ tvM J q ≤ 1000000 := by
  have hok := ok.1
  unfold hOk at hok
  have e : ∀ j, j < 13 → J 51 j = hs j := mh.1
  have h8 := zsm_in2 (f := fun t => J 51 (48 + t)) 60 (fun t ht => by rw [mh.2.2 t ht]; split <;> decide)
  have hq : q = 0 ∨ q = 1 ∨ q = 2 ∨ q = 3 ∨ q = 4 ∨ q = 5 ∨ q = 6 ∨ q = 7 ∨ q = 8 ∨ q = 9 ∨ q = 10 ∨ q = 11 ∨ q = 12 ∨ q = 13 := by omega
  have e0 := e 0 (by decide)
  have e1 := e 1 (by decide)
  have e2 := e 2 (by decide)
  have e3 := e 3 (by decide)
  have e4 := e 4 (by decide)
  have e5 := e 5 (by decide)
  have e6 := e 6 (by decide)
  have e7 := e 7 (by decide)
  have e8 := e 8 (by decide)
  have e9 := e 9 (by decide)
  have e10 := e 10 (by decide)
  have e11 := e 11 (by decide)
  have e12 := e 12 (by decide)
  rcases hq with rfl | rfl | rfl | rfl | rfl | rfl | rfl | rfl | rfl | rfl | rfl | rfl | rfl | rfl <;> simp [tvM] <;> omega
theorem twM_in {J : Nat → Nat → Int} {hs : Nat → Int} {wd : Nat → Nat → Int} {sb : Nat → Bool} (mh : mH (J 51) hs wd sb) (ok : hwOk hs wd) {k : Nat} (hk : k < (hs 0).toNat) {q : Int} (q1 : 0 ≤ q) (q2 : q ≤ 6) : -1 ≤ twM J k q ∧ twM J k q ≤ 60 := by
  have hok := ok.1
  unfold hOk at hok
  have hw := hwOk_w ok (k := k) (by omega)
  have g := mh.2.1 k hk
  have g0 := g 0 (by decide)
  have g1 := g 1 (by decide)
  have g2 := g 2 (by decide)
  have g3 := g 3 (by decide)
  have g4 := g 4 (by decide)
  have g5 := g 5 (by decide)
  have e1 := Int.emod_nonneg (J 51 (13 + 7 * k + 6) + J 51 1 - J 51 12) (show J 51 (13 + 7 * k + 0) ≠ 0 by omega)
  have e2 := Int.emod_lt_of_pos (J 51 (13 + 7 * k + 6) + J 51 1 - J 51 12) (show 0 < J 51 (13 + 7 * k + 0) by omega)
  have : q = 0 ∨ q = 1 ∨ q = 2 ∨ q = 3 ∨ q = 4 ∨ q = 5 ∨ q = 6 := by omega
  unfold twM
  rcases this with rfl | rfl | rfl | rfl | rfl | rfl | rfl
  · rw [if_neg (by decide), show (0 : Int).toNat = 0 from rfl]; omega
  · rw [if_neg (by decide), show (1 : Int).toNat = 1 from rfl]; omega
  · rw [if_neg (by decide), show (2 : Int).toNat = 2 from rfl]; omega
  · rw [if_neg (by decide), show (3 : Int).toNat = 3 from rfl]; omega
  · rw [if_neg (by decide), show (4 : Int).toNat = 4 from rfl]; omega
  · rw [if_neg (by decide), show (5 : Int).toNat = 5 from rfl]; omega
  · rw [if_pos rfl]; omega
set_option maxHeartbeats 4000000 in
set_option maxRecDepth 100000 in
theorem k_X5_mixh (lo d : Nat) (J : Nat → Nat → Int) (G : Nat → Nat → Int64) (F : Nat → Nat → Option Nat) {v : Int} (hv : zr v) {h : Int64} : zCt lo yX5_mix cX5_mix 2 none d 0 0 [.ref (lo + 50), .int (zI v)] 57 57 (zM J) (zup G 50 10 h) F (zD [] J (zup G 50 10 (31 * h + lI v)) F) := by
  refine zCt.mk (by decide) (mv_X5_mix.2.2.2.1) (Nat.le_of_ble_eq_true rfl) ?_
  intro p l e s m args below meth c D cA X
  refine zG_aload_n X dX5_mix_0 rfl ?_
  refine zG_ldc2 (v := 31) X dX5_mix_1 (by decide +kernel) ?_
  refine zG_aload_n X dX5_mix_4 rfl ?_
  refine zG_getL X dX5_mix_5 fl_X5_171 (by first | rfl | assumption) (by first | decide | omega) (by decide) rfl ?_
  refine zG_lmul X dX5_mix_8 ?_
  refine zG_iload_n X dX5_mix_9 rfl ?_
  refine zj_i2l X dX5_mix_10 hv ?_
  refine zG_ladd X dX5_mix_11 ?_
  refine zG_putL X dX5_mix_12 fl_X5_171 (by first | rfl | assumption) (by first | decide | omega) (by decide) rfl rfl rfl rfl ?_
  refine zG_vret X dX5_mix_15 rfl ?_
  exact zD.of rfl rfl hx_s rfl
def zMG (A : Int64) (J : Nat → Nat → Int) (G : Nat → Nat → Int64) (F : Nat → Nat → Option Nat) : List Value → (Nat → Nat → Int32) → (Nat → Nat → Int64) → (Nat → Nat → Option Nat) → Prop := fun v I2 G2 F2 => v = [.long A] ∧ F2 = F ∧ (∃ h : Int64, G2 = zup G 50 10 h) ∧ ∃ J2, I2 = zM J2 ∧ J2 50 4 = 0 ∧ sameM J2 J
theorem tv_0 {J : Nat → Nat → Int} {q : Int} : tvM (zup J 50 4 0) q = tvM J q := by
  unfold tvM
  simp only [z51]
theorem tw_0 {J : Nat → Nat → Int} {k : Nat} {q : Int} : twM (zup J 50 4 0) k q = twM J k q := by
  unfold twM
  simp only [z51]
set_option maxHeartbeats 4000000 in
set_option maxRecDepth 100000 in
theorem k_X5_digest (lo d : Nat) (hd : 8 ≤ d) (J : Nat → Nat → Int) (G : Nat → Nat → Int64) (F : Nat → Nat → Option Nat) (hF : zFk F) {hs : Nat → Int} {wd : Nat → Nat → Int} {sb : Nat → Bool} (mh : mH (J 51) hs wd sb) (ok : hwOk hs wd) (hpd : hs 12 ≤ hs 1) (t1 : 0 ≤ J 50 3) (t2 : J 50 3 ≤ 4) (x1 : 0 ≤ J 50 6) (x2 : J 50 6 ≤ 90) {N : Nat} (hN : N = 2001) : zCt lo yX5_digest cX5_digest 2 (some .long) d 0 0 [.ref (lo + 50)] 57 57 (zM J) G F (zMG (mdR hs wd sb N J) J G F) := by
  refine zCt.mk (by decide) (mv_X5_digest.2.2.2.1) (Nat.le_of_ble_eq_true rfl) ?_
  intro p l e s m args below meth c D cA X
  have hok := ok.1
  unfold hOk at hok
  have hc5 : (hs 0).toNat ≤ 5 := by omega
  have e0 := mh.1 0 (by decide)
  have po := pT_ok ok
  have vm := mV_H mh
  have loop3 : ∀ (q k : Nat) (J2 : Nat → Nat → Int) (hsm : sameM J2 (zup J 50 4 0)) (h54 : J2 50 4 = 0), k + q = 10 → zG p l e { frames := d, cells := 0, slots := 0, locals := 35 * d } s m args below meth c D cA lo 2 0 0 (MQ below (zQ D cA lo 57 (zMG (mdR hs wd sb N J) J G F)) args s 0 0 (fun q => lo ≤ q)) 57 (zM (J2)) (zup G 50 10 (dg4 hs wd sb (md3 J (md1 J (31 * 3463 + lI (J 50 6)) 14) (7 * (hs 0).toNat)) k)) F [some (.ref (lo + 50)), some (.int (zI (k : Int)))] [] 82 := by
    intro q
    induction q with
    | zero =>
      intro k J2 hsm h54 hk
      obtain rfl : k = 10 := by omega
      have hmH := mH_sM (mH_r mh) hsm
      have hzf := zfind_in (nmP hs wd sb) N 0
      refine zG_iload_n X dX5_digest_82 rfl ?_
      refine zj_bipush X dX5_digest_83 (by decide) ?_
      refine zj_icmp_ge X dX5_digest_85 (tgt := 112) (by decide) (by first | decide | omega) (by first | decide | omega) (fun h_85 => ?_) (fun h_85 => ?_)
      · refine zG_aload_n X dX5_digest_112 rfl ?_
        refine zG_aload_n X dX5_digest_113 rfl ?_
        refine zG_callV (as2 := []) rfl X (k_X5_nextOne lo (d - 1) (by omega) J2 (zup G 50 10 (dg4 hs wd sb (md3 J (md1 J (31 * 3463 + lI (J 50 6)) 14) (7 * (hs 0).toNat)) 10)) F hF hmH ok hN) dX5_digest_114 mv_X5_nextOne ml_X5_123 (by first | rfl | assumption) rfl (by first | decide | omega) rfl (by show d - 1 + 1 ≤ d; omega) (by show 19 + 3 + 35 * (d - 1) ≤ 35 * (d); omega) (Nat.le_of_ble_eq_true rfl) (Nat.le_of_ble_eq_true rfl) (Nat.le_of_ble_eq_true rfl) ?_
        rintro v2 I3 G3 F3 ⟨rfl, ⟨J3, rfl, hsm3, h543⟩, hG3, hF3⟩
        have hG3 := hG3.symm
        have hF3 := hF3.symm
        subst hG3
        subst hF3
        have hmH3 := sameM_tr hsm3 hsm
        refine zj_callV0 (as2 := [_]) X (k_X5_mixh lo (d - 1) J3 G F (v := zfind (nmP hs wd sb) N 0) (by unfold zr; omega) (h := (dg4 hs wd sb (md3 J (md1 J (31 * 3463 + lI (J 50 6)) 14) (7 * (hs 0).toNat)) 10))) dX5_digest_117 mv_X5_mix ml_X5_177 (by first | rfl | assumption) rfl (by first | decide | omega) rfl rfl (by show d - 1 + 1 ≤ d; omega) (by show 19 + 2 + 35 * (d - 1) ≤ 35 * (d); omega) (Nat.le_of_ble_eq_true rfl) (Nat.le_of_ble_eq_true rfl) (Nat.le_of_ble_eq_true rfl) ?_
        refine zG_aload_n X dX5_digest_120 rfl ?_
        refine zG_aload_n X dX5_digest_121 rfl ?_
        refine zj_getv (v := J 50 3) X dX5_digest_122 fl_X5_30 (by first | rfl | assumption) (by first | decide | omega) (by decide) rfl ((hmH3 50 3 (by decide) (by decide) (by decide)).trans (zup_ne (by decide))) ?_
        refine zj_callV0 (as2 := [_]) X (k_X5_mixh lo (d - 1) J3 G F (v := J 50 3) (by unfold zr; omega) (h := (31 * (dg4 hs wd sb (md3 J (md1 J (31 * 3463 + lI (J 50 6)) 14) (7 * (hs 0).toNat)) 10) + lI (zfind (nmP hs wd sb) N 0)))) dX5_digest_125 mv_X5_mix ml_X5_177 (by first | rfl | assumption) rfl (by first | decide | omega) rfl rfl (by show d - 1 + 1 ≤ d; omega) (by show 19 + 2 + 35 * (d - 1) ≤ 35 * (d); omega) (Nat.le_of_ble_eq_true rfl) (Nat.le_of_ble_eq_true rfl) (Nat.le_of_ble_eq_true rfl) ?_
        refine zG_aload_n X dX5_digest_128 rfl ?_
        refine zG_getL X dX5_digest_129 fl_X5_171 (by first | rfl | assumption) (by first | decide | omega) (by decide) rfl ?_
        refine zG_lret X dX5_digest_132 rfl ?_
        refine ⟨?_, rfl, ⟨_, rfl⟩, J3, rfl, h543.trans h54, sameM_tr hmH3 sameM_r⟩
        rw [zup_eq]
        rfl
      · exact absurd h_85 (by first | decide | omega)
    | succ q ih =>
      intro k J2 hsm h54 hk
      have hmH := mH_sM (mH_r mh) hsm
      have hh := hwR_in (hs := hs) (wd := wd) (n := k)
      have hk4 := mkR_in (hs := hs) (wd := wd) (sb := sb) (n := k)
      refine zG_iload_n X dX5_digest_82 rfl ?_
      refine zj_bipush X dX5_digest_83 (by decide) ?_
      refine zj_icmp_ge X dX5_digest_85 (tgt := 112) (by decide) (by first | decide | omega) (by first | decide | omega) (fun h_85 => ?_) (fun h_85 => ?_)
      · exact absurd h_85 (by first | decide | omega)
      · refine zG_aload_n X dX5_digest_88 rfl ?_
        refine zG_aload_n X dX5_digest_89 rfl ?_
        refine zG_iload_n X dX5_digest_90 rfl ?_
        refine zG_callV (as2 := [_]) rfl X (k_X5_highOn lo (d - 1) (by omega) J2 (zup G 50 10 (dg4 hs wd sb (md3 J (md1 J (31 * 3463 + lI (J 50 6)) 14) (7 * (hs 0).toNat)) k)) F hF hmH ok (n := k) (by omega)) dX5_digest_91 mv_X5_highOn ml_X5_117 (by first | rfl | assumption) rfl (by first | decide | omega) rfl (by show d - 1 + 1 ≤ d; omega) (by show 19 + 3 + 35 * (d - 1) ≤ 35 * (d); omega) (Nat.le_of_ble_eq_true rfl) (Nat.le_of_ble_eq_true rfl) (Nat.le_of_ble_eq_true rfl) ?_
        rintro v2 I3 G3 F3 ⟨rfl, ⟨J3, rfl, hsm3, h543⟩, hG3, hF3⟩
        have hG3 := hG3.symm
        have hF3 := hF3.symm
        subst hG3
        subst hF3
        have hmH3 := mH_sM hmH hsm3
        refine zj_callV0 (as2 := [_]) X (k_X5_mixh lo (d - 1) J3 G F (v := hwR hs wd k) (by unfold zr; omega) (h := (dg4 hs wd sb (md3 J (md1 J (31 * 3463 + lI (J 50 6)) 14) (7 * (hs 0).toNat)) k))) dX5_digest_94 mv_X5_mix ml_X5_177 (by first | rfl | assumption) rfl (by first | decide | omega) rfl rfl (by show d - 1 + 1 ≤ d; omega) (by show 19 + 2 + 35 * (d - 1) ≤ 35 * (d); omega) (Nat.le_of_ble_eq_true rfl) (Nat.le_of_ble_eq_true rfl) (Nat.le_of_ble_eq_true rfl) ?_
        refine zG_aload_n X dX5_digest_97 rfl ?_
        refine zG_aload_n X dX5_digest_98 rfl ?_
        refine zG_iload_n X dX5_digest_99 rfl ?_
        refine zG_callV (as2 := [_]) rfl X (k_X5_marketOn lo (d - 1) (by omega) J3 (zup G 50 10 (31 * (dg4 hs wd sb (md3 J (md1 J (31 * 3463 + lI (J 50 6)) 14) (7 * (hs 0).toNat)) k) + lI (hwR hs wd k))) F hF hmH3 ok (n := k) (by omega)) dX5_digest_100 mv_X5_marketOn ml_X5_120 (by first | rfl | assumption) rfl (by first | decide | omega) rfl (by show d - 1 + 1 ≤ d; omega) (by show 19 + 4 + 35 * (d - 1) ≤ 35 * (d); omega) (Nat.le_of_ble_eq_true rfl) (Nat.le_of_ble_eq_true rfl) (Nat.le_of_ble_eq_true rfl) ?_
        rintro v4 I4 G4 F4 ⟨rfl, ⟨J4, rfl, hsm4, h544⟩, hG4, hF4⟩
        have hG4 := hG4.symm
        have hF4 := hF4.symm
        subst hG4
        subst hF4
        refine zj_callV0 (as2 := [_]) X (k_X5_mixh lo (d - 1) J4 G F (v := mkR hs wd sb k) (by unfold zr; omega) (h := (31 * (dg4 hs wd sb (md3 J (md1 J (31 * 3463 + lI (J 50 6)) 14) (7 * (hs 0).toNat)) k) + lI (hwR hs wd k)))) dX5_digest_103 mv_X5_mix ml_X5_177 (by first | rfl | assumption) rfl (by first | decide | omega) rfl rfl (by show d - 1 + 1 ≤ d; omega) (by show 19 + 2 + 35 * (d - 1) ≤ 35 * (d); omega) (Nat.le_of_ble_eq_true rfl) (Nat.le_of_ble_eq_true rfl) (Nat.le_of_ble_eq_true rfl) ?_
        refine zj_iinc X dX5_digest_106 rfl (by decide) rfl ?_
        refine zG_goto X dX5_digest_109 (tgt := 82) (by decide) ?_
        have hi := ih (k + 1) J4 (sameM_tr hsm4 (sameM_tr hsm3 hsm)) (h544.trans (h543.trans h54)) (by omega)
        rw [dg4_s] at hi
        exact hi
  have loop2 : ∀ (q k : Nat), k + q = 7 * (hs 0).toNat → zG p l e { frames := d, cells := 0, slots := 0, locals := 35 * d } s m args below meth c D cA lo 2 0 0 (MQ below (zQ D cA lo 57 (zMG (mdR hs wd sb N J) J G F)) args s 0 0 (fun q => lo ≤ q)) 57 (zM ((zup J 50 4 0))) (zup G 50 10 (md3 J (md1 J (31 * 3463 + lI (J 50 6)) 14) k)) F [some (.ref (lo + 50)), some (.int (zI (k : Int)))] [] 45 := by
    intro q
    induction q with
    | zero =>
      intro k  hk
      obtain rfl : k = 7 * (hs 0).toNat := by omega
      refine zG_iload_n X dX5_digest_45 rfl ?_
      refine zj_bipush X dX5_digest_46 (by decide) ?_
      refine zG_aload_n X dX5_digest_48 rfl ?_
      refine zG_getR X dX5_digest_49 fl_X5_7 (by first | rfl | assumption) (by first | decide | omega) (by decide) rfl (by first | exact zF_at hF rfl rfl | assumption) ?_
      refine zj_iconst X dX5_digest_52 ?_
      refine zj_ialoadv (v := hs 0) X dX5_digest_53 (by first | rfl | assumption) (by first | decide | omega) (0) (by decide) (by decide) (z51.trans e0) ?_
      refine zj_imul X dX5_digest_54 ?_
      refine zj_icmp_ge X dX5_digest_55 (tgt := 80) (by decide) (by first | decide | omega) (by first | decide | omega) (fun h_55 => ?_) (fun h_55 => ?_)
      · refine zj_iconst X dX5_digest_80 ?_
        refine zG_istore_n X dX5_digest_81 (by decide) rfl ?_
        have h0 := loop3 10 0 (zup J 50 4 0) sameM_rf zup_eq (by omega)
        rw [dg4_0] at h0
        exact h0
      · exact absurd h_55 (by first | decide | omega)
    | succ q ih =>
      intro k  hk
      have hk7 : k / 7 < (hs 0).toNat := by omega
      have htw := k_X5_tellWheel lo (d - 1) (by omega) (zup J 50 4 0) (zup G 50 10 (md3 J (md1 J (31 * 3463 + lI (J 50 6)) 14) k)) F hF (k := k / 7) (by omega) (q := ((k % 7 : Nat) : Int)) (by omega) (by omega) (by rw [z51, (mh.2.1 (k / 7) hk7) 6 (by decide)]; have := hwOk_w ok (k := k / 7) (by omega); omega) (by rw [z51, (mh.2.1 (k / 7) hk7) 6 (by decide)]; have := hwOk_w ok (k := k / 7) (by omega); omega) (by rw [z51, (mh.2.1 (k / 7) hk7) 0 (by decide)]; have := hwOk_w ok (k := k / 7) (by omega); omega) (by rw [z51, (mh.2.1 (k / 7) hk7) 0 (by decide)]; have := hwOk_w ok (k := k / 7) (by omega); omega) (by rw [z51, mh.1 12 (by decide)]; omega) (by rw [z51, z51, mh.1 12 (by decide), mh.1 1 (by decide)]; omega) (by rw [z51, mh.1 1 (by decide)]; omega)
      rw [tw_0, show ((k / 7 : Nat) : Int) = (k : Int) / 7 by omega, show ((k % 7 : Nat) : Int) = (k : Int) % 7 by omega] at htw
      have hti := twM_in mh ok hk7 (q := (k : Int) % 7) (by omega) (by omega)
      refine zG_iload_n X dX5_digest_45 rfl ?_
      refine zj_bipush X dX5_digest_46 (by decide) ?_
      refine zG_aload_n X dX5_digest_48 rfl ?_
      refine zG_getR X dX5_digest_49 fl_X5_7 (by first | rfl | assumption) (by first | decide | omega) (by decide) rfl (by first | exact zF_at hF rfl rfl | assumption) ?_
      refine zj_iconst X dX5_digest_52 ?_
      refine zj_ialoadv (v := hs 0) X dX5_digest_53 (by first | rfl | assumption) (by first | decide | omega) (0) (by decide) (by decide) (z51.trans e0) ?_
      refine zj_imul X dX5_digest_54 ?_
      refine zj_icmp_ge X dX5_digest_55 (tgt := 80) (by decide) (by first | decide | omega) (by first | decide | omega) (fun h_55 => ?_) (fun h_55 => ?_)
      · exact absurd h_55 (by first | decide | omega)
      · refine zG_aload_n X dX5_digest_58 rfl ?_
        refine zG_aload_n X dX5_digest_59 rfl ?_
        refine zG_iload_n X dX5_digest_60 rfl ?_
        refine zj_bipush X dX5_digest_61 (by decide) ?_
        refine zj_idiv X dX5_digest_63 (by omega) (by omega) (by omega) (by omega) ?_
        refine zG_iload_n X dX5_digest_64 rfl ?_
        refine zj_bipush X dX5_digest_65 (by decide) ?_
        refine zj_iremN X dX5_digest_67 (by omega) (by omega) (by omega) (by omega) ?_
        refine zj_callV1 (as2 := [_, _]) X (htw) dX5_digest_68 mv_X5_tellWheel ml_X5_102 (by first | rfl | assumption) rfl (by first | decide | omega) rfl rfl (by show d - 1 + 1 ≤ d; omega) (by show 19 + 3 + 35 * (d - 1) ≤ 35 * (d); omega) (Nat.le_of_ble_eq_true rfl) (Nat.le_of_ble_eq_true rfl) (Nat.le_of_ble_eq_true rfl) ?_
        refine zj_callV0 (as2 := [_]) X (k_X5_mixh lo (d - 1) (zup J 50 4 0) G F (v := twM J (k / 7) ((k : Int) % 7)) (by unfold zr; omega) (h := (md3 J (md1 J (31 * 3463 + lI (J 50 6)) 14) k))) dX5_digest_71 mv_X5_mix ml_X5_177 (by first | rfl | assumption) rfl (by first | decide | omega) rfl rfl (by show d - 1 + 1 ≤ d; omega) (by show 19 + 2 + 35 * (d - 1) ≤ 35 * (d); omega) (Nat.le_of_ble_eq_true rfl) (Nat.le_of_ble_eq_true rfl) (Nat.le_of_ble_eq_true rfl) ?_
        refine zj_iinc X dX5_digest_74 rfl (by decide) rfl ?_
        refine zG_goto X dX5_digest_77 (tgt := 45) (by decide) ?_
        have hi := ih (k + 1) (by omega)
        rw [md3_s] at hi
        exact hi
  have loop1 : ∀ (q k : Nat), k + q = 14 → zG p l e { frames := d, cells := 0, slots := 0, locals := 35 * d } s m args below meth c D cA lo 2 0 0 (MQ below (zQ D cA lo 57 (zMG (mdR hs wd sb N J) J G F)) args s 0 0 (fun q => lo ≤ q)) 57 (zM ((zup J 50 4 0))) (zup G 50 10 (md1 J (31 * 3463 + lI (J 50 6)) k)) F [some (.ref (lo + 50)), some (.int (zI (k : Int)))] [] 22 := by
    intro q
    induction q with
    | zero =>
      intro k  hk
      obtain rfl : k = 14 := by omega
      refine zG_iload_n X dX5_digest_22 rfl ?_
      refine zj_bipush X dX5_digest_23 (by decide) ?_
      refine zj_icmp_ge X dX5_digest_25 (tgt := 43) (by decide) (by first | decide | omega) (by first | decide | omega) (fun h_25 => ?_) (fun h_25 => ?_)
      · refine zj_iconst X dX5_digest_43 ?_
        refine zG_istore_n X dX5_digest_44 (by decide) rfl ?_
        have h0 := loop2 (7 * (hs 0).toNat) 0 (by omega)
        rw [md3_0] at h0
        exact h0
      · exact absurd h_25 (by first | decide | omega)
    | succ q ih =>
      intro k  hk
      have htv := tvM_in mh ok (q := (k : Int)) (by omega) (by omega)
      refine zG_iload_n X dX5_digest_22 rfl ?_
      refine zj_bipush X dX5_digest_23 (by decide) ?_
      refine zj_icmp_ge X dX5_digest_25 (tgt := 43) (by decide) (by first | decide | omega) (by first | decide | omega) (fun h_25 => ?_) (fun h_25 => ?_)
      · exact absurd h_25 (by first | decide | omega)
      · refine zG_aload_n X dX5_digest_28 rfl ?_
        refine zG_aload_n X dX5_digest_29 rfl ?_
        refine zG_iload_n X dX5_digest_30 rfl ?_
        refine zj_callV1 (as2 := [_]) X (k_X5_tellValue lo (d - 1) (by omega) (zup J 50 4 0) (zup G 50 10 (md1 J (31 * 3463 + lI (J 50 6)) k)) F hF (q := (k : Int)) (by omega) (by omega)) dX5_digest_31 mv_X5_tellValue ml_X5_105 (by first | rfl | assumption) rfl (by first | decide | omega) rfl rfl (by show d - 1 + 1 ≤ d; omega) (by show 19 + 2 + 35 * (d - 1) ≤ 35 * (d); omega) (Nat.le_of_ble_eq_true rfl) (Nat.le_of_ble_eq_true rfl) (Nat.le_of_ble_eq_true rfl) ?_
        rw [tv_0]
        refine zj_callV0 (as2 := [_]) X (k_X5_mixh lo (d - 1) (zup J 50 4 0) G F (v := tvM J (k : Int)) (by unfold zr; omega) (h := (md1 J (31 * 3463 + lI (J 50 6)) k))) dX5_digest_34 mv_X5_mix ml_X5_177 (by first | rfl | assumption) rfl (by first | decide | omega) rfl rfl (by show d - 1 + 1 ≤ d; omega) (by show 19 + 2 + 35 * (d - 1) ≤ 35 * (d); omega) (Nat.le_of_ble_eq_true rfl) (Nat.le_of_ble_eq_true rfl) (Nat.le_of_ble_eq_true rfl) ?_
        refine zj_iinc X dX5_digest_37 rfl (by decide) rfl ?_
        refine zG_goto X dX5_digest_40 (tgt := 22) (by decide) ?_
        have hi := ih (k + 1) (by omega)
        rw [md1_s] at hi
        exact hi
  refine zG_aload_n X dX5_digest_0 rfl ?_
  refine zj_iconst X dX5_digest_1 ?_
  refine zj_put X dX5_digest_2 fl_X5_26 (by first | rfl | assumption) (by first | decide | omega) (by decide) rfl rfl ?_
  refine zG_aload_n X dX5_digest_5 rfl ?_
  refine zG_ldc2 (v := 3463) X dX5_digest_6 (by decide +kernel) ?_
  refine zG_putL X dX5_digest_9 fl_X5_171 (by first | rfl | assumption) (by first | decide | omega) (by decide) rfl rfl rfl rfl ?_
  refine zG_aload_n X dX5_digest_12 rfl ?_
  refine zG_aload_n X dX5_digest_13 rfl ?_
  refine zj_getv (v := J 50 6) X dX5_digest_14 fl_X5_142 (by first | rfl | assumption) (by first | decide | omega) (by decide) rfl (by exact zup_ne (by decide)) ?_
  refine zj_callV0 (as2 := [_]) X (k_X5_mixh lo (d - 1) (zup J 50 4 0) G F (v := J 50 6) (by unfold zr; omega) (h := 3463)) dX5_digest_17 mv_X5_mix ml_X5_177 (by first | rfl | assumption) rfl (by first | decide | omega) rfl rfl (by show d - 1 + 1 ≤ d; omega) (by show 19 + 2 + 35 * (d - 1) ≤ 35 * (d); omega) (Nat.le_of_ble_eq_true rfl) (Nat.le_of_ble_eq_true rfl) (Nat.le_of_ble_eq_true rfl) ?_
  refine zj_iconst X dX5_digest_20 ?_
  refine zG_istore_n X dX5_digest_21 (by decide) rfl ?_
  have h0 := loop1 14 0 (by omega)
  rw [md1_0] at h0
  exact h0
