/-! the Model: comesBack, bestLag -/
def caF (wd : Nat → Nat → Int) (q : Nat → Int) : Nat → Int
  | 0 => 1
  | k + 1 => if caF wd q k = 1 ∧ q k = wd k 1 then 1 else 0
theorem caF_0 {wd : Nat → Nat → Int} {q : Nat → Int} : caF wd q 0 = 1 := rfl
theorem caF_s {wd : Nat → Nat → Int} {q : Nat → Int} {k : Nat} : caF wd q (k + 1) = if caF wd q k = 1 ∧ q k = wd k 1 then 1 else 0 := rfl
theorem caF_01 {wd : Nat → Nat → Int} {q : Nat → Int} : ∀ k, caF wd q k = 0 ∨ caF wd q k = 1
  | 0 => Or.inr rfl
  | k + 1 => by
    rw [caF_s]
    split <;> simp
theorem caF_i {wd : Nat → Nat → Int} {q : Nat → Int} : ∀ n, caF wd q n = 1 ↔ ∀ k, k < n → q k = wd k 1
  | 0 => ⟨fun _ k hk => absurd hk (Nat.not_lt_zero k), fun _ => rfl⟩
  | n + 1 => by
    rw [caF_s]
    constructor
    · intro h k hk
      split at h
      · rename_i hh
        by_cases hkn : k = n
        · subst hkn; exact hh.2
        · exact (caF_i n).mp hh.1 k (by omega)
      · exact absurd h (by decide)
    · intro h
      rw [if_pos ⟨(caF_i n).mpr (fun k hk => h k (by omega)), h n (by omega)⟩]
theorem kb_eq {J : Nat → Nat → Int} {row : Nat → Int} (h : ∀ i, 108 ≤ i → row i = J 51 i) : upr (upr (kpJ J) 51 row) 51 (cpR (upr (kpJ J) 51 row 51) (upr (kpJ J) 51 row 53) 108) = kpJ J := by
  rw [upr_upr]
  have e : cpR (upr (kpJ J) 51 row 51) (upr (kpJ J) 51 row 53) 108 = kpJ J 51 := by
    funext i
    rw [kp51]
    unfold cpR
    by_cases hi : i < 108
    · rw [if_pos hi, upr_ne (by decide)]
      unfold kpJ
      rw [upr_eq]
      exact if_pos hi
    · rw [if_neg hi, upr_eq]
      exact h i (by omega)
  rw [e, upr_self]
set_option maxHeartbeats 4000000 in
set_option maxRecDepth 100000 in
theorem k_X5_comesBack (lo d : Nat) (hd : 3 ≤ d) (J : Nat → Nat → Int) (G : Nat → Nat → Int64) (F : Nat → Nat → Option Nat) (hF : zFk F) {hs : Nat → Int} {wd : Nat → Nat → Int} {sb : Nat → Bool} (mh : mH (J 51) hs wd sb) (ok : hwOk hs wd) {N : Nat} (hN : N = 30000) : zCt lo yX5_comesBack cX5_comesBack 4 (some .int) d 0 0 [.ref (lo + 50)] 57 57 (zM J) G F (zMR 0 (cbR hs wd N) J J G F) := by
  refine zCt.mk (by decide) (mv_X5_comesBack.2.2.2.1) (Nat.le_of_ble_eq_true rfl) ?_
  intro p l e s m args below meth c D cA X
  have hok := ok.1
  unfold hOk at hok
  have hc5 : (hs 0).toNat ≤ 5 := by omega
  have e0 := mh.1 0 (by decide)
  have po := pT_ok ok
  have vm := mV_H mh
  by_cases c0 : 0 < hs 0
  · have loop : ∀ (q k : Nat) (hall : cbR hs wd N = zfind (cbP hs wd) q (k + 1)), k + q = N → zG p l e { frames := d, cells := 0, slots := 0, locals := 35 * d } s m args below meth c D cA lo 4 0 0 (MQ below (zQ D cA lo 57 (zMR 0 (cbR hs wd N) J J G F)) args s 0 0 (fun q => lo ≤ q)) 57 (zM (upr (kpJ (zup J 50 4 0)) 51 (mvRN wd (hs 0).toNat (J 51) (pT wd) k))) G F [some (.ref (lo + 50)), some (.int (zI (k : Int))), some (.int (zI 0)), none] [] 24 := by
      intro q
      induction q with
      | zero =>
        intro k hall hk
        refine zG_iload_n X dX5_comesBack_24 rfl ?_
        refine zj_sipush X dX5_comesBack_25 (by decide) ?_
        refine zj_icmp_ge X dX5_comesBack_28 (tgt := 95) (by decide) (by first | decide | omega) (by first | decide | omega) (fun h_28 => ?_) (fun h_28 => ?_)
        · refine zG_aload_n X dX5_comesBack_95 rfl ?_
          refine zj_callV0 (as2 := []) X (k_X5_takesBack lo (d - 1) (upr (kpJ (zup J 50 4 0)) 51 (mvRN wd (hs 0).toNat (J 51) (pT wd) k)) G F hF) dX5_comesBack_96 mv_X5_takesBack ml_X5_111 (by first | rfl | assumption) rfl (by first | decide | omega) rfl rfl (by show d - 1 + 1 ≤ d; omega) (by show 19 + 2 + 35 * (d - 1) ≤ 35 * (d); omega) (Nat.le_of_ble_eq_true rfl) (Nat.le_of_ble_eq_true rfl) (Nat.le_of_ble_eq_true rfl) ?_
          refine zG_iload_n X dX5_comesBack_99 rfl ?_
          refine zj_if_eq X dX5_comesBack_100 (tgt := 107) (by decide) (by first | decide | omega) (fun h_100 => ?_) (fun h_100 => ?_)
          · refine zj_iconst X dX5_comesBack_107 ?_
            refine zG_iret X dX5_comesBack_108 rfl ?_
            exact zMR.kb rfl (by rw [hall]; rfl) (fun i hi => mvRN_o hc5 (by omega) (by omega) k)
          · exact absurd h_100 (by first | decide | omega)
        · exact absurd h_28 (by first | decide | omega)
      | succ q ih =>
        intro k hall hk
        have hM := mV_M (vm hc5) hc5 k
        have hq := mvN_ok ok.2 hc5 po k
        have hmv := k_X5_moves lo (d - 1) (by omega) (upr (kpJ (zup J 50 4 0)) 51 (mvRN wd (hs 0).toNat (J 51) (pT wd) k)) G F hF (ps := mvN wd (hs 0).toNat k (pT wd)) (lag := hs 3) (wt := hs 11) (sk := true) (by rw [show (upr (kpJ (zup J 50 4 0)) 51 (mvRN wd (hs 0).toNat (J 51) (pT wd) k)) 51 = mvRN wd (hs 0).toNat (J 51) (pT wd) k from funext (fun i => upr_eq)]; exact hM) ok hq (by omega) (by omega) (by omega) (by omega)
        rw [show (upr (kpJ (zup J 50 4 0)) 51 (mvRN wd (hs 0).toNat (J 51) (pT wd) k)) 51 = mvRN wd (hs 0).toNat (J 51) (pT wd) k from funext (fun i => upr_eq), upr_upr] at hmv
        rw [show zfind (cbP hs wd) (q + 1) (k + 1) = if cbP hs wd (k + 1) = true then ((k + 1 : Nat) : Int) else zfind (cbP hs wd) q (k + 1 + 1) from rfl] at hall
        have hcb : cbP hs wd (k + 1) = true ↔ caF wd (mvN wd (hs 0).toNat (k + 1) (pT wd)) (hs 0).toNat = 1 := by
          unfold cbP
          rw [decide_eq_true_iff, caF_i]
        have hM1 := mV_M (vm hc5) hc5 (k + 1)
        have hq1 := mvN_ok ok.2 hc5 po (k + 1)
        have inner : ∀ (q2 j : Nat), j + q2 = (hs 0).toNat → zG p l e { frames := d, cells := 0, slots := 0, locals := 35 * d } s m args below meth c D cA lo 4 0 0 (MQ below (zQ D cA lo 57 (zMR 0 (cbR hs wd N) J J G F)) args s 0 0 (fun q => lo ≤ q)) 57 (zM (upr (kpJ (zup J 50 4 0)) 51 (mvRN wd (hs 0).toNat (J 51) (pT wd) (k + 1)))) G F [some (.ref (lo + 50)), some (.int (zI ((k + 1 : Nat) : Int))), some (.int (zI (caF wd (mvN wd (hs 0).toNat (k + 1) (pT wd)) j))), some (.int (zI (j : Int)))] [] 46 := by
          intro q2
          induction q2 with
          | zero =>
            intro j hj
            obtain rfl : j = (hs 0).toNat := by omega
            refine zG_iload_n X dX5_comesBack_46 rfl ?_
            refine zG_aload_n X dX5_comesBack_47 rfl ?_
            refine zG_getR X dX5_comesBack_48 fl_X5_7 (by first | rfl | assumption) (by first | decide | omega) (by decide) rfl (by first | exact zF_at hF rfl rfl | assumption) ?_
            refine zj_iconst X dX5_comesBack_51 ?_
            refine zj_ialoadv (v := hs 0) X dX5_comesBack_52 (by first | rfl | assumption) (by first | decide | omega) (0) (by decide) (by decide) (by exact upr_eq.trans hM1.1.1) ?_
            refine zj_icmp_ge X dX5_comesBack_53 (tgt := 92) (by decide) (by first | decide | omega) (by first | decide | omega) (fun h_53 => ?_) (fun h_53 => ?_)
            · refine zG_goto X dX5_comesBack_92 (tgt := 24) (by decide) ?_
              rcases caF_01 (wd := wd) (q := (mvN wd (hs 0).toNat (k + 1) (pT wd))) (hs 0).toNat with z | z
              · rw [z]
                exact zG_sub (zle_some (zle_some (zle_some (zle_none zle_nil)))) (ih (k + 1) (by rw [hall, if_neg (fun y => by have := hcb.mp y; omega)]) (by omega))
              · rw [z]
                refine zG_iload_n X dX5_comesBack_24 rfl ?_
                refine zj_sipush X dX5_comesBack_25 (by decide) ?_
                refine zj_icmp_ge X dX5_comesBack_28 (tgt := 95) (by decide) (by first | decide | omega) (by first | decide | omega) (fun h_28 => ?_) (fun h_28 => ?_)
                · refine zG_aload_n X dX5_comesBack_95 rfl ?_
                  refine zj_callV0 (as2 := []) X (k_X5_takesBack lo (d - 1) (upr (kpJ (zup J 50 4 0)) 51 (mvRN wd (hs 0).toNat (J 51) (pT wd) (k + 1))) G F hF) dX5_comesBack_96 mv_X5_takesBack ml_X5_111 (by first | rfl | assumption) rfl (by first | decide | omega) rfl rfl (by show d - 1 + 1 ≤ d; omega) (by show 19 + 2 + 35 * (d - 1) ≤ 35 * (d); omega) (Nat.le_of_ble_eq_true rfl) (Nat.le_of_ble_eq_true rfl) (Nat.le_of_ble_eq_true rfl) ?_
                  refine zG_iload_n X dX5_comesBack_99 rfl ?_
                  refine zj_if_eq X dX5_comesBack_100 (tgt := 107) (by decide) (by first | decide | omega) (fun h_100 => ?_) (fun h_100 => ?_)
                  · exact absurd h_100 (by first | decide | omega)
                  · refine zG_iload_n X dX5_comesBack_103 rfl ?_
                    refine zG_goto X dX5_comesBack_104 (tgt := 108) (by decide) ?_
                    refine zG_iret X dX5_comesBack_108 rfl ?_
                    exact zMR.kb rfl (by rw [hall, if_pos (hcb.mpr z)]) (fun i hi => mvRN_o hc5 (by omega) (by omega) (k + 1))
                · refine zG_iload_n X dX5_comesBack_31 rfl ?_
                  refine zj_if_ne X dX5_comesBack_32 (tgt := 95) (by decide) (by first | decide | omega) (fun h_32 => ?_) (fun h_32 => ?_)
                  · refine zG_aload_n X dX5_comesBack_95 rfl ?_
                    refine zj_callV0 (as2 := []) X (k_X5_takesBack lo (d - 1) (upr (kpJ (zup J 50 4 0)) 51 (mvRN wd (hs 0).toNat (J 51) (pT wd) (k + 1))) G F hF) dX5_comesBack_96 mv_X5_takesBack ml_X5_111 (by first | rfl | assumption) rfl (by first | decide | omega) rfl rfl (by show d - 1 + 1 ≤ d; omega) (by show 19 + 2 + 35 * (d - 1) ≤ 35 * (d); omega) (Nat.le_of_ble_eq_true rfl) (Nat.le_of_ble_eq_true rfl) (Nat.le_of_ble_eq_true rfl) ?_
                    refine zG_iload_n X dX5_comesBack_99 rfl ?_
                    refine zj_if_eq X dX5_comesBack_100 (tgt := 107) (by decide) (by first | decide | omega) (fun h_100 => ?_) (fun h_100 => ?_)
                    · exact absurd h_100 (by first | decide | omega)
                    · refine zG_iload_n X dX5_comesBack_103 rfl ?_
                      refine zG_goto X dX5_comesBack_104 (tgt := 108) (by decide) ?_
                      refine zG_iret X dX5_comesBack_108 rfl ?_
                      exact zMR.kb rfl (by rw [hall, if_pos (hcb.mpr z)]) (fun i hi => mvRN_o hc5 (by omega) (by omega) (k + 1))
                  · exact absurd h_32 (by first | decide | omega)
            · exact absurd h_53 (by first | decide | omega)
          | succ q2 ihj =>
            intro j hj
            have hv := hM1.2.1 j (by omega)
            have hpk := hq1 j (by omega)
            have hwk := hwOk_w ok (k := j) (by omega)
            have hf1 := caF_01 (wd := wd) (q := (mvN wd (hs 0).toNat (k + 1) (pT wd))) j
            refine zG_iload_n X dX5_comesBack_46 rfl ?_
            refine zG_aload_n X dX5_comesBack_47 rfl ?_
            refine zG_getR X dX5_comesBack_48 fl_X5_7 (by first | rfl | assumption) (by first | decide | omega) (by decide) rfl (by first | exact zF_at hF rfl rfl | assumption) ?_
            refine zj_iconst X dX5_comesBack_51 ?_
            refine zj_ialoadv (v := hs 0) X dX5_comesBack_52 (by first | rfl | assumption) (by first | decide | omega) (0) (by decide) (by decide) (by exact upr_eq.trans hM1.1.1) ?_
            refine zj_icmp_ge X dX5_comesBack_53 (tgt := 92) (by decide) (by first | decide | omega) (by first | decide | omega) (fun h_53 => ?_) (fun h_53 => ?_)
            · exact absurd h_53 (by first | decide | omega)
            · refine zG_iload_n X dX5_comesBack_56 rfl ?_
              refine zj_if_eq X dX5_comesBack_57 (tgt := 84) (by decide) (by first | decide | omega) (fun h_57 => ?_) (fun h_57 => ?_)
              · refine zj_iconst X dX5_comesBack_84 ?_
                refine zG_istore_n X dX5_comesBack_85 (by decide) rfl ?_
                refine zj_iinc X dX5_comesBack_86 rfl (by decide) rfl ?_
                refine zG_goto X dX5_comesBack_89 (tgt := 46) (by decide) ?_
                have hi := ihj (j + 1) (by omega)
                rw [caF_s] at hi
                first
                  | (rw [if_pos ⟨by omega, by omega⟩] at hi; exact hi)
                  | (rw [if_neg (by rintro ⟨z1, z2⟩; omega)] at hi; exact hi)
              · refine zG_aload_n X dX5_comesBack_60 rfl ?_
                refine zG_iload_n X dX5_comesBack_61 rfl ?_
                refine zj_iconst X dX5_comesBack_62 ?_
                refine zj_callV1 (as2 := [_, _]) X (k_X5_ofv lo (d - 1) (by omega) (upr (kpJ (zup J 50 4 0)) 51 (mvRN wd (hs 0).toNat (J 51) (pT wd) (k + 1))) G F hF (u := (j : Int)) (v := 1) (x := (mvN wd (hs 0).toNat (k + 1) (pT wd)) j) j 1 (by omega) (by omega) rfl rfl (upr_eq.trans hv.2.1)) dX5_comesBack_63 mv_X5_of ml_X5_45 (by first | rfl | assumption) rfl (by first | decide | omega) rfl rfl (by show d - 1 + 1 ≤ d; omega) (by show 19 + 3 + 35 * (d - 1) ≤ 35 * (d); omega) (Nat.le_of_ble_eq_true rfl) (Nat.le_of_ble_eq_true rfl) (Nat.le_of_ble_eq_true rfl) ?_
                refine zG_aload_n X dX5_comesBack_66 rfl ?_
                refine zG_getR X dX5_comesBack_67 fl_X5_16 (by first | rfl | assumption) (by first | decide | omega) (by decide) rfl (by first | exact zF_at hF rfl rfl | assumption) ?_
                refine zG_iload_n X dX5_comesBack_70 rfl ?_
                refine zj_callS1 (as2 := [_]) X (k_X5_at lo (d - 1) (upr (kpJ (zup J 50 4 0)) 51 (mvRN wd (hs 0).toNat (J 51) (pT wd) (k + 1))) G F (k := (j : Int))) dX5_comesBack_71 ms_X5_at ml_X5_37 rfl rfl (by show d - 1 + 1 ≤ d; omega) (by show 19 + 1 + 35 * (d - 1) ≤ 35 * (d); omega) (Nat.le_of_ble_eq_true rfl) (Nat.le_of_ble_eq_true rfl) (Nat.le_of_ble_eq_true rfl) ?_
                refine zj_iconst X dX5_comesBack_74 ?_
                refine zj_iadd X dX5_comesBack_75 ?_
                refine zj_ialoadv (v := wd j 1) X dX5_comesBack_76 (by first | rfl | assumption) (by first | decide | omega) (13 + 7 * j + 1) (by omega) (by omega) ((upr_ne (by decide)).trans ((show kpJ (zup J 50 4 0) 53 (13 + 7 * j + 1) = J 51 (13 + 7 * j + 1) from upr_eq.trans ((if_pos (by omega)).trans z51)).trans (mh.2.1 j (by omega) 1 (by decide)))) ?_
                refine zj_icmp_ne X dX5_comesBack_77 (tgt := 84) (by decide) (by first | decide | omega) (by first | decide | omega) (fun h_77 => ?_) (fun h_77 => ?_)
                · refine zj_iconst X dX5_comesBack_84 ?_
                  refine zG_istore_n X dX5_comesBack_85 (by decide) rfl ?_
                  refine zj_iinc X dX5_comesBack_86 rfl (by decide) rfl ?_
                  refine zG_goto X dX5_comesBack_89 (tgt := 46) (by decide) ?_
                  have hi := ihj (j + 1) (by omega)
                  rw [caF_s] at hi
                  first
                    | (rw [if_pos ⟨by omega, by omega⟩] at hi; exact hi)
                    | (rw [if_neg (by rintro ⟨z1, z2⟩; omega)] at hi; exact hi)
                · refine zj_iconst X dX5_comesBack_80 ?_
                  refine zG_goto X dX5_comesBack_81 (tgt := 85) (by decide) ?_
                  refine zG_istore_n X dX5_comesBack_85 (by decide) rfl ?_
                  refine zj_iinc X dX5_comesBack_86 rfl (by decide) rfl ?_
                  refine zG_goto X dX5_comesBack_89 (tgt := 46) (by decide) ?_
                  have hi := ihj (j + 1) (by omega)
                  rw [caF_s] at hi
                  first
                    | (rw [if_pos ⟨by omega, by omega⟩] at hi; exact hi)
                    | (rw [if_neg (by rintro ⟨z1, z2⟩; omega)] at hi; exact hi)
        refine zG_iload_n X dX5_comesBack_24 rfl ?_
        refine zj_sipush X dX5_comesBack_25 (by decide) ?_
        refine zj_icmp_ge X dX5_comesBack_28 (tgt := 95) (by decide) (by first | decide | omega) (by first | decide | omega) (fun h_28 => ?_) (fun h_28 => ?_)
        · exact absurd h_28 (by first | decide | omega)
        · refine zG_iload_n X dX5_comesBack_31 rfl ?_
          refine zj_if_ne X dX5_comesBack_32 (tgt := 95) (by decide) (by first | decide | omega) (fun h_32 => ?_) (fun h_32 => ?_)
          · exact absurd h_32 (by first | decide | omega)
          · refine zG_aload_n X dX5_comesBack_35 rfl ?_
            refine zj_callV0 (as2 := []) X (hmv) dX5_comesBack_36 mv_X5_moves ml_X5_89 (by first | rfl | assumption) rfl (by first | decide | omega) rfl rfl (by show d - 1 + 1 ≤ d; omega) (by show 19 + 3 + 35 * (d - 1) ≤ 35 * (d); omega) (Nat.le_of_ble_eq_true rfl) (Nat.le_of_ble_eq_true rfl) (Nat.le_of_ble_eq_true rfl) ?_
            refine zj_iinc X dX5_comesBack_39 rfl (by decide) rfl ?_
            refine zj_iconst X dX5_comesBack_42 ?_
            refine zG_istore_n X dX5_comesBack_43 (by decide) rfl ?_
            refine zj_iconst X dX5_comesBack_44 ?_
            refine zG_istore_n X dX5_comesBack_45 (by decide) rfl ?_
            exact inner (hs 0).toNat 0 (by omega)
    refine zG_aload_n X dX5_comesBack_0 rfl ?_
    refine zj_iconst X dX5_comesBack_1 ?_
    refine zj_put X dX5_comesBack_2 fl_X5_26 (by first | rfl | assumption) (by first | decide | omega) (by decide) rfl rfl ?_
    refine zG_aload_n X dX5_comesBack_5 rfl ?_
    refine zG_getR X dX5_comesBack_6 fl_X5_7 (by first | rfl | assumption) (by first | decide | omega) (by decide) rfl (by first | exact zF_at hF rfl rfl | assumption) ?_
    refine zj_iconst X dX5_comesBack_9 ?_
    refine zj_ialoadv (v := hs 0) X dX5_comesBack_10 (by first | rfl | assumption) (by first | decide | omega) (0) (by decide) (by decide) (by exact z51.trans e0) ?_
    refine zj_if_ne X dX5_comesBack_11 (tgt := 16) (by decide) (by first | decide | omega) (fun h_11 => ?_) (fun h_11 => ?_)
    · refine zG_aload_n X dX5_comesBack_16 rfl ?_
      refine zj_callV0 (as2 := []) X (k_X5_keeps lo (d - 1) (zup J 50 4 0) G F hF) dX5_comesBack_17 mv_X5_keeps ml_X5_108 (by first | rfl | assumption) rfl (by first | decide | omega) rfl rfl (by show d - 1 + 1 ≤ d; omega) (by show 19 + 2 + 35 * (d - 1) ≤ 35 * (d); omega) (Nat.le_of_ble_eq_true rfl) (Nat.le_of_ble_eq_true rfl) (Nat.le_of_ble_eq_true rfl) ?_
      refine zj_iconst X dX5_comesBack_20 ?_
      refine zG_istore_n X dX5_comesBack_21 (by decide) rfl ?_
      refine zj_iconst X dX5_comesBack_22 ?_
      refine zG_istore_n X dX5_comesBack_23 (by decide) rfl ?_
      have h0 := loop N 0 (by unfold cbR; rw [if_neg (by omega)]) (by omega)
      rw [mvRN_0, show upr (kpJ (zup J 50 4 0)) 51 (J 51) = kpJ (zup J 50 4 0) from by rw [show J 51 = zup J 50 4 0 51 from funext (fun i => z51.symm), kp_row]] at h0
      exact h0
    · exact absurd h_11 (by first | decide | omega)
  · refine zG_aload_n X dX5_comesBack_0 rfl ?_
    refine zj_iconst X dX5_comesBack_1 ?_
    refine zj_put X dX5_comesBack_2 fl_X5_26 (by first | rfl | assumption) (by first | decide | omega) (by decide) rfl rfl ?_
    refine zG_aload_n X dX5_comesBack_5 rfl ?_
    refine zG_getR X dX5_comesBack_6 fl_X5_7 (by first | rfl | assumption) (by first | decide | omega) (by decide) rfl (by first | exact zF_at hF rfl rfl | assumption) ?_
    refine zj_iconst X dX5_comesBack_9 ?_
    refine zj_ialoadv (v := hs 0) X dX5_comesBack_10 (by first | rfl | assumption) (by first | decide | omega) (0) (by decide) (by decide) (by exact z51.trans e0) ?_
    refine zj_if_ne X dX5_comesBack_11 (tgt := 16) (by decide) (by first | decide | omega) (fun h_11 => ?_) (fun h_11 => ?_)
    · exact absurd h_11 (by first | decide | omega)
    · refine zj_iconst X dX5_comesBack_14 ?_
      refine zG_iret X dX5_comesBack_15 rfl ?_
      exact zMR.yes rfl zup_eq (by unfold cbR; rw [if_pos (by omega)]) sameM_r
