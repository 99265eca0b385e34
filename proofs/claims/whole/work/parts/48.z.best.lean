/-! the Model: bestLag -/
theorem zcs1 (P : Nat → Bool) (n : Nat) (h : P n = true) : zcnt P (n + 1) = zcnt P n + 1 := by rw [zcs, if_pos h]
theorem zcs0 (P : Nat → Bool) (n : Nat) (h : ¬ P n = true) : zcnt P (n + 1) = zcnt P n + 0 := by rw [zcs, if_neg h]
def lgR (r : Nat → Int) (lag : Int) : Nat → Int := fun i => if i = 3 then lag else r i
theorem mV_lg {r hs : Nat → Int} {wd : Nat → Nat → Int} {sb : Nat → Bool} {p : Nat → Int} {lag wt lag2 : Int} {sk : Bool} (v : mV r hs wd sb p lag wt sk) : mV (lgR r lag2) hs wd sb p lag2 wt sk := by
  have e : ∀ i, i ≠ 3 → lgR r lag2 i = r i := fun i h => if_neg h
  refine ⟨?_, fun k hk => ?_, fun t ht => ?_⟩
  · rw [e 0 (by omega), e 2 (by omega), e 4 (by omega), e 5 (by omega), e 6 (by omega), e 7 (by omega), e 11 (by omega)]
    exact ⟨v.1.1, v.1.2.1, if_pos rfl, v.1.2.2.2⟩
  · rw [e (13 + 7 * k + 0) (by omega), e (13 + 7 * k + 1) (by omega), e (13 + 7 * k + 3) (by omega), e (13 + 7 * k + 4) (by omega), e (13 + 7 * k + 5) (by omega)]
    exact v.2.1 k hk
  · rw [e (48 + t) (by omega)]
    exact v.2.2 t ht
/-- the best lag so far, and the fewest, with -1 ahead of the first -/
def blM (hs : Nat → Int) (wd : Nat → Nat → Int) (sb : Nat → Bool) (n : Nat) (i : Nat) : Int × Int := if i = 0 then (0, -1) else blF hs wd sb n i
theorem blM_p {hs : Nat → Int} {wd : Nat → Nat → Int} {sb : Nat → Bool} {n i : Nat} (h : i ≠ 0) : blM hs wd sb n i = blF hs wd sb n i := if_neg h
theorem blM_s {hs : Nat → Int} {wd : Nat → Nat → Int} {sb : Nat → Bool} {n i : Nat} (hn : n ≤ 200) : blM hs wd sb n (i + 1) = if (blM hs wd sb n i).2 < 0 ∨ dhR hs wd sb (60 * (i : Int)) n < (blM hs wd sb n i).2 then (60 * (i : Int), dhR hs wd sb (60 * (i : Int)) n) else blM hs wd sb n i := by
  show (if i + 1 = 0 then _ else blF hs wd sb n (i + 1)) = _
  rw [if_neg (by omega)]
  have h2 : ∀ l : Int, 0 ≤ dhR hs wd sb l n ∧ dhR hs wd sb l n ≤ n := fun l => zcnt_in _ n
  by_cases hi : i = 0
  · subst hi
    have h3 := h2 (60 * ((0 : Nat) : Int))
    show (if dhR hs wd sb (60 * ((0 : Nat) : Int)) n < 201 then (60 * ((0 : Nat) : Int), dhR hs wd sb (60 * ((0 : Nat) : Int)) n) else (0, 201)) = _
    rw [if_pos (by omega), if_pos (Or.inl (by show (-1 : Int) < 0; decide))]
  · have e : blM hs wd sb n i = blF hs wd sb n i := if_neg hi
    have hin := blF_in (hs := hs) (wd := wd) (sb := sb) hn i
    rw [e]
    show (if dhR hs wd sb (60 * (i : Int)) n < (blF hs wd sb n i).2 then _ else _) = _
    by_cases hq : dhR hs wd sb (60 * (i : Int)) n < (blF hs wd sb n i).2
    · rw [if_pos hq, if_pos (Or.inr hq)]
    · rw [if_neg hq, if_neg (by omega)]
set_option maxHeartbeats 4000000 in
set_option maxRecDepth 100000 in
theorem k_X5_bestLag (lo d : Nat) (hd : 6 ≤ d) (J : Nat → Nat → Int) (G : Nat → Nat → Int64) (F : Nat → Nat → Option Nat) (hF : zFk F) {hs : Nat → Int} {wd : Nat → Nat → Int} {sb : Nat → Bool} (mh : mH (J 51) hs wd sb) (ok : hwOk hs wd) {u : Int} (hu : zr u) : zCt lo yX5_bestLag cX5_bestLag 7 (some .int) d 0 0 [.ref (lo + 50), .int (zI u)] 57 57 (zM J) G F (zMR (if u < 1 ∨ 200 < u then 1 else 0) ((blF hs wd sb u.toNat 12).1) J J G F) := by
  refine zCt.mk (by decide) (mv_X5_bestLag.2.2.2.1) (Nat.le_of_ble_eq_true rfl) ?_
  intro p l e s m args below meth c D cA X
  have hok := ok.1
  unfold hOk at hok
  have hc5 : (hs 0).toNat ≤ 5 := by omega
  have e0 := mh.1 0 (by decide)
  have po := pT_ok ok
  have vm := mV_H mh
  by_cases hb : 1 ≤ u ∧ u ≤ 200
  · have loop : ∀ (q i : Nat), i + q = 12 → zG p l e { frames := d, cells := 0, slots := 0, locals := 35 * d } s m args below meth c D cA lo 7 0 0 (MQ below (zQ D cA lo 57 (zMR (if u < 1 ∨ 200 < u then 1 else 0) ((blF hs wd sb u.toNat 12).1) J J G F)) args s 0 0 (fun q => lo ≤ q)) 57 (zM ((kpJ (zup J 50 4 0)))) G F [some (.ref (lo + 50)), some (.int (zI u)), some (.int (zI ((blM hs wd sb u.toNat i).1))), some (.int (zI ((blM hs wd sb u.toNat i).2))), some (.int (zI (60 * (i : Int)))), none, none] [] 36 := by
      intro q
      induction q with
      | zero =>
        intro i  hk
        refine zG_iload X dX5_bestLag_36 rfl ?_
        refine zj_sipush X dX5_bestLag_38 (by decide) ?_
        refine zj_icmp_gt X dX5_bestLag_41 (tgt := 139) (by decide) (by first | decide | omega) (by first | decide | omega) (fun h_41 => ?_) (fun h_41 => ?_)
        · refine zG_iload_n X dX5_bestLag_139 rfl ?_
          refine zG_iret X dX5_bestLag_140 rfl ?_
          obtain rfl : i = 12 := by omega
          exact zMR.lk (if_neg (by omega)) (congrArg Prod.fst (blM_p (by decide))) (fun x y a b c => upr_ne a) (upr_ne (by decide))
        · exact absurd h_41 (by first | decide | omega)
      | succ q ih =>
        intro i  hk
        have hbi : 0 ≤ (blM hs wd sb u.toNat i).1 ∧ (blM hs wd sb u.toNat i).1 ≤ 100000 ∧ -1 ≤ (blM hs wd sb u.toNat i).2 ∧ (blM hs wd sb u.toNat i).2 ≤ 201 := by
          unfold blM
          split
          · exact ⟨by decide, by decide, by decide, by decide⟩
          · have := blF_in (hs := hs) (wd := wd) (sb := sb) (n := u.toNat) (by omega) i
            omega
        have inner : ∀ (q2 k : Nat), k + q2 = u.toNat → zG p l e { frames := d, cells := 0, slots := 0, locals := 35 * d } s m args below meth c D cA lo 7 0 0 (MQ below (zQ D cA lo 57 (zMR (if u < 1 ∨ 200 < u then 1 else 0) ((blF hs wd sb u.toNat 12).1) J J G F)) args s 0 0 (fun q => lo ≤ q)) 57 (zM (upr (kpJ (zup J 50 4 0)) 51 (psN hs wd sb (60 * (i : Int)) true (lgR (J 51) (60 * (i : Int))) (pT wd) (hs 11) k))) G F [some (.ref (lo + 50)), some (.int (zI u)), some (.int (zI ((blM hs wd sb u.toNat i).1))), some (.int (zI ((blM hs wd sb u.toNat i).2))), some (.int (zI (60 * (i : Int)))), some (.int (zI (zcnt (fun k => decide (fateN hs wd sb (60 * (i : Int)) true k (pT wd, hs 11) > 1)) k))), some (.int (zI (k : Int)))] [] 58 := by
          intro q2
          induction q2 with
          | zero =>
            intro k hk2
            obtain rfl : k = u.toNat := by omega
            have hkb := kb_eq (J := zup J 50 4 0) (row := psN hs wd sb (60 * (i : Int)) true (lgR (J 51) (60 * (i : Int))) (pT wd) (hs 11) u.toNat) (fun y hy => by
              rw [psN_hi hc5 (by omega) (by omega), z51]
              exact if_neg (by omega))
            have hci := zcnt_in (fun k => decide (fateN hs wd sb (60 * (i : Int)) true k (pT wd, hs 11) > 1)) u.toNat
            refine zG_iload X dX5_bestLag_58 rfl ?_
            refine zG_iload_n X dX5_bestLag_60 rfl ?_
            refine zj_icmp_ge X dX5_bestLag_61 (tgt := 88) (by decide) (by first | decide | omega) (by first | decide | omega) (fun h_61 => ?_) (fun h_61 => ?_)
            · refine zG_aload_n X dX5_bestLag_88 rfl ?_
              refine zj_callV0 (as2 := []) X (k_X5_takesBack lo (d - 1) (upr (kpJ (zup J 50 4 0)) 51 (psN hs wd sb (60 * (i : Int)) true (lgR (J 51) (60 * (i : Int))) (pT wd) (hs 11) u.toNat)) G F hF) dX5_bestLag_89 mv_X5_takesBack ml_X5_111 (by first | rfl | assumption) rfl (by first | decide | omega) rfl rfl (by show d - 1 + 1 ≤ d; omega) (by show 19 + 2 + 35 * (d - 1) ≤ 35 * (d); omega) (Nat.le_of_ble_eq_true rfl) (Nat.le_of_ble_eq_true rfl) (Nat.le_of_ble_eq_true rfl) ?_
              rw [hkb]
              refine zG_iload_n X dX5_bestLag_92 rfl ?_
              refine zj_if_lt X dX5_bestLag_93 (tgt := 102) (by decide) (by first | decide | omega) (fun h_93 => ?_) (fun h_93 => ?_)
              · refine zj_iconst X dX5_bestLag_102 ?_
                refine zG_goto X dX5_bestLag_103 (tgt := 107) (by decide) ?_
                refine zG_istore X dX5_bestLag_107 (by decide) rfl ?_
                refine zG_iload X dX5_bestLag_109 rfl ?_
                refine zj_if_eq X dX5_bestLag_111 (tgt := 119) (by decide) (by first | decide | omega) (fun h_111 => ?_) (fun h_111 => ?_)
                · exact absurd h_111 (by first | decide | omega)
                · refine zG_iload X dX5_bestLag_114 rfl ?_
                  refine zG_goto X dX5_bestLag_116 (tgt := 120) (by decide) ?_
                  refine zG_istore_n X dX5_bestLag_120 (by decide) rfl ?_
                  refine zG_iload X dX5_bestLag_121 rfl ?_
                  refine zj_if_eq X dX5_bestLag_123 (tgt := 131) (by decide) (by first | decide | omega) (fun h_123 => ?_) (fun h_123 => ?_)
                  · exact absurd h_123 (by first | decide | omega)
                  · refine zG_iload X dX5_bestLag_126 rfl ?_
                    refine zG_goto X dX5_bestLag_128 (tgt := 132) (by decide) ?_
                    refine zG_istore_n X dX5_bestLag_132 (by decide) rfl ?_
                    refine zj_iinc X dX5_bestLag_133 rfl (by decide) rfl ?_
                    refine zG_goto X dX5_bestLag_136 (tgt := 36) (by decide) ?_
                    have hi := ih (i + 1) (by omega)
                    have hdh : dhR hs wd sb (60 * (i : Int)) u.toNat = zcnt (fun k => decide (fateN hs wd sb (60 * (i : Int)) true k (pT wd, hs 11) > 1)) u.toNat := rfl
                    rw [show 60 * ((i + 1 : Nat) : Int) = 60 * (i : Int) + 60 by omega] at hi
                    first
                      | (rw [(blM_s (by omega)).trans (if_pos (show (blM hs wd sb u.toNat i).2 < 0 ∨ dhR hs wd sb (60 * (i : Int)) u.toNat < (blM hs wd sb u.toNat i).2 by omega)), hdh] at hi; exact zG_sub (zle_some (zle_some (zle_some (zle_some (zle_some (zle_none (zle_none zle_nil))))))) hi)
                      | (rw [(blM_s (by omega)).trans (if_neg (show ¬ ((blM hs wd sb u.toNat i).2 < 0 ∨ dhR hs wd sb (60 * (i : Int)) u.toNat < (blM hs wd sb u.toNat i).2) by omega))] at hi; exact zG_sub (zle_some (zle_some (zle_some (zle_some (zle_some (zle_none (zle_none zle_nil))))))) hi)
              · refine zG_iload X dX5_bestLag_96 rfl ?_
                refine zG_iload_n X dX5_bestLag_98 rfl ?_
                refine zj_icmp_ge X dX5_bestLag_99 (tgt := 106) (by decide) (by first | decide | omega) (by first | decide | omega) (fun h_99 => ?_) (fun h_99 => ?_)
                · refine zj_iconst X dX5_bestLag_106 ?_
                  refine zG_istore X dX5_bestLag_107 (by decide) rfl ?_
                  refine zG_iload X dX5_bestLag_109 rfl ?_
                  refine zj_if_eq X dX5_bestLag_111 (tgt := 119) (by decide) (by first | decide | omega) (fun h_111 => ?_) (fun h_111 => ?_)
                  · refine zG_iload_n X dX5_bestLag_119 rfl ?_
                    refine zG_istore_n X dX5_bestLag_120 (by decide) rfl ?_
                    refine zG_iload X dX5_bestLag_121 rfl ?_
                    refine zj_if_eq X dX5_bestLag_123 (tgt := 131) (by decide) (by first | decide | omega) (fun h_123 => ?_) (fun h_123 => ?_)
                    · refine zG_iload_n X dX5_bestLag_131 rfl ?_
                      refine zG_istore_n X dX5_bestLag_132 (by decide) rfl ?_
                      refine zj_iinc X dX5_bestLag_133 rfl (by decide) rfl ?_
                      refine zG_goto X dX5_bestLag_136 (tgt := 36) (by decide) ?_
                      have hi := ih (i + 1) (by omega)
                      have hdh : dhR hs wd sb (60 * (i : Int)) u.toNat = zcnt (fun k => decide (fateN hs wd sb (60 * (i : Int)) true k (pT wd, hs 11) > 1)) u.toNat := rfl
                      rw [show 60 * ((i + 1 : Nat) : Int) = 60 * (i : Int) + 60 by omega] at hi
                      first
                        | (rw [(blM_s (by omega)).trans (if_pos (show (blM hs wd sb u.toNat i).2 < 0 ∨ dhR hs wd sb (60 * (i : Int)) u.toNat < (blM hs wd sb u.toNat i).2 by omega)), hdh] at hi; exact zG_sub (zle_some (zle_some (zle_some (zle_some (zle_some (zle_none (zle_none zle_nil))))))) hi)
                        | (rw [(blM_s (by omega)).trans (if_neg (show ¬ ((blM hs wd sb u.toNat i).2 < 0 ∨ dhR hs wd sb (60 * (i : Int)) u.toNat < (blM hs wd sb u.toNat i).2) by omega))] at hi; exact zG_sub (zle_some (zle_some (zle_some (zle_some (zle_some (zle_none (zle_none zle_nil))))))) hi)
                    · exact absurd h_123 (by first | decide | omega)
                  · exact absurd h_111 (by first | decide | omega)
                · refine zj_iconst X dX5_bestLag_102 ?_
                  refine zG_goto X dX5_bestLag_103 (tgt := 107) (by decide) ?_
                  refine zG_istore X dX5_bestLag_107 (by decide) rfl ?_
                  refine zG_iload X dX5_bestLag_109 rfl ?_
                  refine zj_if_eq X dX5_bestLag_111 (tgt := 119) (by decide) (by first | decide | omega) (fun h_111 => ?_) (fun h_111 => ?_)
                  · exact absurd h_111 (by first | decide | omega)
                  · refine zG_iload X dX5_bestLag_114 rfl ?_
                    refine zG_goto X dX5_bestLag_116 (tgt := 120) (by decide) ?_
                    refine zG_istore_n X dX5_bestLag_120 (by decide) rfl ?_
                    refine zG_iload X dX5_bestLag_121 rfl ?_
                    refine zj_if_eq X dX5_bestLag_123 (tgt := 131) (by decide) (by first | decide | omega) (fun h_123 => ?_) (fun h_123 => ?_)
                    · exact absurd h_123 (by first | decide | omega)
                    · refine zG_iload X dX5_bestLag_126 rfl ?_
                      refine zG_goto X dX5_bestLag_128 (tgt := 132) (by decide) ?_
                      refine zG_istore_n X dX5_bestLag_132 (by decide) rfl ?_
                      refine zj_iinc X dX5_bestLag_133 rfl (by decide) rfl ?_
                      refine zG_goto X dX5_bestLag_136 (tgt := 36) (by decide) ?_
                      have hi := ih (i + 1) (by omega)
                      have hdh : dhR hs wd sb (60 * (i : Int)) u.toNat = zcnt (fun k => decide (fateN hs wd sb (60 * (i : Int)) true k (pT wd, hs 11) > 1)) u.toNat := rfl
                      rw [show 60 * ((i + 1 : Nat) : Int) = 60 * (i : Int) + 60 by omega] at hi
                      first
                        | (rw [(blM_s (by omega)).trans (if_pos (show (blM hs wd sb u.toNat i).2 < 0 ∨ dhR hs wd sb (60 * (i : Int)) u.toNat < (blM hs wd sb u.toNat i).2 by omega)), hdh] at hi; exact zG_sub (zle_some (zle_some (zle_some (zle_some (zle_some (zle_none (zle_none zle_nil))))))) hi)
                        | (rw [(blM_s (by omega)).trans (if_neg (show ¬ ((blM hs wd sb u.toNat i).2 < 0 ∨ dhR hs wd sb (60 * (i : Int)) u.toNat < (blM hs wd sb u.toNat i).2) by omega))] at hi; exact zG_sub (zle_some (zle_some (zle_some (zle_some (zle_some (zle_none (zle_none zle_nil))))))) hi)
            · exact absurd h_61 (by first | decide | omega)
          | succ q2 ihk =>
            intro k hk2
            have hN := mV_N (mV_lg (lag2 := (60 * (i : Int))) (vm hc5)) hc5 k
            have hD := dayN_ok (sb := sb) (lag := (60 * (i : Int))) (sk := true) (r := (pT wd, hs 11)) ok po ⟨by omega, by omega⟩ k
            have hfi := mfate_in (hs := hs) (wd := wd) (sb := sb) (ps := (dayN hs wd sb (60 * (i : Int)) true k (pT wd, hs 11)).1) (lag := (60 * (i : Int))) (wt := (dayN hs wd sb (60 * (i : Int)) true k (pT wd, hs 11)).2)
            have hps := k_X5_passes lo (d - 1) (by omega) (upr (kpJ (zup J 50 4 0)) 51 (psN hs wd sb (60 * (i : Int)) true (lgR (J 51) (60 * (i : Int))) (pT wd) (hs 11) k)) G F hF (ps := (dayN hs wd sb (60 * (i : Int)) true k (pT wd, hs 11)).1) (lag := (60 * (i : Int))) (wt := (dayN hs wd sb (60 * (i : Int)) true k (pT wd, hs 11)).2) (sk := true) (by rw [show (upr (kpJ (zup J 50 4 0)) 51 (psN hs wd sb (60 * (i : Int)) true (lgR (J 51) (60 * (i : Int))) (pT wd) (hs 11) k)) 51 = psN hs wd sb (60 * (i : Int)) true (lgR (J 51) (60 * (i : Int))) (pT wd) (hs 11) k from funext (fun i => upr_eq)]; exact hN) ok hD.1 (by omega) (by omega) hD.2.1 (by omega)
            rw [show (upr (kpJ (zup J 50 4 0)) 51 (psN hs wd sb (60 * (i : Int)) true (lgR (J 51) (60 * (i : Int))) (pT wd) (hs 11) k)) 51 = psN hs wd sb (60 * (i : Int)) true (lgR (J 51) (60 * (i : Int))) (pT wd) (hs 11) k from funext (fun i => upr_eq), upr_upr] at hps
            have hz := zcs (fun k => decide (fateN hs wd sb (60 * (i : Int)) true k (pT wd, hs 11) > 1)) k
            have hfe : mfate hs wd sb (dayN hs wd sb (60 * (i : Int)) true k (pT wd, hs 11)).1 (60 * (i : Int)) (dayN hs wd sb (60 * (i : Int)) true k (pT wd, hs 11)).2 = fateN hs wd sb (60 * (i : Int)) true k (pT wd, hs 11) := rfl
            refine zG_iload X dX5_bestLag_58 rfl ?_
            refine zG_iload_n X dX5_bestLag_60 rfl ?_
            refine zj_icmp_ge X dX5_bestLag_61 (tgt := 88) (by decide) (by first | decide | omega) (by first | decide | omega) (fun h_61 => ?_) (fun h_61 => ?_)
            · exact absurd h_61 (by first | decide | omega)
            · refine zG_iload X dX5_bestLag_64 rfl ?_
              refine zG_aload_n X dX5_bestLag_66 rfl ?_
              refine zj_callV1 (as2 := []) X (hps) dX5_bestLag_67 mv_X5_passes ml_X5_92 (by first | rfl | assumption) rfl (by first | decide | omega) rfl rfl (by show d - 1 + 1 ≤ d; omega) (by show 19 + 2 + 35 * (d - 1) ≤ 35 * (d); omega) (Nat.le_of_ble_eq_true rfl) (Nat.le_of_ble_eq_true rfl) (Nat.le_of_ble_eq_true rfl) ?_
              refine zj_iconst X dX5_bestLag_70 ?_
              refine zj_icmp_le X dX5_bestLag_71 (tgt := 78) (by decide) (by first | decide | omega) (by first | decide | omega) (fun h_71 => ?_) (fun h_71 => ?_)
              · refine zj_iconst X dX5_bestLag_78 ?_
                refine zj_iadd X dX5_bestLag_79 ?_
                refine zG_istore X dX5_bestLag_80 (by decide) rfl ?_
                refine zj_iinc X dX5_bestLag_82 rfl (by decide) rfl ?_
                refine zG_goto X dX5_bestLag_85 (tgt := 58) (by decide) ?_
                have hi := ihk (k + 1) (by omega)
                first
                  | (rw [zcs1 (fun k => decide (fateN hs wd sb (60 * (i : Int)) true k (pT wd, hs 11) > 1)) k (decide_eq_true (by omega))] at hi; exact hi)
                  | (rw [zcs0 (fun k => decide (fateN hs wd sb (60 * (i : Int)) true k (pT wd, hs 11) > 1)) k (by rw [decide_eq_true_iff]; omega)] at hi; exact hi)
              · refine zj_iconst X dX5_bestLag_74 ?_
                refine zG_goto X dX5_bestLag_75 (tgt := 79) (by decide) ?_
                refine zj_iadd X dX5_bestLag_79 ?_
                refine zG_istore X dX5_bestLag_80 (by decide) rfl ?_
                refine zj_iinc X dX5_bestLag_82 rfl (by decide) rfl ?_
                refine zG_goto X dX5_bestLag_85 (tgt := 58) (by decide) ?_
                have hi := ihk (k + 1) (by omega)
                first
                  | (rw [zcs1 (fun k => decide (fateN hs wd sb (60 * (i : Int)) true k (pT wd, hs 11) > 1)) k (decide_eq_true (by omega))] at hi; exact hi)
                  | (rw [zcs0 (fun k => decide (fateN hs wd sb (60 * (i : Int)) true k (pT wd, hs 11) > 1)) k (by rw [decide_eq_true_iff]; omega)] at hi; exact hi)
        refine zG_iload X dX5_bestLag_36 rfl ?_
        refine zj_sipush X dX5_bestLag_38 (by decide) ?_
        refine zj_icmp_gt X dX5_bestLag_41 (tgt := 139) (by decide) (by first | decide | omega) (by first | decide | omega) (fun h_41 => ?_) (fun h_41 => ?_)
        · exact absurd h_41 (by first | decide | omega)
        · refine zG_aload_n X dX5_bestLag_44 rfl ?_
          refine zG_getR X dX5_bestLag_45 fl_X5_7 (by first | rfl | assumption) (by first | decide | omega) (by decide) rfl (by first | exact zF_at hF rfl rfl | assumption) ?_
          refine zj_iconst X dX5_bestLag_48 ?_
          refine zG_iload X dX5_bestLag_49 rfl ?_
          refine zj_iastore X dX5_bestLag_51 (by first | rfl | assumption) (by first | decide | omega) (3) (by decide) (by decide) ?_
          refine zj_iconst X dX5_bestLag_52 ?_
          refine zG_istore X dX5_bestLag_53 (by decide) rfl ?_
          refine zj_iconst X dX5_bestLag_55 ?_
          refine zG_istore X dX5_bestLag_56 (by decide) rfl ?_
          have h0 := inner u.toNat 0 (by omega)
          rw [psN_0] at h0
          rw [show zup (kpJ (zup J 50 4 0)) 51 3 (60 * (i : Int)) = upr (kpJ (zup J 50 4 0)) 51 (lgR (J 51) (60 * (i : Int))) from by rw [show upr (kpJ (zup J 50 4 0)) 51 (lgR (J 51) (60 * (i : Int))) = upr (upr (kpJ (zup J 50 4 0)) 51 ((kpJ (zup J 50 4 0)) 51)) 51 (lgR (J 51) (60 * (i : Int))) from upr_upr.symm, upr_self]; funext x y; by_cases hx : x = 51 <;> by_cases hy : y = 3 <;> simp [zup, upr, lgR, hx, hy, kp51, kpJ]]
          exact h0
    refine zG_aload_n X dX5_bestLag_0 rfl ?_
    refine zG_iload_n X dX5_bestLag_1 rfl ?_
    refine zj_iconst X dX5_bestLag_2 ?_
    refine zj_sipush X dX5_bestLag_3 (by decide) ?_
    refine zj_callS1 (as2 := [_, _, _]) X (k_X5_in lo (d - 1) J G F (x := u) (a := 1) (b := 200) (by first | assumption | (unfold zr; omega)) (by first | decide | (unfold zr; omega)) (by first | decide | (unfold zr; omega))) dX5_bestLag_6 ms_X5_in ml_X5_41 rfl rfl (by show d - 1 + 1 ≤ d; omega) (by show 19 + 3 + 35 * (d - 1) ≤ 35 * (d); omega) (Nat.le_of_ble_eq_true rfl) (Nat.le_of_ble_eq_true rfl) (Nat.le_of_ble_eq_true rfl) ?_
    rw [if_pos hb]
    refine zj_if_eq X dX5_bestLag_9 (tgt := 16) (by decide) (by first | decide | omega) (fun h_9 => ?_) (fun h_9 => ?_)
    · exact absurd h_9 (by first | decide | omega)
    · refine zj_iconst X dX5_bestLag_12 ?_
      refine zG_goto X dX5_bestLag_13 (tgt := 17) (by decide) ?_
      refine zj_callV1 (as2 := [_]) X (k_X5_refused lo (d - 1) J G F (x := 0) (by decide)) dX5_bestLag_17 mv_X5_refused ml_X5_33 (by first | rfl | assumption) rfl (by first | decide | omega) rfl rfl (by show d - 1 + 1 ≤ d; omega) (by show 19 + 2 + 35 * (d - 1) ≤ 35 * (d); omega) (Nat.le_of_ble_eq_true rfl) (Nat.le_of_ble_eq_true rfl) (Nat.le_of_ble_eq_true rfl) ?_
      refine zj_if_eq X dX5_bestLag_20 (tgt := 25) (by decide) (by first | decide | omega) (fun h_20 => ?_) (fun h_20 => ?_)
      · refine zG_aload_n X dX5_bestLag_25 rfl ?_
        refine zj_callV0 (as2 := []) X (k_X5_keeps lo (d - 1) (zup J 50 4 0) G F hF) dX5_bestLag_26 mv_X5_keeps ml_X5_108 (by first | rfl | assumption) rfl (by first | decide | omega) rfl rfl (by show d - 1 + 1 ≤ d; omega) (by show 19 + 2 + 35 * (d - 1) ≤ 35 * (d); omega) (Nat.le_of_ble_eq_true rfl) (Nat.le_of_ble_eq_true rfl) (Nat.le_of_ble_eq_true rfl) ?_
        refine zj_iconst X dX5_bestLag_29 ?_
        refine zG_istore_n X dX5_bestLag_30 (by decide) rfl ?_
        refine zj_iconst X dX5_bestLag_31 ?_
        refine zG_istore_n X dX5_bestLag_32 (by decide) rfl ?_
        refine zj_iconst X dX5_bestLag_33 ?_
        refine zG_istore X dX5_bestLag_34 (by decide) rfl ?_
        have h0 := loop 12 0 (by omega)
        exact zG_sub (zle_some (zle_some (zle_some (zle_some (zle_some (zle_none (zle_none zle_nil))))))) h0
      · exact absurd h_20 (by first | decide | omega)
  · refine zG_aload_n X dX5_bestLag_0 rfl ?_
    refine zG_iload_n X dX5_bestLag_1 rfl ?_
    refine zj_iconst X dX5_bestLag_2 ?_
    refine zj_sipush X dX5_bestLag_3 (by decide) ?_
    refine zj_callS1 (as2 := [_, _, _]) X (k_X5_in lo (d - 1) J G F (x := u) (a := 1) (b := 200) (by first | assumption | (unfold zr; omega)) (by first | decide | (unfold zr; omega)) (by first | decide | (unfold zr; omega))) dX5_bestLag_6 ms_X5_in ml_X5_41 rfl rfl (by show d - 1 + 1 ≤ d; omega) (by show 19 + 3 + 35 * (d - 1) ≤ 35 * (d); omega) (Nat.le_of_ble_eq_true rfl) (Nat.le_of_ble_eq_true rfl) (Nat.le_of_ble_eq_true rfl) ?_
    rw [if_neg hb]
    refine zj_if_eq X dX5_bestLag_9 (tgt := 16) (by decide) (by first | decide | omega) (fun h_9 => ?_) (fun h_9 => ?_)
    · refine zj_iconst X dX5_bestLag_16 ?_
      refine zj_callV1 (as2 := [_]) X (k_X5_refused lo (d - 1) J G F (x := 1) (by decide)) dX5_bestLag_17 mv_X5_refused ml_X5_33 (by first | rfl | assumption) rfl (by first | decide | omega) rfl rfl (by show d - 1 + 1 ≤ d; omega) (by show 19 + 2 + 35 * (d - 1) ≤ 35 * (d); omega) (Nat.le_of_ble_eq_true rfl) (Nat.le_of_ble_eq_true rfl) (Nat.le_of_ble_eq_true rfl) ?_
      refine zj_if_eq X dX5_bestLag_20 (tgt := 25) (by decide) (by first | decide | omega) (fun h_20 => ?_) (fun h_20 => ?_)
      · exact absurd h_20 (by first | decide | omega)
      · refine zj_iconst X dX5_bestLag_23 ?_
        refine zG_iret X dX5_bestLag_24 rfl ?_
        exact zMR.no (if_pos (by omega)) (by decide)
    · exact absurd h_9 (by first | decide | omega)
