def fateA (hs : Nat → Int) (wd : Nat → Nat → Int) (sb : Nat → Bool) (k : Nat) : Int := fateN hs wd sb (hs 3) false k (alR hs wd sb (alT hs wd))
def erP (hs : Nat → Int) (wd : Nat → Nat → Int) (sb : Nat → Bool) (k : Nat) : Bool := decide (¬(fateN hs wd sb (hs 3) true k (pT wd, hs 11) = 1 ↔ fateA hs wd sb k = 1))
theorem fateA_of {hs : Nat → Int} {wd : Nat → Nat → Int} {sb : Nat → Bool} {J : Nat → Nat → Int} (ok : hwOk hs wd) (k : Nat) : mfate hs wd sb (dayN hs wd sb (hs 3) false k (alR hs wd sb (alJ hs wd J))).1 (hs 3) (dayN hs wd sb (hs 3) false k (alR hs wd sb (alJ hs wd J))).2 = fateA hs wd sb k := by
  have h := dayN_c5 (sb := sb) (lag := hs 3) (sk := false) (wt := 0) ok (alJ_5 (hs := hs) (wd := wd) (J := J)) (hs 1 - alS hs).toNat
  have e : alR hs wd sb (alJ hs wd J) = ((alR hs wd sb (alJ hs wd J)).1, (alR hs wd sb (alT hs wd)).2) := Prod.ext rfl h.2
  show fateN hs wd sb (hs 3) false k (alR hs wd sb (alJ hs wd J)) = fateN hs wd sb (hs 3) false k (alR hs wd sb (alT hs wd))
  rw [e]
  exact fateN_c5 ok h.1 k
set_option maxHeartbeats 4000000 in
set_option maxRecDepth 100000 in
theorem k_X4_errors (lo d : Nat) (hd : 6 ≤ d) (J : Nat → Nat → Int) (G : Nat → Nat → Int64) (F : Nat → Nat → Option Nat) (hF : zFk F) {hs : Nat → Int} {wd : Nat → Nat → Int} (vh : vH J hs wd) (ok : hwOk hs wd) {u : Int} (hu : zr u) (hpd : hs 12 ≤ hs 1) : zCtX lo yX4_errors cX4_errors 6 (some .int) d 1 6 [.ref (lo + 0), .int (zI u)] (zM J) G F (zPI (if u < 1 ∨ 1000 < u then 1 else 0) (fS (zcnt (erP hs wd (sbC G 1)) u.toNat) J G F)) (zPX (if u < 1 ∨ 1000 < u then 1 else 0) "java/lang/IllegalArgumentException" "java/lang/IllegalArgumentException" (zM J) G F) := by
  refine zCtX.mk (by decide) (mv_X4_errors.2.2.2.1) (Nat.le_of_ble_eq_true rfl) ?_
  intro p l e s m args below meth c D cA X Y hx
  have hcf := ok.1
  unfold hOk at hcf
  have hJ3 : J 1 4 = hs 3 := vh.1 3 (by decide)
  have hJ13 : J 1 13 = hs 11 := vh.1 11 (by decide)
  have pk0 := psJ_ok vh ok (w := 37)
  unfold zr at hu
  have vW1 : vH (wkJ (bsJ J 37 (hs 3) 1) 37 (psJ J 37) (hs 11)) hs wd := vH_wk (vH_bs vh (Or.inl rfl)) (by decide)
  have vb : vH (bsJ (bsJ J 37 (hs 3) 1) 39 (hs 3) 0) hs wd := vH_bs (vH_bs vh (Or.inl rfl)) (Or.inr rfl)
  have e73 : bsJ (bsJ J 37 (hs 3) 1) 39 (hs 3) 0 37 3 = hs 3 := by simp [bsJ, zup]
  have e74 : bsJ (bsJ J 37 (hs 3) 1) 39 (hs 3) 0 37 4 = 1 := by simp [bsJ, zup]
  have e93 : bsJ (bsJ J 37 (hs 3) 1) 39 (hs 3) 0 39 3 = hs 3 := by simp [bsJ, zup]
  have e94 : bsJ (bsJ J 37 (hs 3) 1) 39 (hs 3) 0 39 4 = 0 := by simp [bsJ, zup]
  have pka : pOk wd (alR hs wd (sbC G 1) (alJ hs wd (wkJ (bsJ J 37 (hs 3) 1) 37 (psJ J 37) (hs 11)))).1 ∧ 0 ≤ (alR hs wd (sbC G 1) (alJ hs wd (wkJ (bsJ J 37 (hs 3) 1) 37 (psJ J 37) (hs 11)))).2 ∧ (alR hs wd (sbC G 1) (alJ hs wd (wkJ (bsJ J 37 (hs 3) 1) 37 (psJ J 37) (hs 11)))).2 ≤ 100 := dayN_ok (sb := sbC G 1) (lag := hs 3) (sk := false) (r := (alJ hs wd (wkJ (bsJ J 37 (hs 3) 1) 37 (psJ J 37) (hs 11)), 0)) ok (alJ_ok ok) ⟨Int.le_refl _, (by show (0 : Int) ≤ 100; decide)⟩ _
  refine zG_iload_n X dX4_errors_0 rfl ?_
  refine zj_iconst X dX4_errors_1 ?_
  refine zj_icmp_lt X dX4_errors_2 (tgt := 12) (by decide) (by first | decide | omega) (by first | decide | omega) (fun h_2 => ?_) (fun h_2 => ?_)
  · exact zG_throwS X Y hx rfl xE_a (by decide) dX4_errors_12 dX4_errors_15 dX4_errors_16 dX4_errors_18 dX4_errors_21 (by show 6 ≤ d; omega) (by show 0 + 82 ≤ 35 * d; omega) (Nat.le_of_ble_eq_true rfl) (Nat.le_of_ble_eq_true rfl) (Nat.le_of_ble_eq_true rfl) (Nat.le_of_ble_eq_true rfl) (⟨Or.inl ⟨if_pos (by omega), rfl⟩, rfl, rfl, rfl⟩)
  · refine zG_iload_n X dX4_errors_5 rfl ?_
    refine zj_sipush X dX4_errors_6 (by decide) ?_
    refine zj_icmp_le X dX4_errors_9 (tgt := 22) (by decide) (by first | decide | omega) (by first | decide | omega) (fun h_9 => ?_) (fun h_9 => ?_)
    · refine zG_aload_n X dX4_errors_22 rfl ?_
      refine zG_getR X dX4_errors_23 fl_X4_25 (by first | rfl | assumption) (by first | decide | omega) (by decide) rfl (by first | exact zF_at hF rfl rfl | exact zF_at hF1 rfl rfl | assumption) ?_
      refine zj_callV0 (as2 := []) X (k_X2_startToday lo (d - 1) J G F hF (Or.inl rfl)) dX4_errors_26 mv_X2_startToday ml_X4_163 (by first | rfl | assumption) rfl (by first | decide | omega) rfl rfl (by show d - 1 + 1 ≤ d; omega) (by show 19 + 2 + 35 * (d - 1) ≤ 35 * (d); omega) (Nat.le_of_ble_eq_true rfl) (Nat.le_of_ble_eq_true rfl) (Nat.le_of_ble_eq_true rfl) ?_
      rw [stJ_wk, hJ3, hJ13]
      refine zG_aload_n X dX4_errors_29 rfl ?_
      refine zG_getR X dX4_errors_30 fl_X4_29 (by first | rfl | assumption) (by first | decide | omega) (by decide) rfl (by first | exact zF_at hF rfl rfl | exact zF_at hF1 rfl rfl | assumption) ?_
      refine zj_callV0 (as2 := []) X (k_X2_readAlmanac lo (d - 1) (by omega) (wkJ (bsJ J 37 (hs 3) 1) 37 (psJ J 37) (hs 11)) G F hF vW1 ok) dX4_errors_33 mv_X2_readAlmanacUntilToday ml_X4_226 (by first | rfl | assumption) rfl (by first | decide | omega) rfl rfl (by show d - 1 + 1 ≤ d; omega) (by show 19 + 3 + 35 * (d - 1) ≤ 35 * (d); omega) (Nat.le_of_ble_eq_true rfl) (Nat.le_of_ble_eq_true rfl) (Nat.le_of_ble_eq_true rfl) ?_
      rw [bs_wk]
      refine zj_iconst X dX4_errors_36 ?_
      refine zG_istore_n X dX4_errors_37 (by decide) rfl ?_
      refine zj_iconst X dX4_errors_38 ?_
      refine zG_istore_n X dX4_errors_39 (by decide) rfl ?_
      have loop : ∀ (q k : Nat), k + q = u.toNat → zG p l e { frames := d, cells := 1, slots := 6, locals := 35 * d } s m args below meth c D cA lo 6 0 0 (vx_MQ below (zQ D cA lo 57 (zPI (if u < 1 ∨ 1000 < u then 1 else 0) (fS (zcnt (erP hs wd (sbC G 1)) u.toNat) J G F))) (zXQ D cA lo (zPX (if u < 1 ∨ 1000 < u then 1 else 0) "java/lang/IllegalArgumentException" "java/lang/IllegalArgumentException" (zM J) G F)) args s 1 6 (fun q => lo ≤ q)) 57 (zM (wkJ (wkJ (bsJ (bsJ J 37 (hs 3) 1) 39 (hs 3) 0) 37 (dayN hs wd (sbC G 1) (hs 3) true k (psJ J 37, hs 11)).1 (dayN hs wd (sbC G 1) (hs 3) true k (psJ J 37, hs 11)).2) 39 (dayN hs wd (sbC G 1) (hs 3) false k (alR hs wd (sbC G 1) (alJ hs wd (wkJ (bsJ J 37 (hs 3) 1) 37 (psJ J 37) (hs 11))))).1 (dayN hs wd (sbC G 1) (hs 3) false k (alR hs wd (sbC G 1) (alJ hs wd (wkJ (bsJ J 37 (hs 3) 1) 37 (psJ J 37) (hs 11))))).2)) G F [some (.ref (lo + 0)), some (.int (zI u)), some (.int (zI (zcnt (erP hs wd (sbC G 1)) k))), some (.int (zI (k : Int))), none, none] [] 40 := by
        intro q
        induction q with
        | zero =>
          intro k hk
          refine zG_iload_n X dX4_errors_40 rfl ?_
          refine zG_iload_n X dX4_errors_41 rfl ?_
          refine zj_icmp_ge X dX4_errors_42 (tgt := 97) (by decide) (by first | decide | omega) (by first | decide | omega) (fun h_42 => ?_) (fun h_42 => ?_)
          · refine zG_iload_n X dX4_errors_97 rfl ?_
            refine zG_iretX X dX4_errors_98 rfl (Nat.le_of_ble_eq_true rfl) (Nat.le_of_ble_eq_true rfl) ?_
            obtain rfl : k = u.toNat := by omega
            exact ⟨if_neg (by omega), _, _, rfl, rfl, rfl, (sameB_wk (sameB_wk (sameB_tr (sameB_bs (Or.inr rfl)) (sameB_bs (Or.inl rfl))) (Or.inl rfl)) (Or.inr rfl)), rfl, rfl⟩
          · exact absurd h_42 (by first | decide | omega)
        | succ q ih =>
          intro k hk
          have hzi := zcnt_in (erP hs wd (sbC G 1)) k
          have hd1 := dayN_ok (sb := sbC G 1) (lag := hs 3) (sk := true) (r := (psJ J 37, hs 11)) ok pk0 ⟨by omega, by omega⟩ k
          have hd2 := dayN_ok (sb := sbC G 1) (lag := hs 3) (sk := false) (r := alR hs wd (sbC G 1) (alJ hs wd (wkJ (bsJ J 37 (hs 3) 1) 37 (psJ J 37) (hs 11)))) ok pka.1 pka.2 k
          have hfe : mfate hs wd (sbC G 1) (dayN hs wd (sbC G 1) (hs 3) true k (psJ J 37, hs 11)).1 (hs 3) (dayN hs wd (sbC G 1) (hs 3) true k (psJ J 37, hs 11)).2 = fateN hs wd (sbC G 1) (hs 3) true k (pT wd, hs 11) := fateN_c5 ok (psJ_5 vh) k
          have hfa : mfate hs wd (sbC G 1) (dayN hs wd (sbC G 1) (hs 3) false k (alR hs wd (sbC G 1) (alJ hs wd (wkJ (bsJ J 37 (hs 3) 1) 37 (psJ J 37) (hs 11))))).1 (hs 3) (dayN hs wd (sbC G 1) (hs 3) false k (alR hs wd (sbC G 1) (alJ hs wd (wkJ (bsJ J 37 (hs 3) 1) 37 (psJ J 37) (hs 11))))).2 = fateA hs wd (sbC G 1) k := fateA_of ok k
          have hf1 := mfate_in (hs := hs) (wd := wd) (sb := sbC G 1) (ps := (dayN hs wd (sbC G 1) (hs 3) true k (psJ J 37, hs 11)).1) (lag := hs 3) (wt := (dayN hs wd (sbC G 1) (hs 3) true k (psJ J 37, hs 11)).2)
          have hf2 := mfate_in (hs := hs) (wd := wd) (sb := sbC G 1) (ps := (dayN hs wd (sbC G 1) (hs 3) false k (alR hs wd (sbC G 1) (alJ hs wd (wkJ (bsJ J 37 (hs 3) 1) 37 (psJ J 37) (hs 11))))).1) (lag := hs 3) (wt := (dayN hs wd (sbC G 1) (hs 3) false k (alR hs wd (sbC G 1) (alJ hs wd (wkJ (bsJ J 37 (hs 3) 1) 37 (psJ J 37) (hs 11))))).2)
          have hzs := zcs (erP hs wd (sbC G 1)) k
          have hiff : erP hs wd (sbC G 1) k = true ↔ ¬(mfate hs wd (sbC G 1) (dayN hs wd (sbC G 1) (hs 3) true k (psJ J 37, hs 11)).1 (hs 3) (dayN hs wd (sbC G 1) (hs 3) true k (psJ J 37, hs 11)).2 = 1 ↔ mfate hs wd (sbC G 1) (dayN hs wd (sbC G 1) (hs 3) false k (alR hs wd (sbC G 1) (alJ hs wd (wkJ (bsJ J 37 (hs 3) 1) 37 (psJ J 37) (hs 11))))).1 (hs 3) (dayN hs wd (sbC G 1) (hs 3) false k (alR hs wd (sbC G 1) (alJ hs wd (wkJ (bsJ J 37 (hs 3) 1) 37 (psJ J 37) (hs 11))))).2 = 1) := by
            unfold erP
            rw [decide_eq_true_iff, hfe, hfa]
          refine zG_iload_n X dX4_errors_40 rfl ?_
          refine zG_iload_n X dX4_errors_41 rfl ?_
          refine zj_icmp_ge X dX4_errors_42 (tgt := 97) (by decide) (by first | decide | omega) (by first | decide | omega) (fun h_42 => ?_) (fun h_42 => ?_)
          · exact absurd h_42 (by first | decide | omega)
          · refine zG_aload_n X dX4_errors_45 rfl ?_
            refine zG_getR X dX4_errors_46 fl_X4_25 (by first | rfl | assumption) (by first | decide | omega) (by decide) rfl (by first | exact zF_at hF rfl rfl | exact zF_at hF1 rfl rfl | assumption) ?_
            refine zj_callV1 (as2 := []) X (k_live37 lo (d - 1) (by omega) (bsJ (bsJ J 37 (hs 3) 1) 39 (hs 3) 0) G F hF vb ok hd1.1 e73 e74 hd1.2.1 hd1.2.2) dX4_errors_49 mv_X2_liveDay ml_X4_166 (by first | rfl | assumption) rfl (by first | decide | omega) rfl rfl (by show d - 1 + 1 ≤ d; omega) (by show 19 + 2 + 35 * (d - 1) ≤ 35 * (d); omega) (Nat.le_of_ble_eq_true rfl) (Nat.le_of_ble_eq_true rfl) (Nat.le_of_ble_eq_true rfl) ?_
            refine zj_iconst X dX4_errors_52 ?_
            refine zj_icmp_ne X dX4_errors_53 (tgt := 60) (by decide) (by first | decide | omega) (by first | decide | omega) (fun h_53 => ?_) (fun h_53 => ?_)
            · refine zj_iconst X dX4_errors_60 ?_
              refine zG_istore X dX4_errors_61 (by decide) rfl ?_
              refine zG_aload_n X dX4_errors_63 rfl ?_
              refine zG_getR X dX4_errors_64 fl_X4_29 (by first | rfl | assumption) (by first | decide | omega) (by decide) rfl (by first | exact zF_at hF rfl rfl | exact zF_at hF1 rfl rfl | assumption) ?_
              refine zj_callV1 (as2 := []) X (k_live39 lo (d - 1) (by omega) (wkJ (bsJ (bsJ J 37 (hs 3) 1) 39 (hs 3) 0) 37 _ _) G F hF (vH_wk vb (by decide)) ok hd2.1 ((wkJ_o (by decide) (Or.inl (by decide))).trans e93) ((wkJ_o (by decide) (Or.inl (by decide))).trans e94) hd2.2.1 hd2.2.2) dX4_errors_67 mv_X2_liveDay ml_X4_166 (by first | rfl | assumption) rfl (by first | decide | omega) rfl rfl (by show d - 1 + 1 ≤ d; omega) (by show 19 + 2 + 35 * (d - 1) ≤ 35 * (d); omega) (Nat.le_of_ble_eq_true rfl) (Nat.le_of_ble_eq_true rfl) (Nat.le_of_ble_eq_true rfl) ?_
              refine zj_iconst X dX4_errors_70 ?_
              refine zj_icmp_ne X dX4_errors_71 (tgt := 78) (by decide) (by first | decide | omega) (by first | decide | omega) (fun h_71 => ?_) (fun h_71 => ?_)
              · refine zj_iconst X dX4_errors_78 ?_
                refine zG_istore X dX4_errors_79 (by decide) rfl ?_
                refine zG_iload X dX4_errors_81 rfl ?_
                refine zG_iload X dX4_errors_83 rfl ?_
                refine zj_icmp_eq X dX4_errors_85 (tgt := 91) (by decide) (by first | decide | omega) (by first | decide | omega) (fun h_85 => ?_) (fun h_85 => ?_)
                · refine zj_iinc X dX4_errors_91 rfl (by decide) rfl ?_
                  refine zG_goto X dX4_errors_94 (tgt := 40) (by decide) ?_
                  have hi := ih (k + 1) (by omega)
                  rw [hzs] at hi
                  first
                    | (rw [if_pos (hiff.mpr (fun z => by omega))] at hi; exact zG_sub (zle_some (zle_some (zle_some (zle_some (zle_none (zle_none zle_nil)))))) hi)
                    | (rw [if_neg (fun z => hiff.mp z ⟨fun _ => by omega, fun _ => by omega⟩), Int.add_zero] at hi; exact zG_sub (zle_some (zle_some (zle_some (zle_some (zle_none (zle_none zle_nil)))))) hi)
                · exact absurd h_85 (by first | decide | omega)
              · refine zj_iconst X dX4_errors_74 ?_
                refine zG_goto X dX4_errors_75 (tgt := 79) (by decide) ?_
                refine zG_istore X dX4_errors_79 (by decide) rfl ?_
                refine zG_iload X dX4_errors_81 rfl ?_
                refine zG_iload X dX4_errors_83 rfl ?_
                refine zj_icmp_eq X dX4_errors_85 (tgt := 91) (by decide) (by first | decide | omega) (by first | decide | omega) (fun h_85 => ?_) (fun h_85 => ?_)
                · exact absurd h_85 (by first | decide | omega)
                · refine zj_iinc X dX4_errors_88 rfl (by decide) rfl ?_
                  refine zj_iinc X dX4_errors_91 rfl (by decide) rfl ?_
                  refine zG_goto X dX4_errors_94 (tgt := 40) (by decide) ?_
                  have hi := ih (k + 1) (by omega)
                  rw [hzs] at hi
                  first
                    | (rw [if_pos (hiff.mpr (fun z => by omega))] at hi; exact zG_sub (zle_some (zle_some (zle_some (zle_some (zle_none (zle_none zle_nil)))))) hi)
                    | (rw [if_neg (fun z => hiff.mp z ⟨fun _ => by omega, fun _ => by omega⟩), Int.add_zero] at hi; exact zG_sub (zle_some (zle_some (zle_some (zle_some (zle_none (zle_none zle_nil)))))) hi)
            · refine zj_iconst X dX4_errors_56 ?_
              refine zG_goto X dX4_errors_57 (tgt := 61) (by decide) ?_
              refine zG_istore X dX4_errors_61 (by decide) rfl ?_
              refine zG_aload_n X dX4_errors_63 rfl ?_
              refine zG_getR X dX4_errors_64 fl_X4_29 (by first | rfl | assumption) (by first | decide | omega) (by decide) rfl (by first | exact zF_at hF rfl rfl | exact zF_at hF1 rfl rfl | assumption) ?_
              refine zj_callV1 (as2 := []) X (k_live39 lo (d - 1) (by omega) (wkJ (bsJ (bsJ J 37 (hs 3) 1) 39 (hs 3) 0) 37 _ _) G F hF (vH_wk vb (by decide)) ok hd2.1 ((wkJ_o (by decide) (Or.inl (by decide))).trans e93) ((wkJ_o (by decide) (Or.inl (by decide))).trans e94) hd2.2.1 hd2.2.2) dX4_errors_67 mv_X2_liveDay ml_X4_166 (by first | rfl | assumption) rfl (by first | decide | omega) rfl rfl (by show d - 1 + 1 ≤ d; omega) (by show 19 + 2 + 35 * (d - 1) ≤ 35 * (d); omega) (Nat.le_of_ble_eq_true rfl) (Nat.le_of_ble_eq_true rfl) (Nat.le_of_ble_eq_true rfl) ?_
              refine zj_iconst X dX4_errors_70 ?_
              refine zj_icmp_ne X dX4_errors_71 (tgt := 78) (by decide) (by first | decide | omega) (by first | decide | omega) (fun h_71 => ?_) (fun h_71 => ?_)
              · refine zj_iconst X dX4_errors_78 ?_
                refine zG_istore X dX4_errors_79 (by decide) rfl ?_
                refine zG_iload X dX4_errors_81 rfl ?_
                refine zG_iload X dX4_errors_83 rfl ?_
                refine zj_icmp_eq X dX4_errors_85 (tgt := 91) (by decide) (by first | decide | omega) (by first | decide | omega) (fun h_85 => ?_) (fun h_85 => ?_)
                · exact absurd h_85 (by first | decide | omega)
                · refine zj_iinc X dX4_errors_88 rfl (by decide) rfl ?_
                  refine zj_iinc X dX4_errors_91 rfl (by decide) rfl ?_
                  refine zG_goto X dX4_errors_94 (tgt := 40) (by decide) ?_
                  have hi := ih (k + 1) (by omega)
                  rw [hzs] at hi
                  first
                    | (rw [if_pos (hiff.mpr (fun z => by omega))] at hi; exact zG_sub (zle_some (zle_some (zle_some (zle_some (zle_none (zle_none zle_nil)))))) hi)
                    | (rw [if_neg (fun z => hiff.mp z ⟨fun _ => by omega, fun _ => by omega⟩), Int.add_zero] at hi; exact zG_sub (zle_some (zle_some (zle_some (zle_some (zle_none (zle_none zle_nil)))))) hi)
              · refine zj_iconst X dX4_errors_74 ?_
                refine zG_goto X dX4_errors_75 (tgt := 79) (by decide) ?_
                refine zG_istore X dX4_errors_79 (by decide) rfl ?_
                refine zG_iload X dX4_errors_81 rfl ?_
                refine zG_iload X dX4_errors_83 rfl ?_
                refine zj_icmp_eq X dX4_errors_85 (tgt := 91) (by decide) (by first | decide | omega) (by first | decide | omega) (fun h_85 => ?_) (fun h_85 => ?_)
                · refine zj_iinc X dX4_errors_91 rfl (by decide) rfl ?_
                  refine zG_goto X dX4_errors_94 (tgt := 40) (by decide) ?_
                  have hi := ih (k + 1) (by omega)
                  rw [hzs] at hi
                  first
                    | (rw [if_pos (hiff.mpr (fun z => by omega))] at hi; exact zG_sub (zle_some (zle_some (zle_some (zle_some (zle_none (zle_none zle_nil)))))) hi)
                    | (rw [if_neg (fun z => hiff.mp z ⟨fun _ => by omega, fun _ => by omega⟩), Int.add_zero] at hi; exact zG_sub (zle_some (zle_some (zle_some (zle_some (zle_none (zle_none zle_nil)))))) hi)
                · exact absurd h_85 (by first | decide | omega)
      exact loop u.toNat 0 (by omega)
    · exact zG_throwS X Y hx rfl xE_a (by decide) dX4_errors_12 dX4_errors_15 dX4_errors_16 dX4_errors_18 dX4_errors_21 (by show 6 ≤ d; omega) (by show 0 + 82 ≤ 35 * d; omega) (Nat.le_of_ble_eq_true rfl) (Nat.le_of_ble_eq_true rfl) (Nat.le_of_ble_eq_true rfl) (Nat.le_of_ble_eq_true rfl) (⟨Or.inl ⟨if_pos (by omega), rfl⟩, rfl, rfl, rfl⟩)
