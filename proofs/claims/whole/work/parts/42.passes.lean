/-! the Model's wheels move, its days pass -/
set_option maxHeartbeats 4000000 in
set_option maxRecDepth 100000 in
theorem k_X5_moves (lo d : Nat) (hd : 2 ≤ d) (J : Nat → Nat → Int) (G : Nat → Nat → Int64) (F : Nat → Nat → Option Nat) (hF : zFk F) {hs : Nat → Int} {wd : Nat → Nat → Int} {sb : Nat → Bool} {ps : Nat → Int} {lag wt : Int} {sk : Bool} (v : mV (J 51) hs wd sb ps lag wt sk) (ok : hwOk hs wd) (po : pOk wd ps) (l1 : 0 ≤ lag) (l2 : lag < 720) (w1 : 0 ≤ wt) (w2 : wt ≤ 1000) : zCt lo yX5_moves cX5_moves 3 none d 0 0 [.ref (lo + 50)] 57 57 (zM J) G F (zD [] (upr J 51 (mvR (J 51) (hs 0).toNat (mvp wd sk (hs 0).toNat ps))) G F) := by
  refine zCt.mk (by decide) (mv_X5_moves.2.2.2.1) (Nat.le_of_ble_eq_true rfl) ?_
  intro p l e s m args below meth c D cA X
  obtain ⟨e0, e2, e3, e4, e5, e6, e7, e11⟩ := v.1
  have hok := ok.1
  unfold hOk at hok
  have hc5 : (hs 0).toNat ≤ 5 := by omega
  have loop : ∀ (q k : Nat), k + q = (hs 0).toNat → zG p l e { frames := d, cells := 0, slots := 0, locals := 35 * d } s m args below meth c D cA lo 3 0 0 (MQ below (zQ D cA lo 57 (zD [] (upr J 51 (mvR (J 51) (hs 0).toNat (mvp wd sk (hs 0).toNat ps))) G F)) args s 0 0 (fun q => lo ≤ q)) 57 (zM (upr J 51 (stR (J 51) k (mvp wd sk k ps)))) G F [some (.ref (lo + 50)), some (.int (zI (k : Int))), none] [] 2 := by
    intro q
    induction q with
    | zero =>
      intro k  hk
      refine zG_iload_n X dX5_moves_2 rfl ?_
      refine zG_aload_n X dX5_moves_3 rfl ?_
      refine zG_getR X dX5_moves_4 fl_X5_7 (by first | rfl | assumption) (by first | decide | omega) (by decide) rfl (by first | exact zF_at hF rfl rfl | assumption) ?_
      refine zj_iconst X dX5_moves_7 ?_
      refine zj_ialoadv (v := hs 0) X dX5_moves_8 (by first | rfl | assumption) (by first | decide | omega) (0) (by decide) (by decide) (upr_eq.trans ((stR_ne (by omega)).trans e0)) ?_
      refine zj_icmp_ge X dX5_moves_9 (tgt := 95) (by decide) (by first | decide | omega) (by first | decide | omega) (fun h_9 => ?_) (fun h_9 => ?_)
      · refine zG_aload_n X dX5_moves_95 rfl ?_
        refine zG_getR X dX5_moves_96 fl_X5_7 (by first | rfl | assumption) (by first | decide | omega) (by decide) rfl (by first | exact zF_at hF rfl rfl | assumption) ?_
        refine zj_iconst X dX5_moves_99 ?_
        refine zG_dup2 X dX5_moves_100 rfl rfl ?_
        refine zj_ialoadv (v := J 51 1) X dX5_moves_101 (by first | rfl | assumption) (by first | decide | omega) (1) (by decide) (by decide) (by exact upr_eq.trans (stR_ne (by omega))) ?_
        refine zj_iconst X dX5_moves_102 ?_
        refine zj_iadd X dX5_moves_103 ?_
        refine zj_iastore X dX5_moves_104 (by first | rfl | assumption) (by first | decide | omega) (1) (by decide) (by decide) ?_
        refine zG_vret X dX5_moves_105 rfl ?_
        refine zD.of rfl ?_ rfl rfl
        obtain rfl : k = (hs 0).toNat := by omega
        rw [zup_upr]
        exact upr_congr (fun i => rfl)
      · exact absurd h_9 (by first | decide | omega)
    | succ q ih =>
      intro k  hk
      by_cases hsk0 : sk = true
      · have hv := v.2.1 k (by omega)
        obtain ⟨n0, n1, hn⟩ := hv
        have hwk := hwOk_w ok (k := k) (by omega)
        have hpk := mvp_ok (sk := sk) ok.2 po k (by omega) k (by omega)
        have hsk : sk = true := hsk0
        obtain ⟨_, n3, n4, n5⟩ | ⟨hz, _⟩ := hn
        rotate_left
        · rw [hsk] at hz; exact absurd hz (by decide)
        have hpd : 0 ≤ wd k 3 → 0 ≤ mvp wd sk k ps (wd k 3).toNat ∧ mvp wd sk k ps (wd k 3).toNat ≤ 60 := fun hz => by
          have := mvp_ok (sk := sk) ok.2 po k (by omega) (wd k 3).toNat (by omega)
          have := hwOk_w ok (k := (wd k 3).toNat) (by omega)
          omega
        refine zG_iload_n X dX5_moves_2 rfl ?_
        refine zG_aload_n X dX5_moves_3 rfl ?_
        refine zG_getR X dX5_moves_4 fl_X5_7 (by first | rfl | assumption) (by first | decide | omega) (by decide) rfl (by first | exact zF_at hF rfl rfl | assumption) ?_
        refine zj_iconst X dX5_moves_7 ?_
        refine zj_ialoadv (v := hs 0) X dX5_moves_8 (by first | rfl | assumption) (by first | decide | omega) (0) (by decide) (by decide) (upr_eq.trans ((stR_ne (by omega)).trans e0)) ?_
        refine zj_icmp_ge X dX5_moves_9 (tgt := 95) (by decide) (by first | decide | omega) (by first | decide | omega) (fun h_9 => ?_) (fun h_9 => ?_)
        · exact absurd h_9 (by first | decide | omega)
        · refine zG_aload_n X dX5_moves_12 rfl ?_
          refine zG_iload_n X dX5_moves_13 rfl ?_
          refine zj_iconst X dX5_moves_14 ?_
          refine zj_callV1 (as2 := [_, _]) X (k_X5_ofv lo (d - 1) (by omega) (upr J 51 (stR (J 51) k (mvp wd sk k ps))) G F hF (u := k) (v := 3) (x := wd k 3) (k) 3 (by omega) (by omega) (by omega) rfl (upr_eq.trans ((stR_ne (by omega)).trans n3))) dX5_moves_15 mv_X5_of ml_X5_45 (by first | rfl | assumption) rfl (by first | decide | omega) rfl rfl (by show d - 1 + 1 ≤ d; omega) (by show 19 + 3 + 35 * (d - 1) ≤ 35 * (d); omega) (Nat.le_of_ble_eq_true rfl) (Nat.le_of_ble_eq_true rfl) (Nat.le_of_ble_eq_true rfl) ?_
          refine zj_iconst X dX5_moves_18 ?_
          refine zj_icmp_eq X dX5_moves_19 (tgt := 46) (by decide) (by first | decide | omega) (by first | decide | omega) (fun h_19 => ?_) (fun h_19 => ?_)
          · refine zj_iconst X dX5_moves_46 ?_
            refine zG_istore_n X dX5_moves_47 (by decide) rfl ?_
            refine zG_aload_n X dX5_moves_48 rfl ?_
            refine zG_getR X dX5_moves_49 fl_X5_7 (by first | rfl | assumption) (by first | decide | omega) (by decide) rfl (by first | exact zF_at hF rfl rfl | assumption) ?_
            refine zG_iload_n X dX5_moves_52 rfl ?_
            refine zj_callS1 (as2 := [_]) X (k_X5_at lo (d - 1) (upr J 51 (stR (J 51) k (mvp wd sk k ps))) G F (k := (k : Int))) dX5_moves_53 ms_X5_at ml_X5_37 rfl rfl (by show d - 1 + 1 ≤ d; omega) (by show 19 + 1 + 35 * (d - 1) ≤ 35 * (d); omega) (Nat.le_of_ble_eq_true rfl) (Nat.le_of_ble_eq_true rfl) (Nat.le_of_ble_eq_true rfl) ?_
            refine zj_iconst X dX5_moves_56 ?_
            refine zj_iadd X dX5_moves_57 ?_
            refine zG_aload_n X dX5_moves_58 rfl ?_
            refine zG_iload_n X dX5_moves_59 rfl ?_
            refine zj_iconst X dX5_moves_60 ?_
            refine zj_callV1 (as2 := [_, _]) X (k_X5_ofv lo (d - 1) (by omega) (upr J 51 (stR (J 51) k (mvp wd sk k ps))) G F hF (u := k) (v := 1) (x := mvp wd sk k ps k) (k) 1 (by omega) (by omega) (by omega) rfl (upr_eq.trans ((stR_ne (by omega)).trans (n1.trans (mvp_ge (Nat.le_refl k)).symm)))) dX5_moves_61 mv_X5_of ml_X5_45 (by first | rfl | assumption) rfl (by first | decide | omega) rfl rfl (by show d - 1 + 1 ≤ d; omega) (by show 19 + 3 + 35 * (d - 1) ≤ 35 * (d); omega) (Nat.le_of_ble_eq_true rfl) (Nat.le_of_ble_eq_true rfl) (Nat.le_of_ble_eq_true rfl) ?_
            refine zj_iconst X dX5_moves_64 ?_
            refine zj_iadd X dX5_moves_65 ?_
            refine zG_iload_n X dX5_moves_66 rfl ?_
            refine zj_if_eq X dX5_moves_67 (tgt := 79) (by decide) (by first | decide | omega) (fun h_67 => ?_) (fun h_67 => ?_)
            · refine zj_iconst X dX5_moves_79 ?_
              refine zj_iadd X dX5_moves_80 ?_
              refine zG_aload_n X dX5_moves_81 rfl ?_
              refine zG_iload_n X dX5_moves_82 rfl ?_
              refine zj_iconst X dX5_moves_83 ?_
              refine zj_callV1 (as2 := [_, _]) X (k_X5_ofv lo (d - 1) (by omega) (upr J 51 (stR (J 51) k (mvp wd sk k ps))) G F hF (u := k) (v := 0) (x := wd k 0) (k) 0 (by omega) (by omega) (by omega) rfl (upr_eq.trans ((stR_ne (by omega)).trans n0))) dX5_moves_84 mv_X5_of ml_X5_45 (by first | rfl | assumption) rfl (by first | decide | omega) rfl rfl (by show d - 1 + 1 ≤ d; omega) (by show 19 + 3 + 35 * (d - 1) ≤ 35 * (d); omega) (Nat.le_of_ble_eq_true rfl) (Nat.le_of_ble_eq_true rfl) (Nat.le_of_ble_eq_true rfl) ?_
              refine zj_iremN X dX5_moves_87 (by omega) (by omega) (by omega) (by omega) ?_
              refine zj_iastore X dX5_moves_88 (by first | rfl | assumption) (by first | decide | omega) (13 + 7 * k + 1) (by omega) (by omega) ?_
              refine zj_iinc X dX5_moves_89 rfl (by decide) rfl ?_
              refine zG_goto X dX5_moves_92 (tgt := 2) (by decide) ?_
              have hi := ih (k + 1) (by omega)
              first
                | (rw [st_y ⟨hsk, by omega, by omega⟩]; exact zG_sub (zle_some (zle_some (zle_none zle_nil))) hi)
                | (rw [st_n (by rintro ⟨z1, z2, z3⟩; first | omega | (rw [hsk] at z1; exact absurd z1 (by decide)))]; exact zG_sub (zle_some (zle_some (zle_none zle_nil))) hi)
            · exact absurd h_67 (by first | decide | omega)
          · refine zG_aload_n X dX5_moves_22 rfl ?_
            refine zG_aload_n X dX5_moves_23 rfl ?_
            refine zG_iload_n X dX5_moves_24 rfl ?_
            refine zj_iconst X dX5_moves_25 ?_
            refine zj_callV1 (as2 := [_, _]) X (k_X5_ofv lo (d - 1) (by omega) (upr J 51 (stR (J 51) k (mvp wd sk k ps))) G F hF (u := k) (v := 3) (x := wd k 3) (k) 3 (by omega) (by omega) (by omega) rfl (upr_eq.trans ((stR_ne (by omega)).trans n3))) dX5_moves_26 mv_X5_of ml_X5_45 (by first | rfl | assumption) rfl (by first | decide | omega) rfl rfl (by show d - 1 + 1 ≤ d; omega) (by show 19 + 3 + 35 * (d - 1) ≤ 35 * (d); omega) (Nat.le_of_ble_eq_true rfl) (Nat.le_of_ble_eq_true rfl) (Nat.le_of_ble_eq_true rfl) ?_
            refine zj_iconst X dX5_moves_29 ?_
            refine zj_callV1 (as2 := [_, _]) X (k_X5_ofv lo (d - 1) (by omega) (upr J 51 (stR (J 51) k (mvp wd sk k ps))) G F hF (u := wd k 3) (v := 1) (x := mvp wd sk k ps (wd k 3).toNat) ((wd k 3).toNat) 1 (by omega) (by omega) (by omega) rfl (upr_eq.trans (stR_at (by omega)))) dX5_moves_30 mv_X5_of ml_X5_45 (by first | rfl | assumption) rfl (by first | decide | omega) rfl rfl (by show d - 1 + 1 ≤ d; omega) (by show 19 + 3 + 35 * (d - 1) ≤ 35 * (d); omega) (Nat.le_of_ble_eq_true rfl) (Nat.le_of_ble_eq_true rfl) (Nat.le_of_ble_eq_true rfl) ?_
            refine zG_aload_n X dX5_moves_33 rfl ?_
            refine zG_iload_n X dX5_moves_34 rfl ?_
            refine zj_iconst X dX5_moves_35 ?_
            refine zj_callV1 (as2 := [_, _]) X (k_X5_ofv lo (d - 1) (by omega) (upr J 51 (stR (J 51) k (mvp wd sk k ps))) G F hF (u := k) (v := 4) (x := wd k 4) (k) 4 (by omega) (by omega) (by omega) rfl (upr_eq.trans ((stR_ne (by omega)).trans n4))) dX5_moves_36 mv_X5_of ml_X5_45 (by first | rfl | assumption) rfl (by first | decide | omega) rfl rfl (by show d - 1 + 1 ≤ d; omega) (by show 19 + 3 + 35 * (d - 1) ≤ 35 * (d); omega) (Nat.le_of_ble_eq_true rfl) (Nat.le_of_ble_eq_true rfl) (Nat.le_of_ble_eq_true rfl) ?_
            refine zj_icmp_ne X dX5_moves_39 (tgt := 46) (by decide) (by first | decide | omega) (by first | decide | omega) (fun h_39 => ?_) (fun h_39 => ?_)
            · refine zj_iconst X dX5_moves_46 ?_
              refine zG_istore_n X dX5_moves_47 (by decide) rfl ?_
              refine zG_aload_n X dX5_moves_48 rfl ?_
              refine zG_getR X dX5_moves_49 fl_X5_7 (by first | rfl | assumption) (by first | decide | omega) (by decide) rfl (by first | exact zF_at hF rfl rfl | assumption) ?_
              refine zG_iload_n X dX5_moves_52 rfl ?_
              refine zj_callS1 (as2 := [_]) X (k_X5_at lo (d - 1) (upr J 51 (stR (J 51) k (mvp wd sk k ps))) G F (k := (k : Int))) dX5_moves_53 ms_X5_at ml_X5_37 rfl rfl (by show d - 1 + 1 ≤ d; omega) (by show 19 + 1 + 35 * (d - 1) ≤ 35 * (d); omega) (Nat.le_of_ble_eq_true rfl) (Nat.le_of_ble_eq_true rfl) (Nat.le_of_ble_eq_true rfl) ?_
              refine zj_iconst X dX5_moves_56 ?_
              refine zj_iadd X dX5_moves_57 ?_
              refine zG_aload_n X dX5_moves_58 rfl ?_
              refine zG_iload_n X dX5_moves_59 rfl ?_
              refine zj_iconst X dX5_moves_60 ?_
              refine zj_callV1 (as2 := [_, _]) X (k_X5_ofv lo (d - 1) (by omega) (upr J 51 (stR (J 51) k (mvp wd sk k ps))) G F hF (u := k) (v := 1) (x := mvp wd sk k ps k) (k) 1 (by omega) (by omega) (by omega) rfl (upr_eq.trans ((stR_ne (by omega)).trans (n1.trans (mvp_ge (Nat.le_refl k)).symm)))) dX5_moves_61 mv_X5_of ml_X5_45 (by first | rfl | assumption) rfl (by first | decide | omega) rfl rfl (by show d - 1 + 1 ≤ d; omega) (by show 19 + 3 + 35 * (d - 1) ≤ 35 * (d); omega) (Nat.le_of_ble_eq_true rfl) (Nat.le_of_ble_eq_true rfl) (Nat.le_of_ble_eq_true rfl) ?_
              refine zj_iconst X dX5_moves_64 ?_
              refine zj_iadd X dX5_moves_65 ?_
              refine zG_iload_n X dX5_moves_66 rfl ?_
              refine zj_if_eq X dX5_moves_67 (tgt := 79) (by decide) (by first | decide | omega) (fun h_67 => ?_) (fun h_67 => ?_)
              · refine zj_iconst X dX5_moves_79 ?_
                refine zj_iadd X dX5_moves_80 ?_
                refine zG_aload_n X dX5_moves_81 rfl ?_
                refine zG_iload_n X dX5_moves_82 rfl ?_
                refine zj_iconst X dX5_moves_83 ?_
                refine zj_callV1 (as2 := [_, _]) X (k_X5_ofv lo (d - 1) (by omega) (upr J 51 (stR (J 51) k (mvp wd sk k ps))) G F hF (u := k) (v := 0) (x := wd k 0) (k) 0 (by omega) (by omega) (by omega) rfl (upr_eq.trans ((stR_ne (by omega)).trans n0))) dX5_moves_84 mv_X5_of ml_X5_45 (by first | rfl | assumption) rfl (by first | decide | omega) rfl rfl (by show d - 1 + 1 ≤ d; omega) (by show 19 + 3 + 35 * (d - 1) ≤ 35 * (d); omega) (Nat.le_of_ble_eq_true rfl) (Nat.le_of_ble_eq_true rfl) (Nat.le_of_ble_eq_true rfl) ?_
                refine zj_iremN X dX5_moves_87 (by omega) (by omega) (by omega) (by omega) ?_
                refine zj_iastore X dX5_moves_88 (by first | rfl | assumption) (by first | decide | omega) (13 + 7 * k + 1) (by omega) (by omega) ?_
                refine zj_iinc X dX5_moves_89 rfl (by decide) rfl ?_
                refine zG_goto X dX5_moves_92 (tgt := 2) (by decide) ?_
                have hi := ih (k + 1) (by omega)
                first
                  | (rw [st_y ⟨hsk, by omega, by omega⟩]; exact zG_sub (zle_some (zle_some (zle_none zle_nil))) hi)
                  | (rw [st_n (by rintro ⟨z1, z2, z3⟩; first | omega | (rw [hsk] at z1; exact absurd z1 (by decide)))]; exact zG_sub (zle_some (zle_some (zle_none zle_nil))) hi)
              · exact absurd h_67 (by first | decide | omega)
            · refine zj_iconst X dX5_moves_42 ?_
              refine zG_goto X dX5_moves_43 (tgt := 47) (by decide) ?_
              refine zG_istore_n X dX5_moves_47 (by decide) rfl ?_
              refine zG_aload_n X dX5_moves_48 rfl ?_
              refine zG_getR X dX5_moves_49 fl_X5_7 (by first | rfl | assumption) (by first | decide | omega) (by decide) rfl (by first | exact zF_at hF rfl rfl | assumption) ?_
              refine zG_iload_n X dX5_moves_52 rfl ?_
              refine zj_callS1 (as2 := [_]) X (k_X5_at lo (d - 1) (upr J 51 (stR (J 51) k (mvp wd sk k ps))) G F (k := (k : Int))) dX5_moves_53 ms_X5_at ml_X5_37 rfl rfl (by show d - 1 + 1 ≤ d; omega) (by show 19 + 1 + 35 * (d - 1) ≤ 35 * (d); omega) (Nat.le_of_ble_eq_true rfl) (Nat.le_of_ble_eq_true rfl) (Nat.le_of_ble_eq_true rfl) ?_
              refine zj_iconst X dX5_moves_56 ?_
              refine zj_iadd X dX5_moves_57 ?_
              refine zG_aload_n X dX5_moves_58 rfl ?_
              refine zG_iload_n X dX5_moves_59 rfl ?_
              refine zj_iconst X dX5_moves_60 ?_
              refine zj_callV1 (as2 := [_, _]) X (k_X5_ofv lo (d - 1) (by omega) (upr J 51 (stR (J 51) k (mvp wd sk k ps))) G F hF (u := k) (v := 1) (x := mvp wd sk k ps k) (k) 1 (by omega) (by omega) (by omega) rfl (upr_eq.trans ((stR_ne (by omega)).trans (n1.trans (mvp_ge (Nat.le_refl k)).symm)))) dX5_moves_61 mv_X5_of ml_X5_45 (by first | rfl | assumption) rfl (by first | decide | omega) rfl rfl (by show d - 1 + 1 ≤ d; omega) (by show 19 + 3 + 35 * (d - 1) ≤ 35 * (d); omega) (Nat.le_of_ble_eq_true rfl) (Nat.le_of_ble_eq_true rfl) (Nat.le_of_ble_eq_true rfl) ?_
              refine zj_iconst X dX5_moves_64 ?_
              refine zj_iadd X dX5_moves_65 ?_
              refine zG_iload_n X dX5_moves_66 rfl ?_
              refine zj_if_eq X dX5_moves_67 (tgt := 79) (by decide) (by first | decide | omega) (fun h_67 => ?_) (fun h_67 => ?_)
              · exact absurd h_67 (by first | decide | omega)
              · refine zG_aload_n X dX5_moves_70 rfl ?_
                refine zG_iload_n X dX5_moves_71 rfl ?_
                refine zj_iconst X dX5_moves_72 ?_
                refine zj_callV1 (as2 := [_, _]) X (k_X5_ofv lo (d - 1) (by omega) (upr J 51 (stR (J 51) k (mvp wd sk k ps))) G F hF (u := k) (v := 5) (x := wd k 5) (k) 5 (by omega) (by omega) (by omega) rfl (upr_eq.trans ((stR_ne (by omega)).trans n5))) dX5_moves_73 mv_X5_of ml_X5_45 (by first | rfl | assumption) rfl (by first | decide | omega) rfl rfl (by show d - 1 + 1 ≤ d; omega) (by show 19 + 3 + 35 * (d - 1) ≤ 35 * (d); omega) (Nat.le_of_ble_eq_true rfl) (Nat.le_of_ble_eq_true rfl) (Nat.le_of_ble_eq_true rfl) ?_
                refine zG_goto X dX5_moves_76 (tgt := 80) (by decide) ?_
                refine zj_iadd X dX5_moves_80 ?_
                refine zG_aload_n X dX5_moves_81 rfl ?_
                refine zG_iload_n X dX5_moves_82 rfl ?_
                refine zj_iconst X dX5_moves_83 ?_
                refine zj_callV1 (as2 := [_, _]) X (k_X5_ofv lo (d - 1) (by omega) (upr J 51 (stR (J 51) k (mvp wd sk k ps))) G F hF (u := k) (v := 0) (x := wd k 0) (k) 0 (by omega) (by omega) (by omega) rfl (upr_eq.trans ((stR_ne (by omega)).trans n0))) dX5_moves_84 mv_X5_of ml_X5_45 (by first | rfl | assumption) rfl (by first | decide | omega) rfl rfl (by show d - 1 + 1 ≤ d; omega) (by show 19 + 3 + 35 * (d - 1) ≤ 35 * (d); omega) (Nat.le_of_ble_eq_true rfl) (Nat.le_of_ble_eq_true rfl) (Nat.le_of_ble_eq_true rfl) ?_
                refine zj_iremN X dX5_moves_87 (by omega) (by omega) (by omega) (by omega) ?_
                refine zj_iastore X dX5_moves_88 (by first | rfl | assumption) (by first | decide | omega) (13 + 7 * k + 1) (by omega) (by omega) ?_
                refine zj_iinc X dX5_moves_89 rfl (by decide) rfl ?_
                refine zG_goto X dX5_moves_92 (tgt := 2) (by decide) ?_
                have hi := ih (k + 1) (by omega)
                first
                  | (rw [st_y ⟨hsk, by omega, by omega⟩]; exact zG_sub (zle_some (zle_some (zle_none zle_nil))) hi)
                  | (rw [st_n (by rintro ⟨z1, z2, z3⟩; first | omega | (rw [hsk] at z1; exact absurd z1 (by decide)))]; exact zG_sub (zle_some (zle_some (zle_none zle_nil))) hi)
      · have hsk0 := Bool.eq_false_iff.mpr hsk0
        have hv := v.2.1 k (by omega)
        obtain ⟨n0, n1, hn⟩ := hv
        have hwk := hwOk_w ok (k := k) (by omega)
        have hpk := mvp_ok (sk := sk) ok.2 po k (by omega) k (by omega)
        have hsk : sk = false := hsk0
        obtain ⟨hz, _⟩ | ⟨_, n3⟩ := hn
        · rw [hsk] at hz; exact absurd hz (by decide)
        refine zG_iload_n X dX5_moves_2 rfl ?_
        refine zG_aload_n X dX5_moves_3 rfl ?_
        refine zG_getR X dX5_moves_4 fl_X5_7 (by first | rfl | assumption) (by first | decide | omega) (by decide) rfl (by first | exact zF_at hF rfl rfl | assumption) ?_
        refine zj_iconst X dX5_moves_7 ?_
        refine zj_ialoadv (v := hs 0) X dX5_moves_8 (by first | rfl | assumption) (by first | decide | omega) (0) (by decide) (by decide) (upr_eq.trans ((stR_ne (by omega)).trans e0)) ?_
        refine zj_icmp_ge X dX5_moves_9 (tgt := 95) (by decide) (by first | decide | omega) (by first | decide | omega) (fun h_9 => ?_) (fun h_9 => ?_)
        · exact absurd h_9 (by first | decide | omega)
        · refine zG_aload_n X dX5_moves_12 rfl ?_
          refine zG_iload_n X dX5_moves_13 rfl ?_
          refine zj_iconst X dX5_moves_14 ?_
          refine zj_callV1 (as2 := [_, _]) X (k_X5_ofv lo (d - 1) (by omega) (upr J 51 (stR (J 51) k (mvp wd sk k ps))) G F hF (u := k) (v := 3) (x := (-1)) (k) 3 (by omega) (by omega) (by omega) rfl (upr_eq.trans ((stR_ne (by omega)).trans n3))) dX5_moves_15 mv_X5_of ml_X5_45 (by first | rfl | assumption) rfl (by first | decide | omega) rfl rfl (by show d - 1 + 1 ≤ d; omega) (by show 19 + 3 + 35 * (d - 1) ≤ 35 * (d); omega) (Nat.le_of_ble_eq_true rfl) (Nat.le_of_ble_eq_true rfl) (Nat.le_of_ble_eq_true rfl) ?_
          refine zj_iconst X dX5_moves_18 ?_
          refine zj_icmp_eq X dX5_moves_19 (tgt := 46) (by decide) (by first | decide | omega) (by first | decide | omega) (fun h_19 => ?_) (fun h_19 => ?_)
          · refine zj_iconst X dX5_moves_46 ?_
            refine zG_istore_n X dX5_moves_47 (by decide) rfl ?_
            refine zG_aload_n X dX5_moves_48 rfl ?_
            refine zG_getR X dX5_moves_49 fl_X5_7 (by first | rfl | assumption) (by first | decide | omega) (by decide) rfl (by first | exact zF_at hF rfl rfl | assumption) ?_
            refine zG_iload_n X dX5_moves_52 rfl ?_
            refine zj_callS1 (as2 := [_]) X (k_X5_at lo (d - 1) (upr J 51 (stR (J 51) k (mvp wd sk k ps))) G F (k := (k : Int))) dX5_moves_53 ms_X5_at ml_X5_37 rfl rfl (by show d - 1 + 1 ≤ d; omega) (by show 19 + 1 + 35 * (d - 1) ≤ 35 * (d); omega) (Nat.le_of_ble_eq_true rfl) (Nat.le_of_ble_eq_true rfl) (Nat.le_of_ble_eq_true rfl) ?_
            refine zj_iconst X dX5_moves_56 ?_
            refine zj_iadd X dX5_moves_57 ?_
            refine zG_aload_n X dX5_moves_58 rfl ?_
            refine zG_iload_n X dX5_moves_59 rfl ?_
            refine zj_iconst X dX5_moves_60 ?_
            refine zj_callV1 (as2 := [_, _]) X (k_X5_ofv lo (d - 1) (by omega) (upr J 51 (stR (J 51) k (mvp wd sk k ps))) G F hF (u := k) (v := 1) (x := mvp wd sk k ps k) (k) 1 (by omega) (by omega) (by omega) rfl (upr_eq.trans ((stR_ne (by omega)).trans (n1.trans (mvp_ge (Nat.le_refl k)).symm)))) dX5_moves_61 mv_X5_of ml_X5_45 (by first | rfl | assumption) rfl (by first | decide | omega) rfl rfl (by show d - 1 + 1 ≤ d; omega) (by show 19 + 3 + 35 * (d - 1) ≤ 35 * (d); omega) (Nat.le_of_ble_eq_true rfl) (Nat.le_of_ble_eq_true rfl) (Nat.le_of_ble_eq_true rfl) ?_
            refine zj_iconst X dX5_moves_64 ?_
            refine zj_iadd X dX5_moves_65 ?_
            refine zG_iload_n X dX5_moves_66 rfl ?_
            refine zj_if_eq X dX5_moves_67 (tgt := 79) (by decide) (by first | decide | omega) (fun h_67 => ?_) (fun h_67 => ?_)
            · refine zj_iconst X dX5_moves_79 ?_
              refine zj_iadd X dX5_moves_80 ?_
              refine zG_aload_n X dX5_moves_81 rfl ?_
              refine zG_iload_n X dX5_moves_82 rfl ?_
              refine zj_iconst X dX5_moves_83 ?_
              refine zj_callV1 (as2 := [_, _]) X (k_X5_ofv lo (d - 1) (by omega) (upr J 51 (stR (J 51) k (mvp wd sk k ps))) G F hF (u := k) (v := 0) (x := wd k 0) (k) 0 (by omega) (by omega) (by omega) rfl (upr_eq.trans ((stR_ne (by omega)).trans n0))) dX5_moves_84 mv_X5_of ml_X5_45 (by first | rfl | assumption) rfl (by first | decide | omega) rfl rfl (by show d - 1 + 1 ≤ d; omega) (by show 19 + 3 + 35 * (d - 1) ≤ 35 * (d); omega) (Nat.le_of_ble_eq_true rfl) (Nat.le_of_ble_eq_true rfl) (Nat.le_of_ble_eq_true rfl) ?_
              refine zj_iremN X dX5_moves_87 (by omega) (by omega) (by omega) (by omega) ?_
              refine zj_iastore X dX5_moves_88 (by first | rfl | assumption) (by first | decide | omega) (13 + 7 * k + 1) (by omega) (by omega) ?_
              refine zj_iinc X dX5_moves_89 rfl (by decide) rfl ?_
              refine zG_goto X dX5_moves_92 (tgt := 2) (by decide) ?_
              have hi := ih (k + 1) (by omega)
              first
                | (rw [st_y ⟨hsk, by omega, by omega⟩]; exact zG_sub (zle_some (zle_some (zle_none zle_nil))) hi)
                | (rw [st_n (by rintro ⟨z1, z2, z3⟩; first | omega | (rw [hsk] at z1; exact absurd z1 (by decide)))]; exact zG_sub (zle_some (zle_some (zle_none zle_nil))) hi)
            · exact absurd h_67 (by first | decide | omega)
          · exact absurd h_19 (by first | decide | omega)
  refine zj_iconst X dX5_moves_0 ?_
  refine zG_istore_n X dX5_moves_1 (by decide) rfl ?_
  have h0 := loop (hs 0).toNat 0 (by omega)
  rw [show stR (J 51) 0 (mvp wd sk 0 ps) = J 51 from stR_0, upr_self] at h0
  exact zG_sub (zle_some (zle_some (zle_none zle_nil))) h0
set_option maxHeartbeats 4000000 in
set_option maxRecDepth 100000 in
theorem k_X5_passes (lo d : Nat) (hd : 5 ≤ d) (J : Nat → Nat → Int) (G : Nat → Nat → Int64) (F : Nat → Nat → Option Nat) (hF : zFk F) {hs : Nat → Int} {wd : Nat → Nat → Int} {sb : Nat → Bool} {ps : Nat → Int} {lag wt : Int} {sk : Bool} (v : mV (J 51) hs wd sb ps lag wt sk) (ok : hwOk hs wd) (po : pOk wd ps) (l1 : 0 ≤ lag) (l2 : lag < 720) (w1 : 0 ≤ wt) (w2 : wt ≤ 1000) : zCt lo yX5_passes cX5_passes 2 (some .int) d 0 0 [.ref (lo + 50)] 57 57 (zM J) G F (zD [.int (zI (mfate hs wd sb ps lag wt))] (upr J 51 (mvR (cnR (J 51) (mfate hs wd sb ps lag wt)) (hs 0).toNat (mvp wd sk (hs 0).toNat ps))) G F) := by
  refine zCt.mk (by decide) (mv_X5_passes.2.2.2.1) (Nat.le_of_ble_eq_true rfl) ?_
  intro p l e s m args below meth c D cA X
  obtain ⟨e0, e2, e3, e4, e5, e6, e7, e11⟩ := v.1
  have hok := ok.1
  unfold hOk at hok
  refine zG_aload_n X dX5_passes_0 rfl ?_
  refine zj_callV1 (as2 := []) X (k_X5_today lo (d - 1) (by omega) J G F hF v ok po l1 l2 w1 w2) dX5_passes_1 mv_X5_today ml_X5_86 (by first | rfl | assumption) rfl (by first | decide | omega) rfl rfl (by show d - 1 + 1 ≤ d; omega) (by show 19 + 1 + 35 * (d - 1) ≤ 35 * (d); omega) (Nat.le_of_ble_eq_true rfl) (Nat.le_of_ble_eq_true rfl) (Nat.le_of_ble_eq_true rfl) ?_
  have hf4 : mfate hs wd sb ps lag wt = 0 ∨ mfate hs wd sb ps lag wt = 1 ∨ mfate hs wd sb ps lag wt = 2 ∨ mfate hs wd sb ps lag wt = 3 := by have := mfate_in (hs := hs) (wd := wd) (sb := sb) (ps := ps) (lag := lag) (wt := wt); omega
  have hf2 : mfate hs wd sb ps lag wt = 2 → wt < hs 7 := mfate_2
  rcases hf4 with e | e | e | e
  · rw [e]
    refine zG_istore_n X dX5_passes_4 (by decide) rfl ?_
    refine zG_aload_n X dX5_passes_5 rfl ?_
    refine zG_getR X dX5_passes_6 fl_X5_7 (by first | rfl | assumption) (by first | decide | omega) (by decide) rfl (by first | exact zF_at hF rfl rfl | assumption) ?_
    refine zj_bipush X dX5_passes_9 (by decide) ?_
    refine zG_dup2 X dX5_passes_11 rfl rfl ?_
    refine zj_iaload X dX5_passes_12 (by first | rfl | assumption) (by first | decide | omega) (8) (by decide) (by decide) ?_
    refine zG_iload_n X dX5_passes_13 rfl ?_
    refine zj_iconst X dX5_passes_14 ?_
    refine zj_icmp_ne X dX5_passes_15 (tgt := 22) (by decide) (by first | decide | omega) (by first | decide | omega) (fun h_15 => ?_) (fun h_15 => ?_)
    · refine zj_iconst X dX5_passes_22 ?_
      refine zj_iadd X dX5_passes_23 ?_
      refine zj_iastore X dX5_passes_24 (by first | rfl | assumption) (by first | decide | omega) (8) (by decide) (by decide) ?_
      refine zG_aload_n X dX5_passes_25 rfl ?_
      refine zG_getR X dX5_passes_26 fl_X5_7 (by first | rfl | assumption) (by first | decide | omega) (by decide) rfl (by first | exact zF_at hF rfl rfl | assumption) ?_
      refine zj_bipush X dX5_passes_29 (by decide) ?_
      refine zG_dup2 X dX5_passes_31 rfl rfl ?_
      refine zj_ialoadv (v := J 51 9) X dX5_passes_32 (by first | rfl | assumption) (by first | decide | omega) (9) (by decide) (by decide) (by simp [zup]) ?_
      refine zG_iload_n X dX5_passes_33 rfl ?_
      refine zj_iconst X dX5_passes_34 ?_
      refine zj_icmp_ne X dX5_passes_35 (tgt := 42) (by decide) (by first | decide | omega) (by first | decide | omega) (fun h_35 => ?_) (fun h_35 => ?_)
      · refine zj_iconst X dX5_passes_42 ?_
        refine zj_iadd X dX5_passes_43 ?_
        refine zj_iastore X dX5_passes_44 (by first | rfl | assumption) (by first | decide | omega) (9) (by decide) (by decide) ?_
        refine zG_aload_n X dX5_passes_45 rfl ?_
        refine zG_getR X dX5_passes_46 fl_X5_7 (by first | rfl | assumption) (by first | decide | omega) (by decide) rfl (by first | exact zF_at hF rfl rfl | assumption) ?_
        refine zj_bipush X dX5_passes_49 (by decide) ?_
        refine zG_dup2 X dX5_passes_51 rfl rfl ?_
        refine zj_ialoadv (v := J 51 10) X dX5_passes_52 (by first | rfl | assumption) (by first | decide | omega) (10) (by decide) (by decide) (by simp [zup]) ?_
        refine zG_iload_n X dX5_passes_53 rfl ?_
        refine zj_iconst X dX5_passes_54 ?_
        refine zj_icmp_ne X dX5_passes_55 (tgt := 62) (by decide) (by first | decide | omega) (by first | decide | omega) (fun h_55 => ?_) (fun h_55 => ?_)
        · refine zj_iconst X dX5_passes_62 ?_
          refine zj_iadd X dX5_passes_63 ?_
          refine zj_iastore X dX5_passes_64 (by first | rfl | assumption) (by first | decide | omega) (10) (by decide) (by decide) ?_
          refine zG_aload_n X dX5_passes_65 rfl ?_
          refine zG_getR X dX5_passes_66 fl_X5_7 (by first | rfl | assumption) (by first | decide | omega) (by decide) rfl (by first | exact zF_at hF rfl rfl | assumption) ?_
          refine zj_bipush X dX5_passes_69 (by decide) ?_
          refine zG_iload_n X dX5_passes_71 rfl ?_
          refine zj_iconst X dX5_passes_72 ?_
          refine zj_icmp_ne X dX5_passes_73 (tgt := 88) (by decide) (by first | decide | omega) (by first | decide | omega) (fun h_73 => ?_) (fun h_73 => ?_)
          · refine zj_iconst X dX5_passes_88 ?_
            refine zj_iastore X dX5_passes_89 (by first | rfl | assumption) (by first | decide | omega) (11) (by decide) (by decide) ?_
            rw [cn_0]
            refine zG_aload_n X dX5_passes_90 rfl ?_
            refine zj_callV0 (as2 := []) X (k_X5_moves lo (d - 1) (by omega) (upr J 51 (cnR (J 51) 0)) G F hF (wt := if (0 : Int) = 2 then wt + 1 else 0) (mV_cn (f := 0) v) ok po l1 l2 (by split <;> omega) (by split <;> omega)) dX5_passes_91 mv_X5_moves ml_X5_89 (by first | rfl | assumption) rfl (by first | decide | omega) rfl rfl (by show d - 1 + 1 ≤ d; omega) (by show 19 + 3 + 35 * (d - 1) ≤ 35 * (d); omega) (Nat.le_of_ble_eq_true rfl) (Nat.le_of_ble_eq_true rfl) (Nat.le_of_ble_eq_true rfl) ?_
            refine zG_iload_n X dX5_passes_94 rfl ?_
            refine zG_iret X dX5_passes_95 rfl ?_
            exact zD.of rfl (by rw [show upr J 51 (cnR (J 51) 0) 51 = cnR (J 51) 0 from funext (fun i => upr_eq), upr_upr]) rfl rfl
          · exact absurd h_73 (by first | decide | omega)
        · exact absurd h_55 (by first | decide | omega)
      · exact absurd h_35 (by first | decide | omega)
    · exact absurd h_15 (by first | decide | omega)
  · rw [e]
    refine zG_istore_n X dX5_passes_4 (by decide) rfl ?_
    refine zG_aload_n X dX5_passes_5 rfl ?_
    refine zG_getR X dX5_passes_6 fl_X5_7 (by first | rfl | assumption) (by first | decide | omega) (by decide) rfl (by first | exact zF_at hF rfl rfl | assumption) ?_
    refine zj_bipush X dX5_passes_9 (by decide) ?_
    refine zG_dup2 X dX5_passes_11 rfl rfl ?_
    refine zj_iaload X dX5_passes_12 (by first | rfl | assumption) (by first | decide | omega) (8) (by decide) (by decide) ?_
    refine zG_iload_n X dX5_passes_13 rfl ?_
    refine zj_iconst X dX5_passes_14 ?_
    refine zj_icmp_ne X dX5_passes_15 (tgt := 22) (by decide) (by first | decide | omega) (by first | decide | omega) (fun h_15 => ?_) (fun h_15 => ?_)
    · exact absurd h_15 (by first | decide | omega)
    · refine zj_iconst X dX5_passes_18 ?_
      refine zG_goto X dX5_passes_19 (tgt := 23) (by decide) ?_
      refine zj_iadd X dX5_passes_23 ?_
      refine zj_iastore X dX5_passes_24 (by first | rfl | assumption) (by first | decide | omega) (8) (by decide) (by decide) ?_
      refine zG_aload_n X dX5_passes_25 rfl ?_
      refine zG_getR X dX5_passes_26 fl_X5_7 (by first | rfl | assumption) (by first | decide | omega) (by decide) rfl (by first | exact zF_at hF rfl rfl | assumption) ?_
      refine zj_bipush X dX5_passes_29 (by decide) ?_
      refine zG_dup2 X dX5_passes_31 rfl rfl ?_
      refine zj_ialoadv (v := J 51 9) X dX5_passes_32 (by first | rfl | assumption) (by first | decide | omega) (9) (by decide) (by decide) (by simp [zup]) ?_
      refine zG_iload_n X dX5_passes_33 rfl ?_
      refine zj_iconst X dX5_passes_34 ?_
      refine zj_icmp_ne X dX5_passes_35 (tgt := 42) (by decide) (by first | decide | omega) (by first | decide | omega) (fun h_35 => ?_) (fun h_35 => ?_)
      · refine zj_iconst X dX5_passes_42 ?_
        refine zj_iadd X dX5_passes_43 ?_
        refine zj_iastore X dX5_passes_44 (by first | rfl | assumption) (by first | decide | omega) (9) (by decide) (by decide) ?_
        refine zG_aload_n X dX5_passes_45 rfl ?_
        refine zG_getR X dX5_passes_46 fl_X5_7 (by first | rfl | assumption) (by first | decide | omega) (by decide) rfl (by first | exact zF_at hF rfl rfl | assumption) ?_
        refine zj_bipush X dX5_passes_49 (by decide) ?_
        refine zG_dup2 X dX5_passes_51 rfl rfl ?_
        refine zj_ialoadv (v := J 51 10) X dX5_passes_52 (by first | rfl | assumption) (by first | decide | omega) (10) (by decide) (by decide) (by simp [zup]) ?_
        refine zG_iload_n X dX5_passes_53 rfl ?_
        refine zj_iconst X dX5_passes_54 ?_
        refine zj_icmp_ne X dX5_passes_55 (tgt := 62) (by decide) (by first | decide | omega) (by first | decide | omega) (fun h_55 => ?_) (fun h_55 => ?_)
        · refine zj_iconst X dX5_passes_62 ?_
          refine zj_iadd X dX5_passes_63 ?_
          refine zj_iastore X dX5_passes_64 (by first | rfl | assumption) (by first | decide | omega) (10) (by decide) (by decide) ?_
          refine zG_aload_n X dX5_passes_65 rfl ?_
          refine zG_getR X dX5_passes_66 fl_X5_7 (by first | rfl | assumption) (by first | decide | omega) (by decide) rfl (by first | exact zF_at hF rfl rfl | assumption) ?_
          refine zj_bipush X dX5_passes_69 (by decide) ?_
          refine zG_iload_n X dX5_passes_71 rfl ?_
          refine zj_iconst X dX5_passes_72 ?_
          refine zj_icmp_ne X dX5_passes_73 (tgt := 88) (by decide) (by first | decide | omega) (by first | decide | omega) (fun h_73 => ?_) (fun h_73 => ?_)
          · refine zj_iconst X dX5_passes_88 ?_
            refine zj_iastore X dX5_passes_89 (by first | rfl | assumption) (by first | decide | omega) (11) (by decide) (by decide) ?_
            rw [cn_1]
            refine zG_aload_n X dX5_passes_90 rfl ?_
            refine zj_callV0 (as2 := []) X (k_X5_moves lo (d - 1) (by omega) (upr J 51 (cnR (J 51) 1)) G F hF (wt := if (1 : Int) = 2 then wt + 1 else 0) (mV_cn (f := 1) v) ok po l1 l2 (by split <;> omega) (by split <;> omega)) dX5_passes_91 mv_X5_moves ml_X5_89 (by first | rfl | assumption) rfl (by first | decide | omega) rfl rfl (by show d - 1 + 1 ≤ d; omega) (by show 19 + 3 + 35 * (d - 1) ≤ 35 * (d); omega) (Nat.le_of_ble_eq_true rfl) (Nat.le_of_ble_eq_true rfl) (Nat.le_of_ble_eq_true rfl) ?_
            refine zG_iload_n X dX5_passes_94 rfl ?_
            refine zG_iret X dX5_passes_95 rfl ?_
            exact zD.of rfl (by rw [show upr J 51 (cnR (J 51) 1) 51 = cnR (J 51) 1 from funext (fun i => upr_eq), upr_upr]) rfl rfl
          · exact absurd h_73 (by first | decide | omega)
        · exact absurd h_55 (by first | decide | omega)
      · exact absurd h_35 (by first | decide | omega)
  · rw [e]
    refine zG_istore_n X dX5_passes_4 (by decide) rfl ?_
    refine zG_aload_n X dX5_passes_5 rfl ?_
    refine zG_getR X dX5_passes_6 fl_X5_7 (by first | rfl | assumption) (by first | decide | omega) (by decide) rfl (by first | exact zF_at hF rfl rfl | assumption) ?_
    refine zj_bipush X dX5_passes_9 (by decide) ?_
    refine zG_dup2 X dX5_passes_11 rfl rfl ?_
    refine zj_iaload X dX5_passes_12 (by first | rfl | assumption) (by first | decide | omega) (8) (by decide) (by decide) ?_
    refine zG_iload_n X dX5_passes_13 rfl ?_
    refine zj_iconst X dX5_passes_14 ?_
    refine zj_icmp_ne X dX5_passes_15 (tgt := 22) (by decide) (by first | decide | omega) (by first | decide | omega) (fun h_15 => ?_) (fun h_15 => ?_)
    · refine zj_iconst X dX5_passes_22 ?_
      refine zj_iadd X dX5_passes_23 ?_
      refine zj_iastore X dX5_passes_24 (by first | rfl | assumption) (by first | decide | omega) (8) (by decide) (by decide) ?_
      refine zG_aload_n X dX5_passes_25 rfl ?_
      refine zG_getR X dX5_passes_26 fl_X5_7 (by first | rfl | assumption) (by first | decide | omega) (by decide) rfl (by first | exact zF_at hF rfl rfl | assumption) ?_
      refine zj_bipush X dX5_passes_29 (by decide) ?_
      refine zG_dup2 X dX5_passes_31 rfl rfl ?_
      refine zj_ialoadv (v := J 51 9) X dX5_passes_32 (by first | rfl | assumption) (by first | decide | omega) (9) (by decide) (by decide) (by simp [zup]) ?_
      refine zG_iload_n X dX5_passes_33 rfl ?_
      refine zj_iconst X dX5_passes_34 ?_
      refine zj_icmp_ne X dX5_passes_35 (tgt := 42) (by decide) (by first | decide | omega) (by first | decide | omega) (fun h_35 => ?_) (fun h_35 => ?_)
      · exact absurd h_35 (by first | decide | omega)
      · refine zj_iconst X dX5_passes_38 ?_
        refine zG_goto X dX5_passes_39 (tgt := 43) (by decide) ?_
        refine zj_iadd X dX5_passes_43 ?_
        refine zj_iastore X dX5_passes_44 (by first | rfl | assumption) (by first | decide | omega) (9) (by decide) (by decide) ?_
        refine zG_aload_n X dX5_passes_45 rfl ?_
        refine zG_getR X dX5_passes_46 fl_X5_7 (by first | rfl | assumption) (by first | decide | omega) (by decide) rfl (by first | exact zF_at hF rfl rfl | assumption) ?_
        refine zj_bipush X dX5_passes_49 (by decide) ?_
        refine zG_dup2 X dX5_passes_51 rfl rfl ?_
        refine zj_ialoadv (v := J 51 10) X dX5_passes_52 (by first | rfl | assumption) (by first | decide | omega) (10) (by decide) (by decide) (by simp [zup]) ?_
        refine zG_iload_n X dX5_passes_53 rfl ?_
        refine zj_iconst X dX5_passes_54 ?_
        refine zj_icmp_ne X dX5_passes_55 (tgt := 62) (by decide) (by first | decide | omega) (by first | decide | omega) (fun h_55 => ?_) (fun h_55 => ?_)
        · refine zj_iconst X dX5_passes_62 ?_
          refine zj_iadd X dX5_passes_63 ?_
          refine zj_iastore X dX5_passes_64 (by first | rfl | assumption) (by first | decide | omega) (10) (by decide) (by decide) ?_
          refine zG_aload_n X dX5_passes_65 rfl ?_
          refine zG_getR X dX5_passes_66 fl_X5_7 (by first | rfl | assumption) (by first | decide | omega) (by decide) rfl (by first | exact zF_at hF rfl rfl | assumption) ?_
          refine zj_bipush X dX5_passes_69 (by decide) ?_
          refine zG_iload_n X dX5_passes_71 rfl ?_
          refine zj_iconst X dX5_passes_72 ?_
          refine zj_icmp_ne X dX5_passes_73 (tgt := 88) (by decide) (by first | decide | omega) (by first | decide | omega) (fun h_73 => ?_) (fun h_73 => ?_)
          · exact absurd h_73 (by first | decide | omega)
          · refine zG_aload_n X dX5_passes_76 rfl ?_
            refine zG_getR X dX5_passes_77 fl_X5_7 (by first | rfl | assumption) (by first | decide | omega) (by decide) rfl (by first | exact zF_at hF rfl rfl | assumption) ?_
            refine zj_bipush X dX5_passes_80 (by decide) ?_
            refine zj_ialoadv (v := J 51 11) X dX5_passes_82 (by first | rfl | assumption) (by first | decide | omega) (11) (by decide) (by decide) (by simp [zup]) ?_
            refine zj_iconst X dX5_passes_83 ?_
            refine zj_iadd X dX5_passes_84 ?_
            refine zG_goto X dX5_passes_85 (tgt := 89) (by decide) ?_
            refine zj_iastore X dX5_passes_89 (by first | rfl | assumption) (by first | decide | omega) (11) (by decide) (by decide) ?_
            rw [cn_2]
            refine zG_aload_n X dX5_passes_90 rfl ?_
            refine zj_callV0 (as2 := []) X (k_X5_moves lo (d - 1) (by omega) (upr J 51 (cnR (J 51) 2)) G F hF (wt := if (2 : Int) = 2 then wt + 1 else 0) (mV_cn (f := 2) v) ok po l1 l2 (by split <;> omega) (by split <;> omega)) dX5_passes_91 mv_X5_moves ml_X5_89 (by first | rfl | assumption) rfl (by first | decide | omega) rfl rfl (by show d - 1 + 1 ≤ d; omega) (by show 19 + 3 + 35 * (d - 1) ≤ 35 * (d); omega) (Nat.le_of_ble_eq_true rfl) (Nat.le_of_ble_eq_true rfl) (Nat.le_of_ble_eq_true rfl) ?_
            refine zG_iload_n X dX5_passes_94 rfl ?_
            refine zG_iret X dX5_passes_95 rfl ?_
            exact zD.of rfl (by rw [show upr J 51 (cnR (J 51) 2) 51 = cnR (J 51) 2 from funext (fun i => upr_eq), upr_upr]) rfl rfl
        · exact absurd h_55 (by first | decide | omega)
    · exact absurd h_15 (by first | decide | omega)
  · rw [e]
    refine zG_istore_n X dX5_passes_4 (by decide) rfl ?_
    refine zG_aload_n X dX5_passes_5 rfl ?_
    refine zG_getR X dX5_passes_6 fl_X5_7 (by first | rfl | assumption) (by first | decide | omega) (by decide) rfl (by first | exact zF_at hF rfl rfl | assumption) ?_
    refine zj_bipush X dX5_passes_9 (by decide) ?_
    refine zG_dup2 X dX5_passes_11 rfl rfl ?_
    refine zj_iaload X dX5_passes_12 (by first | rfl | assumption) (by first | decide | omega) (8) (by decide) (by decide) ?_
    refine zG_iload_n X dX5_passes_13 rfl ?_
    refine zj_iconst X dX5_passes_14 ?_
    refine zj_icmp_ne X dX5_passes_15 (tgt := 22) (by decide) (by first | decide | omega) (by first | decide | omega) (fun h_15 => ?_) (fun h_15 => ?_)
    · refine zj_iconst X dX5_passes_22 ?_
      refine zj_iadd X dX5_passes_23 ?_
      refine zj_iastore X dX5_passes_24 (by first | rfl | assumption) (by first | decide | omega) (8) (by decide) (by decide) ?_
      refine zG_aload_n X dX5_passes_25 rfl ?_
      refine zG_getR X dX5_passes_26 fl_X5_7 (by first | rfl | assumption) (by first | decide | omega) (by decide) rfl (by first | exact zF_at hF rfl rfl | assumption) ?_
      refine zj_bipush X dX5_passes_29 (by decide) ?_
      refine zG_dup2 X dX5_passes_31 rfl rfl ?_
      refine zj_ialoadv (v := J 51 9) X dX5_passes_32 (by first | rfl | assumption) (by first | decide | omega) (9) (by decide) (by decide) (by simp [zup]) ?_
      refine zG_iload_n X dX5_passes_33 rfl ?_
      refine zj_iconst X dX5_passes_34 ?_
      refine zj_icmp_ne X dX5_passes_35 (tgt := 42) (by decide) (by first | decide | omega) (by first | decide | omega) (fun h_35 => ?_) (fun h_35 => ?_)
      · refine zj_iconst X dX5_passes_42 ?_
        refine zj_iadd X dX5_passes_43 ?_
        refine zj_iastore X dX5_passes_44 (by first | rfl | assumption) (by first | decide | omega) (9) (by decide) (by decide) ?_
        refine zG_aload_n X dX5_passes_45 rfl ?_
        refine zG_getR X dX5_passes_46 fl_X5_7 (by first | rfl | assumption) (by first | decide | omega) (by decide) rfl (by first | exact zF_at hF rfl rfl | assumption) ?_
        refine zj_bipush X dX5_passes_49 (by decide) ?_
        refine zG_dup2 X dX5_passes_51 rfl rfl ?_
        refine zj_ialoadv (v := J 51 10) X dX5_passes_52 (by first | rfl | assumption) (by first | decide | omega) (10) (by decide) (by decide) (by simp [zup]) ?_
        refine zG_iload_n X dX5_passes_53 rfl ?_
        refine zj_iconst X dX5_passes_54 ?_
        refine zj_icmp_ne X dX5_passes_55 (tgt := 62) (by decide) (by first | decide | omega) (by first | decide | omega) (fun h_55 => ?_) (fun h_55 => ?_)
        · exact absurd h_55 (by first | decide | omega)
        · refine zj_iconst X dX5_passes_58 ?_
          refine zG_goto X dX5_passes_59 (tgt := 63) (by decide) ?_
          refine zj_iadd X dX5_passes_63 ?_
          refine zj_iastore X dX5_passes_64 (by first | rfl | assumption) (by first | decide | omega) (10) (by decide) (by decide) ?_
          refine zG_aload_n X dX5_passes_65 rfl ?_
          refine zG_getR X dX5_passes_66 fl_X5_7 (by first | rfl | assumption) (by first | decide | omega) (by decide) rfl (by first | exact zF_at hF rfl rfl | assumption) ?_
          refine zj_bipush X dX5_passes_69 (by decide) ?_
          refine zG_iload_n X dX5_passes_71 rfl ?_
          refine zj_iconst X dX5_passes_72 ?_
          refine zj_icmp_ne X dX5_passes_73 (tgt := 88) (by decide) (by first | decide | omega) (by first | decide | omega) (fun h_73 => ?_) (fun h_73 => ?_)
          · refine zj_iconst X dX5_passes_88 ?_
            refine zj_iastore X dX5_passes_89 (by first | rfl | assumption) (by first | decide | omega) (11) (by decide) (by decide) ?_
            rw [cn_3]
            refine zG_aload_n X dX5_passes_90 rfl ?_
            refine zj_callV0 (as2 := []) X (k_X5_moves lo (d - 1) (by omega) (upr J 51 (cnR (J 51) 3)) G F hF (wt := if (3 : Int) = 2 then wt + 1 else 0) (mV_cn (f := 3) v) ok po l1 l2 (by split <;> omega) (by split <;> omega)) dX5_passes_91 mv_X5_moves ml_X5_89 (by first | rfl | assumption) rfl (by first | decide | omega) rfl rfl (by show d - 1 + 1 ≤ d; omega) (by show 19 + 3 + 35 * (d - 1) ≤ 35 * (d); omega) (Nat.le_of_ble_eq_true rfl) (Nat.le_of_ble_eq_true rfl) (Nat.le_of_ble_eq_true rfl) ?_
            refine zG_iload_n X dX5_passes_94 rfl ?_
            refine zG_iret X dX5_passes_95 rfl ?_
            exact zD.of rfl (by rw [show upr J 51 (cnR (J 51) 3) 51 = cnR (J 51) 3 from funext (fun i => upr_eq), upr_upr]) rfl rfl
          · exact absurd h_73 (by first | decide | omega)
      · exact absurd h_35 (by first | decide | omega)
    · exact absurd h_15 (by first | decide | omega)
set_option maxHeartbeats 4000000 in
set_option maxRecDepth 100000 in
theorem k_X5_letsPass (lo d : Nat) (hd : 6 ≤ d) (J : Nat → Nat → Int) (G : Nat → Nat → Int64) (F : Nat → Nat → Option Nat) (hF : zFk F) {hs : Nat → Int} {wd : Nat → Nat → Int} {sb : Nat → Bool} {ps : Nat → Int} {lag wt : Int} {sk : Bool} (v : mV (J 51) hs wd sb ps lag wt sk) (ok : hwOk hs wd) (po : pOk wd ps) (l1 : 0 ≤ lag) (l2 : lag < 720) (w1 : 0 ≤ wt) (w2 : wt ≤ 100) {n : Nat} (hn : n ≤ 100000) : zCt lo yX5_letsPass cX5_letsPass 4 (some .int) d 0 0 [.ref (lo + 50), .int (zI (n : Int))] 57 57 (zM J) G F (zD [.int (zI (zcnt (fun k => decide (fateN hs wd sb lag sk k (ps, wt) = 1)) n))] (upr J 51 (psN hs wd sb lag sk (J 51) ps wt n)) G F) := by
  refine zCt.mk (by decide) (mv_X5_letsPass.2.2.2.1) (Nat.le_of_ble_eq_true rfl) ?_
  intro p l e s m args below meth c D cA X
  obtain ⟨e0, e2, e3, e4, e5, e6, e7, e11⟩ := v.1
  have hok := ok.1
  unfold hOk at hok
  have loop : ∀ (q k : Nat), k + q = n → zG p l e { frames := d, cells := 0, slots := 0, locals := 35 * d } s m args below meth c D cA lo 4 0 0 (MQ below (zQ D cA lo 57 (zD [.int (zI (zcnt (fun k => decide (fateN hs wd sb lag sk k (ps, wt) = 1)) n))] (upr J 51 (psN hs wd sb lag sk (J 51) ps wt n)) G F)) args s 0 0 (fun q => lo ≤ q)) 57 (zM (upr J 51 (psN hs wd sb lag sk (J 51) ps wt k))) G F [some (.ref (lo + 50)), some (.int (zI (n : Int))), some (.int (zI (zcnt (fun k => decide (fateN hs wd sb lag sk k (ps, wt) = 1)) k))), some (.int (zI (k : Int)))] [] 4 := by
    intro q
    induction q with
    | zero =>
      intro k  hk
      refine zG_iload_n X dX5_letsPass_4 rfl ?_
      refine zG_iload_n X dX5_letsPass_5 rfl ?_
      refine zj_icmp_ge X dX5_letsPass_6 (tgt := 31) (by decide) (by first | decide | omega) (by first | decide | omega) (fun h_6 => ?_) (fun h_6 => ?_)
      · refine zG_iload_n X dX5_letsPass_31 rfl ?_
        refine zG_iret X dX5_letsPass_32 rfl ?_
        obtain rfl : k = n := by omega
        exact zD.rf
      · exact absurd h_6 (by first | decide | omega)
    | succ q ih =>
      intro k  hk
      have hN := mV_N v (by omega) k
      have hD := dayN_ok (sb := sb) (lag := lag) (sk := sk) (r := (ps, wt)) ok po ⟨w1, w2⟩ k
      have hB := k_X5_passes lo (d - 1) (by omega) (upr J 51 (psN hs wd sb lag sk (J 51) ps wt k)) G F hF (ps := (dayN hs wd sb lag sk k (ps, wt)).1) (wt := (dayN hs wd sb lag sk k (ps, wt)).2) (by rw [show upr J 51 (psN hs wd sb lag sk (J 51) ps wt k) 51 = psN hs wd sb lag sk (J 51) ps wt k from funext (fun i => upr_eq)]; exact hN) ok hD.1 l1 l2 hD.2.1 (by omega)
      rw [show upr J 51 (psN hs wd sb lag sk (J 51) ps wt k) 51 = psN hs wd sb lag sk (J 51) ps wt k from funext (fun i => upr_eq), upr_upr] at hB
      have hci := zcnt_in (fun k => decide (fateN hs wd sb lag sk k (ps, wt) = 1)) k
      have hfi := mfate_in (hs := hs) (wd := wd) (sb := sb) (ps := (dayN hs wd sb lag sk k (ps, wt)).1) (lag := lag) (wt := (dayN hs wd sb lag sk k (ps, wt)).2)
      refine zG_iload_n X dX5_letsPass_4 rfl ?_
      refine zG_iload_n X dX5_letsPass_5 rfl ?_
      refine zj_icmp_ge X dX5_letsPass_6 (tgt := 31) (by decide) (by first | decide | omega) (by first | decide | omega) (fun h_6 => ?_) (fun h_6 => ?_)
      · exact absurd h_6 (by first | decide | omega)
      · refine zG_iload_n X dX5_letsPass_9 rfl ?_
        refine zG_aload_n X dX5_letsPass_10 rfl ?_
        refine zj_callV1 (as2 := []) X (hB) dX5_letsPass_11 mv_X5_passes ml_X5_92 (by first | rfl | assumption) rfl (by first | decide | omega) rfl rfl (by show d - 1 + 1 ≤ d; omega) (by show 19 + 2 + 35 * (d - 1) ≤ 35 * (d); omega) (Nat.le_of_ble_eq_true rfl) (Nat.le_of_ble_eq_true rfl) (Nat.le_of_ble_eq_true rfl) ?_
        refine zj_iconst X dX5_letsPass_14 ?_
        refine zj_icmp_ne X dX5_letsPass_15 (tgt := 22) (by decide) (by first | decide | omega) (by first | decide | omega) (fun h_15 => ?_) (fun h_15 => ?_)
        · refine zj_iconst X dX5_letsPass_22 ?_
          refine zj_iadd X dX5_letsPass_23 ?_
          refine zG_istore_n X dX5_letsPass_24 (by decide) rfl ?_
          refine zj_iinc X dX5_letsPass_25 rfl (by decide) rfl ?_
          refine zG_goto X dX5_letsPass_28 (tgt := 4) (by decide) ?_
          first
            | (have hi := ih (k + 1) (by omega); rw [show zcnt (fun k => decide (fateN hs wd sb lag sk k (ps, wt) = 1)) (k + 1) = zcnt (fun k => decide (fateN hs wd sb lag sk k (ps, wt) = 1)) k + 1 from by show zcnt (fun k => decide (fateN hs wd sb lag sk k (ps, wt) = 1)) k + (if decide (fateN hs wd sb lag sk k (ps, wt) = 1) = true then (1 : Int) else 0) = _; rw [if_pos (decide_eq_true (by show mfate _ _ _ _ _ _ = 1; omega))]] at hi; exact hi)
            | (have hi := ih (k + 1) (by omega); rw [show zcnt (fun k => decide (fateN hs wd sb lag sk k (ps, wt) = 1)) (k + 1) = zcnt (fun k => decide (fateN hs wd sb lag sk k (ps, wt) = 1)) k + 0 from by show zcnt (fun k => decide (fateN hs wd sb lag sk k (ps, wt) = 1)) k + (if decide (fateN hs wd sb lag sk k (ps, wt) = 1) = true then (1 : Int) else 0) = _; rw [if_neg (by rw [decide_eq_true_iff]; show ¬ mfate _ _ _ _ _ _ = 1; omega)]] at hi; exact hi)
        · refine zj_iconst X dX5_letsPass_18 ?_
          refine zG_goto X dX5_letsPass_19 (tgt := 23) (by decide) ?_
          refine zj_iadd X dX5_letsPass_23 ?_
          refine zG_istore_n X dX5_letsPass_24 (by decide) rfl ?_
          refine zj_iinc X dX5_letsPass_25 rfl (by decide) rfl ?_
          refine zG_goto X dX5_letsPass_28 (tgt := 4) (by decide) ?_
          first
            | (have hi := ih (k + 1) (by omega); rw [show zcnt (fun k => decide (fateN hs wd sb lag sk k (ps, wt) = 1)) (k + 1) = zcnt (fun k => decide (fateN hs wd sb lag sk k (ps, wt) = 1)) k + 1 from by show zcnt (fun k => decide (fateN hs wd sb lag sk k (ps, wt) = 1)) k + (if decide (fateN hs wd sb lag sk k (ps, wt) = 1) = true then (1 : Int) else 0) = _; rw [if_pos (decide_eq_true (by show mfate _ _ _ _ _ _ = 1; omega))]] at hi; exact hi)
            | (have hi := ih (k + 1) (by omega); rw [show zcnt (fun k => decide (fateN hs wd sb lag sk k (ps, wt) = 1)) (k + 1) = zcnt (fun k => decide (fateN hs wd sb lag sk k (ps, wt) = 1)) k + 0 from by show zcnt (fun k => decide (fateN hs wd sb lag sk k (ps, wt) = 1)) k + (if decide (fateN hs wd sb lag sk k (ps, wt) = 1) = true then (1 : Int) else 0) = _; rw [if_neg (by rw [decide_eq_true_iff]; show ¬ mfate _ _ _ _ _ _ = 1; omega)]] at hi; exact hi)
  refine zj_iconst X dX5_letsPass_0 ?_
  refine zG_istore_n X dX5_letsPass_1 (by decide) rfl ?_
  refine zj_iconst X dX5_letsPass_2 ?_
  refine zG_istore_n X dX5_letsPass_3 (by decide) rfl ?_
  have h0 := loop n 0 (by omega)
  rw [psN_0, upr_self] at h0
  exact h0
