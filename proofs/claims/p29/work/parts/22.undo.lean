def fE (A : Int) (J : Nat → Nat → Int) (G : Nat → Nat → Int64) (F : Nat → Nat → Option Nat) : Int → (Nat → Nat → Int) → (Nat → Nat → Int64) → (Nat → Nat → Option Nat) → Prop := fun a J2 G2 F2 => a = A ∧ J2 = J ∧ G2 = G ∧ F2 = F
def unJ (J : Nat → Nat → Int) (b : Nat → Nat) : Nat → Nat → Int := cpH (zup J 0 2 (J 0 2 - 1)) 1 (b (J 0 2 - 1).toNat)
def unG (J : Nat → Nat → Int) (G : Nat → Nat → Int64) (b : Nat → Nat) : Nat → Nat → Int64 := zup G 1 9 (G (b (J 0 2 - 1).toNat) 9)
set_option maxHeartbeats 4000000 in
set_option maxRecDepth 100000 in
theorem k_X4_undo (lo d : Nat) (hd : 6 ≤ d) (J : Nat → Nat → Int) (G : Nat → Nat → Int64) (F : Nat → Nat → Option Nat) (hF : zFk F) {b : Nat → Nat} (hb : bOk F b) (hs1 : 0 ≤ J 0 2) (hs2 : J 0 2 ≤ 4) : zCtX lo yX4_undo cX4_undo 1 (some .int) d 1 6 [.ref (lo + 0)] (zM J) G F (zPI (if J 0 2 < 1 then 1 else 0) (fE (J 0 2 - 1) (unJ J b) (unG J G b) F)) (zPX (if J 0 2 < 1 then 1 else 0) "java/lang/IllegalStateException" "java/lang/IllegalStateException" (zM J) G F) := by
  refine zCtX.mk (by decide) (mv_X4_undo.2.2.2.1) (Nat.le_of_ble_eq_true rfl) ?_
  intro p l e s m args below meth c D cA X Y hx
  refine zG_aload_n X dX4_undo_0 rfl ?_
  refine zj_get X dX4_undo_1 fl_X4_252 (by first | rfl | assumption) (by first | decide | omega) (by decide) rfl ?_
  refine zj_iconst X dX4_undo_4 ?_
  refine zj_icmp_ge X dX4_undo_5 (tgt := 18) (by decide) (by first | decide | omega) (by first | decide | omega) (fun h_5 => ?_) (fun h_5 => ?_)
  · have hbt := (hb.1 (J 0 2 - 1).toNat (by omega)).2
    have hzt : zShape[b (J 0 2 - 1).toNat]? = some (.inl 0) := zHo_s0 (zSv_ho hbt)
    have hnt : b (J 0 2 - 1).toNat < 57 := by have := zHo_lt (zSv_ho hbt); omega
    refine zG_aload_n X dX4_undo_18 rfl ?_
    refine zG_dup X dX4_undo_19 rfl ?_
    refine zj_get X dX4_undo_20 fl_X4_252 (by first | rfl | assumption) (by first | decide | omega) (by decide) rfl ?_
    refine zj_iconst X dX4_undo_23 ?_
    refine zj_isub X dX4_undo_24 ?_
    refine zj_put X dX4_undo_25 fl_X4_252 (by first | rfl | assumption) (by first | decide | omega) (by decide) rfl rfl ?_
    refine zG_aload_n X dX4_undo_28 rfl ?_
    refine zG_getR X dX4_undo_29 fl_X4_10 (by first | rfl | assumption) (by first | decide | omega) (by decide) rfl (by first | exact zF_at hF rfl rfl | exact zF_at hF1 rfl rfl | assumption) ?_
    refine zG_aload_n X dX4_undo_32 rfl ?_
    refine zG_getR X dX4_undo_33 fl_X4_16 (by first | rfl | assumption) (by first | decide | omega) (by decide) rfl (by first | exact zF_at hF rfl rfl | exact zF_at hF1 rfl rfl | assumption) ?_
    refine zG_aload_n X dX4_undo_36 rfl ?_
    refine zj_getv (v := J 0 2 - 1) X dX4_undo_37 fl_X4_252 (by first | rfl | assumption) (by first | decide | omega) (by decide) rfl (by simp [zup]) ?_
    refine zj_aaload4 X dX4_undo_40 (by first | rfl | assumption) (by first | decide | omega) ((J 0 2 - 1).toNat) (by omega) (by omega) (by exact (hb.1 (J 0 2 - 1).toNat (by omega)).1) ?_
    refine zj_callV0 (as2 := [_]) X (k_X0_copyFrom lo (d - 1) (by omega) _ G F hF (Or.inl rfl) (zSv_ho hbt) (by rcases hbt with h | h | h | h <;> omega)) dX4_undo_41 mv_X0_copyFrom ml_X4_257 (by first | rfl | assumption) rfl (by first | decide | omega) rfl rfl (by show d - 1 + 1 ≤ d; omega) (by show 19 + 3 + 35 * (d - 1) ≤ 35 * (d); omega) (Nat.le_of_ble_eq_true rfl) (Nat.le_of_ble_eq_true rfl) (Nat.le_of_ble_eq_true rfl) ?_
    refine zG_aload_n X dX4_undo_44 rfl ?_
    refine zj_getv (v := J 0 2 - 1) X dX4_undo_45 fl_X4_252 (by first | rfl | assumption) (by first | decide | omega) (by decide) rfl (by exact (cpH_ot (by omega)).trans (by simp [zup])) ?_
    refine zG_iretX X dX4_undo_48 rfl (Nat.le_of_ble_eq_true rfl) (Nat.le_of_ble_eq_true rfl) ?_
    exact ⟨if_neg (by omega), _, _, rfl, rfl, rfl, rfl, rfl, rfl⟩
  · exact zG_throwS X Y hx rfl xE_s (by decide) dX4_undo_8 dX4_undo_11 dX4_undo_12 dX4_undo_14 dX4_undo_17 (by show 6 ≤ d; omega) (by show 0 + 82 ≤ 35 * d; omega) (Nat.le_of_ble_eq_true rfl) (Nat.le_of_ble_eq_true rfl) (Nat.le_of_ble_eq_true rfl) (Nat.le_of_ble_eq_true rfl) (⟨Or.inl ⟨if_pos (by omega), rfl⟩, rfl, rfl, rfl⟩)
theorem i2b_in {u : Int} (h1 : 0 ≤ u) (h2 : u ≤ 127) : vp_nar .byte (zI u).toInt8.toInt32 = zI u := by
  have h : ∀ k : Fin 128, vp_nar .byte (zI ((k.val : Nat) : Int)).toInt8.toInt32 = zI ((k.val : Nat) : Int) := by decide +kernel
  have h3 := h ⟨u.toNat, by omega⟩
  rw [show (((⟨u.toNat, by omega⟩ : Fin 128).val : Nat) : Int) = u from Int.toNat_of_nonneg h1] at h3
  exact h3
set_option maxHeartbeats 4000000 in
set_option maxRecDepth 100000 in
theorem k_X4_append (lo d : Nat) (hd : 6 ≤ d) (J : Nat → Nat → Int) (G : Nat → Nat → Int64) (F : Nat → Nat → Option Nat) (hF : zFk F) {u : Int} (hu : zr u) (ht1 : 0 ≤ J 0 7) (ht2 : J 0 7 ≤ 90) : zCtX lo yX4_append cX4_append 2 (some .int) d 1 6 [.ref (lo + 0), .int (zI u)] (zM J) G F (zPI (if u < 0 ∨ 127 < u then 1 else if 90 ≤ J 0 7 then 2 else 0) (fE (J 0 7 + 1) (zup (zup J 49 (J 0 7).toNat u) 0 7 (J 0 7 + 1)) G F)) (zPX (if u < 0 ∨ 127 < u then 1 else if 90 ≤ J 0 7 then 2 else 0) "java/lang/IllegalArgumentException" "java/lang/IllegalStateException" (zM J) G F) := by
  refine zCtX.mk (by decide) (mv_X4_append.2.2.2.1) (Nat.le_of_ble_eq_true rfl) ?_
  intro p l e s m args below meth c D cA X Y hx
  unfold zr at hu
  refine zG_iload_n X dX4_append_0 rfl ?_
  refine zj_if_lt X dX4_append_1 (tgt := 10) (by decide) (by first | decide | omega) (fun h_1 => ?_) (fun h_1 => ?_)
  · exact zG_throwS X Y hx rfl xE_a (by decide) dX4_append_10 dX4_append_13 dX4_append_14 dX4_append_16 dX4_append_19 (by show 6 ≤ d; omega) (by show 0 + 82 ≤ 35 * d; omega) (Nat.le_of_ble_eq_true rfl) (Nat.le_of_ble_eq_true rfl) (Nat.le_of_ble_eq_true rfl) (Nat.le_of_ble_eq_true rfl) (⟨Or.inl ⟨if_pos (by omega), rfl⟩, rfl, rfl, rfl⟩)
  · refine zG_iload_n X dX4_append_4 rfl ?_
    refine zj_bipush X dX4_append_5 (by decide) ?_
    refine zj_icmp_le X dX4_append_7 (tgt := 20) (by decide) (by first | decide | omega) (by first | decide | omega) (fun h_7 => ?_) (fun h_7 => ?_)
    · refine zG_aload_n X dX4_append_20 rfl ?_
      refine zj_get X dX4_append_21 fl_X4_237 (by first | rfl | assumption) (by first | decide | omega) (by decide) rfl ?_
      refine zj_bipush X dX4_append_24 (by decide) ?_
      refine zj_icmp_lt X dX4_append_26 (tgt := 39) (by decide) (by first | decide | omega) (by first | decide | omega) (fun h_26 => ?_) (fun h_26 => ?_)
      · refine zG_aload_n X dX4_append_39 rfl ?_
        refine zG_getR X dX4_append_40 fl_X4_39 (by first | rfl | assumption) (by first | decide | omega) (by decide) rfl (by first | exact zF_at hF rfl rfl | exact zF_at hF1 rfl rfl | assumption) ?_
        refine zG_aload_n X dX4_append_43 rfl ?_
        refine zj_get X dX4_append_44 fl_X4_237 (by first | rfl | assumption) (by first | decide | omega) (by decide) rfl ?_
        refine zG_iload_n X dX4_append_47 rfl ?_
        refine zG_i2b X dX4_append_48 ?_
        refine zj_bastore X dX4_append_49 (by first | rfl | assumption) (by first | decide | omega) ((J 0 7).toNat) (by omega) (by omega) (by exact i2b_in (by omega) (by omega)) ?_
        refine zG_aload_n X dX4_append_50 rfl ?_
        refine zG_dup X dX4_append_51 rfl ?_
        refine zj_getv (v := J 0 7) X dX4_append_52 fl_X4_237 (by first | rfl | assumption) (by first | decide | omega) (by decide) rfl (by simp [zup]) ?_
        refine zj_iconst X dX4_append_55 ?_
        refine zj_iadd X dX4_append_56 ?_
        refine zj_put X dX4_append_57 fl_X4_237 (by first | rfl | assumption) (by first | decide | omega) (by decide) rfl rfl ?_
        refine zG_aload_n X dX4_append_60 rfl ?_
        refine zj_getv (v := J 0 7 + 1) X dX4_append_61 fl_X4_237 (by first | rfl | assumption) (by first | decide | omega) (by decide) rfl (by simp [zup]) ?_
        refine zG_iretX X dX4_append_64 rfl (Nat.le_of_ble_eq_true rfl) (Nat.le_of_ble_eq_true rfl) ?_
        exact ⟨(if_neg (by omega)).trans (if_neg (by omega)), _, _, rfl, rfl, rfl, rfl, rfl, rfl⟩
      · exact zG_throwS X Y hx rfl xE_s (by decide) dX4_append_29 dX4_append_32 dX4_append_33 dX4_append_35 dX4_append_38 (by show 6 ≤ d; omega) (by show 0 + 82 ≤ 35 * d; omega) (Nat.le_of_ble_eq_true rfl) (Nat.le_of_ble_eq_true rfl) (Nat.le_of_ble_eq_true rfl) (Nat.le_of_ble_eq_true rfl) (⟨Or.inr ⟨(if_neg (by omega)).trans (if_pos (by omega)), rfl⟩, rfl, rfl, rfl⟩)
    · exact zG_throwS X Y hx rfl xE_a (by decide) dX4_append_10 dX4_append_13 dX4_append_14 dX4_append_16 dX4_append_19 (by show 6 ≤ d; omega) (by show 0 + 82 ≤ 35 * d; omega) (Nat.le_of_ble_eq_true rfl) (Nat.le_of_ble_eq_true rfl) (Nat.le_of_ble_eq_true rfl) (Nat.le_of_ble_eq_true rfl) (⟨Or.inl ⟨if_pos (by omega), rfl⟩, rfl, rfl, rfl⟩)
def blF (hs : Nat → Int) (wd : Nat → Nat → Int) (sb : Nat → Bool) (n : Nat) : Nat → Int × Int
  | 0 => (0, 201)
  | k + 1 => if dhR hs wd sb (60 * (k : Int)) n < (blF hs wd sb n k).2 then (60 * (k : Int), dhR hs wd sb (60 * (k : Int)) n) else blF hs wd sb n k
theorem blF_in {hs : Nat → Int} {wd : Nat → Nat → Int} {sb : Nat → Bool} {n : Nat} (hn : n ≤ 200) : ∀ k, 0 ≤ (blF hs wd sb n k).1 ∧ (blF hs wd sb n k).1 ≤ 60 * (k : Int) ∧ 0 ≤ (blF hs wd sb n k).2 ∧ (blF hs wd sb n k).2 ≤ 201
  | 0 => ⟨Int.le_refl _, Int.le_refl _, (by show (0 : Int) ≤ 201; decide), (by show (201 : Int) ≤ 201; decide)⟩
  | k + 1 => by
    have ih := blF_in (hs := hs) (wd := wd) (sb := sb) hn k
    have h := zcnt_in (fun k' => decide (fateN hs wd sb (60 * (k : Int)) true k' (pT wd, hs 11) > 1)) n
    have h2 : dhR hs wd sb (60 * (k : Int)) n = zcnt (fun k' => decide (fateN hs wd sb (60 * (k : Int)) true k' (pT wd, hs 11) > 1)) n := rfl
    unfold blF
    split <;> (push_cast; omega)
set_option maxHeartbeats 4000000 in
set_option maxRecDepth 100000 in
theorem k_X4_bestLag (lo d : Nat) (hd : 7 ≤ d) (J : Nat → Nat → Int) (G : Nat → Nat → Int64) (F : Nat → Nat → Option Nat) (hF : zFk F) {hs : Nat → Int} {wd : Nat → Nat → Int} (vh : vH J hs wd) (ok : hwOk hs wd) {u : Int} (hu : zr u) : zCtX lo yX4_bestLag cX4_bestLag 6 (some .int) d 1 6 [.ref (lo + 0), .int (zI u)] (zM J) G F (zPI (if u < 1 ∨ 200 < u then 1 else 0) (fS ((blF hs wd (sbC G 1) u.toNat 12).1) J G F)) (zPX (if u < 1 ∨ 200 < u then 1 else 0) "java/lang/IllegalArgumentException" "java/lang/IllegalArgumentException" (zM J) G F) := by
  refine zCtX.mk (by decide) (mv_X4_bestLag.2.2.2.1) (Nat.le_of_ble_eq_true rfl) ?_
  intro p l e s m args below meth c D cA X Y hx
  have hcf := ok.1
  unfold hOk at hcf
  have hJ3 : J 1 4 = hs 3 := vh.1 3 (by decide)
  have hJ13 : J 1 13 = hs 11 := vh.1 11 (by decide)
  have hJ0 : J 1 1 = hs 0 := vh.1 0 (by decide)
  have vb : vH (bsJ J 37 (hs 3) 1) hs wd := vH_bs vh (Or.inl rfl)
  have pk0 := psJ_ok vh ok (w := 37)
  have e3 : bsJ J 37 (hs 3) 1 37 3 = hs 3 := bsJ_3
  have e4 : decide (bsJ J 37 (hs 3) 1 37 4 = 1) = true := by rw [bsJ_4]; rfl
  have e4' : bsJ J 37 (hs 3) 1 37 4 = 0 ∨ bsJ J 37 (hs 3) 1 37 4 = 1 := Or.inr bsJ_4
  unfold zr at hu
  refine zG_iload_n X dX4_bestLag_0 rfl ?_
  refine zj_iconst X dX4_bestLag_1 ?_
  refine zj_icmp_lt X dX4_bestLag_2 (tgt := 12) (by decide) (by first | decide | omega) (by first | decide | omega) (fun h_2 => ?_) (fun h_2 => ?_)
  · exact zG_throwS X Y hx rfl xE_a (by decide) dX4_bestLag_12 dX4_bestLag_15 dX4_bestLag_16 dX4_bestLag_18 dX4_bestLag_21 (by show 6 ≤ d; omega) (by show 0 + 82 ≤ 35 * d; omega) (Nat.le_of_ble_eq_true rfl) (Nat.le_of_ble_eq_true rfl) (Nat.le_of_ble_eq_true rfl) (Nat.le_of_ble_eq_true rfl) (⟨Or.inl ⟨if_pos (by omega), rfl⟩, rfl, rfl, rfl⟩)
  · refine zG_iload_n X dX4_bestLag_5 rfl ?_
    refine zj_sipush X dX4_bestLag_6 (by decide) ?_
    refine zj_icmp_le X dX4_bestLag_9 (tgt := 22) (by decide) (by first | decide | omega) (by first | decide | omega) (fun h_9 => ?_) (fun h_9 => ?_)
    · refine zj_iconst X dX4_bestLag_22 ?_
      refine zG_istore_n X dX4_bestLag_23 (by decide) rfl ?_
      refine zj_sipush X dX4_bestLag_24 (by decide) ?_
      refine zG_istore_n X dX4_bestLag_27 (by decide) rfl ?_
      refine zj_iconst X dX4_bestLag_28 ?_
      refine zG_istore X dX4_bestLag_29 (by decide) rfl ?_
      have loop : ∀ (q k : Nat), k + q = 12 → ∀ J1, sameB J1 J → zG p l e { frames := d, cells := 1, slots := 6, locals := 35 * d } s m args below meth c D cA lo 6 0 0 (vx_MQ below (zQ D cA lo 57 (zPI (if u < 1 ∨ 200 < u then 1 else 0) (fS ((blF hs wd (sbC G 1) u.toNat 12).1) J G F))) (zXQ D cA lo (zPX (if u < 1 ∨ 200 < u then 1 else 0) "java/lang/IllegalArgumentException" "java/lang/IllegalArgumentException" (zM J) G F)) args s 1 6 (fun q => lo ≤ q)) 57 (zM (J1)) G F [some (.ref (lo + 0)), some (.int (zI u)), some (.int (zI (blF hs wd (sbC G 1) u.toNat k).1)), some (.int (zI (blF hs wd (sbC G 1) u.toNat k).2)), some (.int (zI (60 * (k : Int)))), none] [] 31 := by
        intro q
        induction q with
        | zero =>
          intro k hk
          intro J1 hj
          refine zG_iload X dX4_bestLag_31 rfl ?_
          refine zj_sipush X dX4_bestLag_33 (by decide) ?_
          refine zj_icmp_ge X dX4_bestLag_36 (tgt := 66) (by decide) (by first | decide | omega) (by first | decide | omega) (fun h_36 => ?_) (fun h_36 => ?_)
          · refine zG_iload_n X dX4_bestLag_66 rfl ?_
            refine zG_iretX X dX4_bestLag_67 rfl (Nat.le_of_ble_eq_true rfl) (Nat.le_of_ble_eq_true rfl) ?_
            obtain rfl : k = 12 := by omega
            exact ⟨if_neg (by omega), _, _, rfl, rfl, rfl, hj, rfl, rfl⟩
          · exact absurd h_36 (by first | decide | omega)
        | succ q ih =>
          intro k hk
          have hbi := blF_in (hs := hs) (wd := wd) (sb := sbC G 1) (n := u.toNat) (by omega) k
          intro J1 hj
          have vh1 := vH_same hj vh
          have hdi := zcnt_in (fun k' => decide (fateN hs wd (sbC G 1) (60 * (k : Int)) true k' (pT wd, hs 11) > 1)) u.toNat
          have hdr : dhR hs wd (sbC G 1) (60 * (k : Int)) u.toNat = zcnt (fun k' => decide (fateN hs wd (sbC G 1) (60 * (k : Int)) true k' (pT wd, hs 11) > 1)) u.toNat := rfl
          have hstep : blF hs wd (sbC G 1) u.toNat (k + 1) = if dhR hs wd (sbC G 1) (60 * (k : Int)) u.toNat < (blF hs wd (sbC G 1) u.toNat k).2 then (60 * (k : Int), dhR hs wd (sbC G 1) (60 * (k : Int)) u.toNat) else blF hs wd (sbC G 1) u.toNat k := rfl
          refine zG_iload X dX4_bestLag_31 rfl ?_
          refine zj_sipush X dX4_bestLag_33 (by decide) ?_
          refine zj_icmp_ge X dX4_bestLag_36 (tgt := 66) (by decide) (by first | decide | omega) (by first | decide | omega) (fun h_36 => ?_) (fun h_36 => ?_)
          · exact absurd h_36 (by first | decide | omega)
          · refine zG_aload_n X dX4_bestLag_39 rfl ?_
            refine zG_iload X dX4_bestLag_40 rfl ?_
            refine zG_iload_n X dX4_bestLag_42 rfl ?_
            refine zG_callV (as2 := [_, _]) rfl X (by have h7 := k_X4_daysHindered lo (d - 1) (by omega) J1 G F hF vh1 ok (u := 60 * (k : Int)) (by omega) (by omega) (n := u.toNat) (by omega); rw [show ((u.toNat : Nat) : Int) = u by omega] at h7; exact h7) dX4_bestLag_43 mv_X4_daysHindered ml_X4_229 (by first | rfl | assumption) rfl (by first | decide | omega) rfl (by show d - 1 + 1 ≤ d; omega) (by show 19 + 6 + 35 * (d - 1) ≤ 35 * (d); omega) (Nat.le_of_ble_eq_true rfl) (Nat.le_of_ble_eq_true rfl) (Nat.le_of_ble_eq_true rfl) ?_
            rintro v I3 G3 F3 ⟨rfl, ⟨J2, rfl, hsb⟩, rfl, rfl⟩
            refine zG_istore X dX4_bestLag_46 (by decide) rfl ?_
            refine zG_iload X dX4_bestLag_48 rfl ?_
            refine zG_iload_n X dX4_bestLag_50 rfl ?_
            refine zj_icmp_ge X dX4_bestLag_51 (tgt := 60) (by decide) (by first | decide | omega) (by first | decide | omega) (fun h_51 => ?_) (fun h_51 => ?_)
            · refine zj_iinc X dX4_bestLag_60 rfl (by decide) rfl ?_
              refine zG_goto X dX4_bestLag_63 (tgt := 31) (by decide) ?_
              have hi := ih (k + 1) (by omega) J2 (sameB_tr hsb hj)
              rw [show (60 * ((k + 1 : Nat) : Int)) = 60 * (k : Int) + 60 by push_cast; omega] at hi
              first
                | (rw [hstep.trans (if_pos h_51)] at hi; exact zG_sub (zle_some (zle_some (zle_some (zle_some (zle_some (zle_none zle_nil)))))) hi)
                | (rw [hstep.trans (if_neg (by omega))] at hi; exact zG_sub (zle_some (zle_some (zle_some (zle_some (zle_some (zle_none zle_nil)))))) hi)
            · refine zG_iload X dX4_bestLag_54 rfl ?_
              refine zG_istore_n X dX4_bestLag_56 (by decide) rfl ?_
              refine zG_iload X dX4_bestLag_57 rfl ?_
              refine zG_istore_n X dX4_bestLag_59 (by decide) rfl ?_
              refine zj_iinc X dX4_bestLag_60 rfl (by decide) rfl ?_
              refine zG_goto X dX4_bestLag_63 (tgt := 31) (by decide) ?_
              have hi := ih (k + 1) (by omega) J2 (sameB_tr hsb hj)
              rw [show (60 * ((k + 1 : Nat) : Int)) = 60 * (k : Int) + 60 by push_cast; omega] at hi
              first
                | (rw [hstep.trans (if_pos h_51)] at hi; exact zG_sub (zle_some (zle_some (zle_some (zle_some (zle_some (zle_none zle_nil)))))) hi)
                | (rw [hstep.trans (if_neg (by omega))] at hi; exact zG_sub (zle_some (zle_some (zle_some (zle_some (zle_some (zle_none zle_nil)))))) hi)
      exact loop 12 0 (by omega) J sameB_rf
    · exact zG_throwS X Y hx rfl xE_a (by decide) dX4_bestLag_12 dX4_bestLag_15 dX4_bestLag_16 dX4_bestLag_18 dX4_bestLag_21 (by show 6 ≤ d; omega) (by show 0 + 82 ≤ 35 * d; omega) (Nat.le_of_ble_eq_true rfl) (Nat.le_of_ble_eq_true rfl) (Nat.le_of_ble_eq_true rfl) (Nat.le_of_ble_eq_true rfl) (⟨Or.inl ⟨if_pos (by omega), rfl⟩, rfl, rfl, rfl⟩)
def nmQ (hs : Nat → Int) (wd : Nat → Nat → Int) (u : Int) (n : Nat) : Bool := decide (∀ k, k < (hs 0).toNat → (u / 2 ^ k % 2 = 0 ∨ mvN wd (hs 0).toNat n (pT wd) k = wd k 2))
set_option maxHeartbeats 4000000 in
set_option maxRecDepth 100000 in
theorem k_X4_nextMeeting (lo d : Nat) (hd : 6 ≤ d) (J : Nat → Nat → Int) (G : Nat → Nat → Int64) (F : Nat → Nat → Option Nat) (hF : zFk F) {hs : Nat → Int} {wd : Nat → Nat → Int} (vh : vH J hs wd) (ok : hwOk hs wd) {u : Int} (hu : zr u) {N : Nat} (hN : N = 30001) : zCtX lo yX4_nextMeeting cX4_nextMeeting 3 (some .int) d 1 6 [.ref (lo + 0), .int (zI u)] (zM J) G F (zPI (if ¬ (0 < u ∧ u < 2 ^ (J 1 1).toNat) then 1 else 0) (fS (zfind (nmQ hs wd u) N 0) J G F)) (zPX (if ¬ (0 < u ∧ u < 2 ^ (J 1 1).toNat) then 1 else 0) "java/lang/IllegalArgumentException" "java/lang/IllegalArgumentException" (zM J) G F) := by
  refine zCtX.mk (by decide) (mv_X4_nextMeeting.2.2.2.1) (Nat.le_of_ble_eq_true rfl) ?_
  intro p l e s m args below meth c D cA X Y hx
  have hcf := ok.1
  unfold hOk at hcf
  have hJ3 : J 1 4 = hs 3 := vh.1 3 (by decide)
  have hJ13 : J 1 13 = hs 11 := vh.1 11 (by decide)
  have hJ0 : J 1 1 = hs 0 := vh.1 0 (by decide)
  have vb : vH (bsJ J 37 (hs 3) 1) hs wd := vH_bs vh (Or.inl rfl)
  have pk0 := psJ_ok vh ok (w := 37)
  have e3 : bsJ J 37 (hs 3) 1 37 3 = hs 3 := bsJ_3
  have e4 : decide (bsJ J 37 (hs 3) 1 37 4 = 1) = true := by rw [bsJ_4]; rfl
  have e4' : bsJ J 37 (hs 3) 1 37 4 = 0 ∨ bsJ J 37 (hs 3) 1 37 4 = 1 := Or.inr bsJ_4
  unfold zr at hu
  refine zG_aload_n X dX4_nextMeeting_0 rfl ?_
  refine zG_iload_n X dX4_nextMeeting_1 rfl ?_
  refine zj_callV1 (as2 := [_]) X (k_X4_isSet lo (d - 1) J G F hF (u := u) (by unfold zr; omega) (by omega) (by omega)) dX4_nextMeeting_2 mv_X4_isSet ml_X4_198 (by first | rfl | assumption) rfl (by first | decide | omega) rfl rfl (by show d - 1 + 1 ≤ d; omega) (by show 19 + 2 + 35 * (d - 1) ≤ 35 * (d); omega) (Nat.le_of_ble_eq_true rfl) (Nat.le_of_ble_eq_true rfl) (Nat.le_of_ble_eq_true rfl) ?_
  by_cases hb0 : 0 < u ∧ u < 2 ^ (J 1 1).toNat
  · rw [if_pos hb0]
    refine zj_if_ne X dX4_nextMeeting_5 (tgt := 18) (by decide) (by first | decide | omega) (fun h_5 => ?_) (fun h_5 => ?_)
    · refine zG_aload_n X dX4_nextMeeting_18 rfl ?_
      refine zG_getR X dX4_nextMeeting_19 fl_X4_25 (by first | rfl | assumption) (by first | decide | omega) (by decide) rfl (by first | exact zF_at hF rfl rfl | exact zF_at hF1 rfl rfl | assumption) ?_
      refine zj_callV0 (as2 := []) X (k_X2_startToday lo (d - 1) J G F hF (Or.inl rfl)) dX4_nextMeeting_22 mv_X2_startToday ml_X4_163 (by first | rfl | assumption) rfl (by first | decide | omega) rfl rfl (by show d - 1 + 1 ≤ d; omega) (by show 19 + 2 + 35 * (d - 1) ≤ 35 * (d); omega) (Nat.le_of_ble_eq_true rfl) (Nat.le_of_ble_eq_true rfl) (Nat.le_of_ble_eq_true rfl) ?_
      rw [stJ_wk, hJ3, hJ13]
      refine zj_iconst X dX4_nextMeeting_25 ?_
      refine zG_istore_n X dX4_nextMeeting_26 (by decide) rfl ?_
      have loop : ∀ (q k : Nat) (hall : zfind (nmQ hs wd u) N 0 = zfind (nmQ hs wd u) q k), k + q = N → zG p l e { frames := d, cells := 1, slots := 6, locals := 35 * d } s m args below meth c D cA lo 3 0 0 (vx_MQ below (zQ D cA lo 57 (zPI (if ¬ (0 < u ∧ u < 2 ^ (J 1 1).toNat) then 1 else 0) (fS (zfind (nmQ hs wd u) N 0) J G F))) (zXQ D cA lo (zPX (if ¬ (0 < u ∧ u < 2 ^ (J 1 1).toNat) then 1 else 0) "java/lang/IllegalArgumentException" "java/lang/IllegalArgumentException" (zM J) G F)) args s 1 6 (fun q => lo ≤ q)) 57 (zM (wkJ (bsJ J 37 (hs 3) 1) 37 (mvN wd (hs 0).toNat k (psJ J 37)) (hs 11))) G F [some (.ref (lo + 0)), some (.int (zI u)), some (.int (zI (k : Int)))] [] 27 := by
        intro q
        induction q with
        | zero =>
          intro k hall hk
          refine zG_iload_n X dX4_nextMeeting_27 rfl ?_
          refine zj_sipush X dX4_nextMeeting_28 (by decide) ?_
          refine zj_icmp_gt X dX4_nextMeeting_31 (tgt := 60) (by decide) (by first | decide | omega) (by first | decide | omega) (fun h_31 => ?_) (fun h_31 => ?_)
          · refine zj_iconst X dX4_nextMeeting_60 ?_
            refine zG_iretX X dX4_nextMeeting_61 rfl (Nat.le_of_ble_eq_true rfl) (Nat.le_of_ble_eq_true rfl) ?_
            exact ⟨if_neg (by omega), _, _, rfl, rfl, hall.symm, (sameB_wk (sameB_bs (Or.inl rfl)) (Or.inl rfl)), rfl, rfl⟩
          · exact absurd h_31 (by first | decide | omega)
        | succ q ih =>
          intro k hall hk
          have hcc : nmQ hs wd u k = true ↔ (∀ j, j < (hs 0).toNat → (u / 2 ^ j % 2 = 0 ∨ mvN wd (hs 0).toNat k (psJ J 37) j = wd j 2)) := by
            unfold nmQ
            rw [decide_eq_true_iff]
            have h5 := mvN_c5 ok.2 (show (hs 0).toNat ≤ 5 by omega) (psJ_5 vh (w := 37)) k
            exact ⟨fun z j hj => by rw [h5 j (by omega)]; exact z j hj, fun z j hj => by rw [← h5 j (by omega)]; exact z j hj⟩
          have hzf := zfs (nmQ hs wd u) q k
          refine zG_iload_n X dX4_nextMeeting_27 rfl ?_
          refine zj_sipush X dX4_nextMeeting_28 (by decide) ?_
          refine zj_icmp_gt X dX4_nextMeeting_31 (tgt := 60) (by decide) (by first | decide | omega) (by first | decide | omega) (fun h_31 => ?_) (fun h_31 => ?_)
          · exact absurd h_31 (by first | decide | omega)
          · refine zG_aload_n X dX4_nextMeeting_34 rfl ?_
            refine zG_getR X dX4_nextMeeting_35 fl_X4_25 (by first | rfl | assumption) (by first | decide | omega) (by decide) rfl (by first | exact zF_at hF rfl rfl | exact zF_at hF1 rfl rfl | assumption) ?_
            refine zG_iload_n X dX4_nextMeeting_38 rfl ?_
            refine zj_callV1 (as2 := [_]) X (k_meets lo (d - 1) (by omega) (bsJ J 37 (hs 3) 1) G F hF (ps := mvN wd (hs 0).toNat k (psJ J 37)) (wt := hs 11) vb ok (mvN_ok ok.2 (by omega) pk0 k) (by omega) (by unfold zr; omega)) dX4_nextMeeting_39 mv_X2_meets ml_X4_203 (by first | rfl | assumption) rfl (by first | decide | omega) rfl rfl (by show d - 1 + 1 ≤ d; omega) (by show 19 + 3 + 35 * (d - 1) ≤ 35 * (d); omega) (Nat.le_of_ble_eq_true rfl) (Nat.le_of_ble_eq_true rfl) (Nat.le_of_ble_eq_true rfl) ?_
            by_cases hb : ∀ j, j < (hs 0).toNat → (u / 2 ^ j % 2 = 0 ∨ mvN wd (hs 0).toNat k (psJ J 37) j = wd j 2)
            · rw [if_pos hb]
              refine zj_if_eq X dX4_nextMeeting_42 (tgt := 47) (by decide) (by first | decide | omega) (fun h_42 => ?_) (fun h_42 => ?_)
              · exact absurd h_42 (by first | decide | omega)
              · refine zG_iload_n X dX4_nextMeeting_45 rfl ?_
                refine zG_iretX X dX4_nextMeeting_46 rfl (Nat.le_of_ble_eq_true rfl) (Nat.le_of_ble_eq_true rfl) ?_
                exact ⟨if_neg (by omega), _, _, rfl, rfl, (by rw [hall, hzf, if_pos (hcc.mpr hb)]), (sameB_wk (sameB_bs (Or.inl rfl)) (Or.inl rfl)), rfl, rfl⟩
            · rw [if_neg hb]
              refine zj_if_eq X dX4_nextMeeting_42 (tgt := 47) (by decide) (by first | decide | omega) (fun h_42 => ?_) (fun h_42 => ?_)
              · refine zG_aload_n X dX4_nextMeeting_47 rfl ?_
                refine zG_getR X dX4_nextMeeting_48 fl_X4_25 (by first | rfl | assumption) (by first | decide | omega) (by decide) rfl (by first | exact zF_at hF rfl rfl | exact zF_at hF1 rfl rfl | assumption) ?_
                refine zj_callV0 (as2 := []) X (k_move lo (d - 1) (by omega) _ G F hF (Or.inl rfl) vb ok (mvN_ok ok.2 (by omega) pk0 k) e4') dX4_nextMeeting_51 mv_X2_moveWheels ml_X4_206 (by first | rfl | assumption) rfl (by first | decide | omega) rfl rfl (by show d - 1 + 1 ≤ d; omega) (by show 19 + 4 + 35 * (d - 1) ≤ 35 * (d); omega) (Nat.le_of_ble_eq_true rfl) (Nat.le_of_ble_eq_true rfl) (Nat.le_of_ble_eq_true rfl) ?_
                rw [e4]
                refine zj_iinc X dX4_nextMeeting_54 rfl (by decide) rfl ?_
                refine zG_goto X dX4_nextMeeting_57 (tgt := 27) (by decide) ?_
                exact ih (k + 1) (by rw [hall, hzf, if_neg (fun z => hb (hcc.mp z))]) (by omega)
              · exact absurd h_42 (by first | decide | omega)
      exact loop N 0 rfl (by omega)
    · exact absurd h_5 (by first | decide | omega)
  · rw [if_neg hb0]
    refine zj_if_ne X dX4_nextMeeting_5 (tgt := 18) (by decide) (by first | decide | omega) (fun h_5 => ?_) (fun h_5 => ?_)
    · exact absurd h_5 (by first | decide | omega)
    · exact zG_throwS X Y hx rfl xE_a (by decide) dX4_nextMeeting_8 dX4_nextMeeting_11 dX4_nextMeeting_12 dX4_nextMeeting_14 dX4_nextMeeting_17 (by show 6 ≤ d; omega) (by show 0 + 82 ≤ 35 * d; omega) (Nat.le_of_ble_eq_true rfl) (Nat.le_of_ble_eq_true rfl) (Nat.le_of_ble_eq_true rfl) (Nat.le_of_ble_eq_true rfl) (⟨Or.inl ⟨if_pos (by omega), rfl⟩, rfl, rfl, rfl⟩)
