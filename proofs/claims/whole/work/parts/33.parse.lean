/-! parse -/
def tkJ (n : Int) (J : Nat → Nat → Int) : Nat → Nat → Int := prA (zup (zup (zup (cpWs (zup J 1 1 n) 3 43 n.toNat) 1 3 0) 1 5 0) 1 13 0)
theorem bOk41 {F : Nat → Nat → Option Nat} {b : Nat → Nat} {x : Option Nat} (hb : bOk F b) : bOk (zup F 41 2 x) b := ⟨fun i hi => by rw [zup_ot (by decide)]; exact hb.1 i hi, hb.2⟩
theorem tkJ_1 {n : Int} {J : Nat → Nat → Int} : tkJ n J 1 1 = n := by
  simp [tkJ, prA, prW, zup, cpWs]
def paP (J : Nat → Nat → Int) (G : Nat → Nat → Int64) (F : Nat → Nat → Option Nat) (b : Nat → Nat) (R : Nat → Nat → Int) : List Value → (Nat → Nat → Int32) → (Nat → Nat → Int64) → (Nat → Nat → Option Nat) → Prop := fun v I2 G2 F2 =>
  if R 41 5 = -1 then v = [.int (zI (R 41 1))] ∧ ∃ (J1 : Nat → Nat → Int) (G1 : Nat → Nat → Int64) (b1 : Nat → Nat), I2 = zM (tkJ (R 41 1) J1) ∧ G2 = zup G1 1 9 0 ∧ zFk F2 ∧ bOk F2 b1 ∧ F2 41 2 = some 49 ∧ svR R G b J1 G1 b1
  else v = [.int (zI (-10 - R 41 5))] ∧ I2 = zM R ∧ G2 = G ∧ F2 = zup F 41 2 (some 49)
theorem rwR_e {J : Nat → Nat → Int} {n : Int} (htx : ∀ i, 0 ≤ J 49 i ∧ J 49 i ≤ 127) (h1 : 0 ≤ n) (h2 : n ≤ 90) (hrw : rwOk J) : -1 ≤ rwR J n 41 5 ∧ rwR J n 41 5 ≤ 90 := by
  have key : ∀ (f k : Nat) (Jc : Nat → Nat → Int), k + f ≤ 5 → rdOk Jc (fun _ _ => some 49) → rwOk Jc → rdOk (rwL f k Jc) (fun _ _ => some 49) := by
    intro f
    induction f with
    | zero => intro k Jc _ h _; exact h
    | succ f ih =>
      intro k Jc hk h hw
      rw [rwL_s]
      split
      · have hst := rwStep_ok (k := k) (v := (k : Int) + 1) h (by omega) hw
        exact ih (k + 1) _ (by omega) hst.1 hst.2
      · exact h
  have hr := key 5 0 (rw0 J n) (by decide) (rw0_ok rfl htx h1 h2) (fun j hj => by rw [rw0_o (by omega)]; exact hrw j hj)
  have hr2 := hr
  obtain ⟨ht, htx9, ha1, ha2, hl1, hl2, he1, he2⟩ := hr2
  have hE : rdOk (rwE (rwL 5 0 (rw0 J n))) (fun _ _ => some 49) := by
    unfold rwE
    split
    · exact rdOk_F hr (by omega) ha2
    · exact hr
  obtain ⟨-, -, -, -, -, -, q1, q2⟩ := hE
  exact ⟨q1, q2⟩
set_option maxHeartbeats 4000000 in
set_option maxRecDepth 100000 in
theorem k_X4_parse (lo d : Nat) (hd : 6 ≤ d) (J : Nat → Nat → Int) (G : Nat → Nat → Int64) (F : Nat → Nat → Option Nat) (hFo : zFk F) {b : Nat → Nat} (hb : bOk F b) (hs1 : 0 ≤ J 0 2) (hs2 : J 0 2 ≤ 4) (htx : ∀ i, 0 ≤ J 49 i ∧ J 49 i ≤ 127) (h1 : 0 ≤ J 0 7) (h2 : J 0 7 ≤ 90) (hrw : rwOk J) : zCt lo yX4_parse cX4_parse 2 (some .int) d 0 0 [.ref (lo + 0)] 57 57 (zM J) G F (paP J G F b (rwR J (J 0 7))) := by
  refine zCt.mk (by decide) (mv_X4_parse.2.2.2.1) (Nat.le_of_ble_eq_true rfl) ?_
  intro p l e s m args below meth c D cA X
  have hF : zFk (zup F 41 2 (some 49)) := zFk41 hFo
  have hb2 := bOk41 (x := some 49) hb
  have e02 : (rwR J (J 0 7)) 0 2 = J 0 2 := rwR_o (by decide) (by decide)
  have hrc := rwR_c (J := J) (n := J 0 7)
  have hre : zr ((rwR J (J 0 7)) 41 5) := by
    have h0 := rwR_e (J := J) (n := J 0 7) htx h1 h2 hrw
    unfold zr
    omega
  refine zG_aload_n X dX4_parse_0 rfl ?_
  refine zG_getR X dX4_parse_1 fl_X4_35 (by first | rfl | assumption) (by first | decide | omega) (by decide) rfl (by exact zF_at hFo rfl rfl) ?_
  refine zG_aload_n X dX4_parse_4 rfl ?_
  refine zG_getR X dX4_parse_5 fl_X4_39 (by first | rfl | assumption) (by first | decide | omega) (by decide) rfl (by exact zF_at hFo rfl rfl) ?_
  refine zG_aload_n X dX4_parse_8 rfl ?_
  refine zj_get X dX4_parse_9 fl_X4_237 (by first | rfl | assumption) (by first | decide | omega) (by decide) rfl ?_
  refine zj_callV1 (as2 := [_, _]) X (k_X1_readWheels lo (d - 1) (by omega) J G F hFo htx h1 h2 hrw) dX4_parse_12 mv_X1_readWheels ml_X4_242 (by first | rfl | assumption) rfl (by first | decide | omega) rfl rfl (by show d - 1 + 1 ≤ d; omega) (by show 19 + 4 + 35 * (d - 1) ≤ 35 * (d); omega) (Nat.le_of_ble_eq_true rfl) (Nat.le_of_ble_eq_true rfl) (Nat.le_of_ble_eq_true rfl) ?_
  refine zG_istore_n X dX4_parse_15 (by decide) rfl ?_
  refine zG_iload_n X dX4_parse_16 rfl ?_
  refine zj_iconst X dX4_parse_17 ?_
  refine zj_icmp_eq X dX4_parse_18 (tgt := 26) (by decide) (by first | decide | omega) (by first | decide | omega) (fun h_18 => ?_) (fun h_18 => ?_)
  · refine zG_aload_n X dX4_parse_26 rfl ?_
    refine zG_callV (as2 := []) rfl X (k_X4_save lo (d - 1) (by omega) (rwR J (J 0 7)) G (zup F 41 2 (some 49)) hF hb2 (by rw [e02]; exact hs1) (by rw [e02]; exact hs2)) dX4_parse_27 mv_X4_save ml_X4_59 (by first | rfl | assumption) rfl (by first | decide | omega) rfl (by show d - 1 + 1 ≤ d; omega) (by show 19 + 1 + 35 * (d - 1) ≤ 35 * (d); omega) (Nat.le_of_ble_eq_true rfl) (Nat.le_of_ble_eq_true rfl) (Nat.le_of_ble_eq_true rfl) ?_
    rintro v9 I3 G1 F1 ⟨rfl, J1, b1, rfl, hF1, hb1, h41, hsv⟩
    have hq := hsv.2.2.2.1
    have hqg := hsv.2.2.2.2
    refine zG_aload_n X dX4_parse_30 rfl ?_
    refine zG_getR X dX4_parse_31 fl_X4_10 (by first | rfl | assumption) (by first | decide | omega) (by decide) rfl (by exact zF_at hF1 rfl rfl) ?_
    refine zG_aload_n X dX4_parse_34 rfl ?_
    refine zG_getR X dX4_parse_35 fl_X4_35 (by first | rfl | assumption) (by first | decide | omega) (by decide) rfl (by exact zF_at hF1 rfl rfl) ?_
    refine zG_getR X dX4_parse_38 fl_X4_246 (by first | rfl | assumption) (by first | decide | omega) (by decide) rfl (by exact zF_at hF1 rfl rfl) ?_
    refine zG_aload_n X dX4_parse_41 rfl ?_
    refine zG_getR X dX4_parse_42 fl_X4_35 (by first | rfl | assumption) (by first | decide | omega) (by decide) rfl (by exact zF_at hF1 rfl rfl) ?_
    refine zj_getv (v := (rwR J (J 0 7)) 41 1) X dX4_parse_45 fl_X4_247 (by first | rfl | assumption) (by first | decide | omega) (by decide) rfl (by exact hq 41 1 (by decide) (Or.inr (by decide))) ?_
    refine zj_callV0 (as2 := [_, _]) X (k_X0_takeWheels lo (d - 1) (by omega) J1 G1 F1 hF1 (n := (rwR J (J 0 7)) 41 1) hrc.1 hrc.2) dX4_parse_48 mv_X0_takeWheels ml_X4_248 (by first | rfl | assumption) rfl (by first | decide | omega) rfl rfl (by show d - 1 + 1 ≤ d; omega) (by show 19 + 4 + 35 * (d - 1) ≤ 35 * (d); omega) (Nat.le_of_ble_eq_true rfl) (Nat.le_of_ble_eq_true rfl) (Nat.le_of_ble_eq_true rfl) ?_
    rw [show (prA (zup (zup (zup (cpWs (zup J1 1 1 ((rwR J (J 0 7)) 41 1)) 3 43 ((rwR J (J 0 7)) 41 1).toNat) 1 3 0) 1 5 0) 1 13 0)) = tkJ ((rwR J (J 0 7)) 41 1) J1 from rfl]
    refine zG_aload_n X dX4_parse_51 rfl ?_
    refine zG_getR X dX4_parse_52 fl_X4_10 (by first | rfl | assumption) (by first | decide | omega) (by decide) rfl (by exact zF_at hF1 rfl rfl) ?_
    refine zj_getv (v := (rwR J (J 0 7)) 41 1) X dX4_parse_55 fl_X4_50 (by first | rfl | assumption) (by first | decide | omega) (by decide) rfl (by exact tkJ_1) ?_
    refine zG_iret X dX4_parse_58 rfl ?_
    unfold paP
    rw [if_pos h_18]
    exact ⟨rfl, J1, G1, b1, rfl, rfl, hF1, hb1, by rw [h41]; simp [zup], hsv⟩
  · refine zj_bipush X dX4_parse_21 (by decide) ?_
    refine zG_iload_n X dX4_parse_23 rfl ?_
    refine zj_isub X dX4_parse_24 ?_
    refine zG_iret X dX4_parse_25 rfl ?_
    unfold paP
    rw [if_neg h_18]
    exact ⟨rfl, rfl, rfl, rfl⟩
