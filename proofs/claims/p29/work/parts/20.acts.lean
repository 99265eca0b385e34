/-! the class's methods that may refuse: r = 0, or the number of the refusal -/
def zPX (r : Int) (e1 e2 : String) (I : Nat → Nat → Int32) (G : Nat → Nat → Int64) (F : Nat → Nat → Option Nat) : String → (Nat → Nat → Int32) → (Nat → Nat → Int64) → (Nat → Nat → Option Nat) → Prop := fun E I2 G2 F2 => (r = 1 ∧ E = e1 ∨ r = 2 ∧ E = e2) ∧ I2 = I ∧ G2 = G ∧ F2 = F
def zPI (r : Int) (Φ : Int → (Nat → Nat → Int) → (Nat → Nat → Int64) → (Nat → Nat → Option Nat) → Prop) : List Value → (Nat → Nat → Int32) → (Nat → Nat → Int64) → (Nat → Nat → Option Nat) → Prop := fun v I2 G2 F2 => r = 0 ∧ ∃ (a : Int) (J2 : Nat → Nat → Int), v = [.int (zI a)] ∧ I2 = zM J2 ∧ Φ a J2 G2 F2
def fS (A : Int) (J : Nat → Nat → Int) (G : Nat → Nat → Int64) (F : Nat → Nat → Option Nat) : Int → (Nat → Nat → Int) → (Nat → Nat → Int64) → (Nat → Nat → Option Nat) → Prop := fun a J2 G2 F2 => a = A ∧ sameB J2 J ∧ G2 = G ∧ F2 = F
/-- .. that saves first: what is behind it is f of what save left -/
def fV (A : Int) (J : Nat → Nat → Int) (G : Nat → Nat → Int64) (F : Nat → Nat → Option Nat) (b : Nat → Nat) (f : (Nat → Nat → Int) → (Nat → Nat → Int)) (g : (Nat → Nat → Int64) → (Nat → Nat → Int64)) : Int → (Nat → Nat → Int) → (Nat → Nat → Int64) → (Nat → Nat → Option Nat) → Prop := fun a J2 G2 F2 =>
  a = A ∧ ∃ (J1 : Nat → Nat → Int) (G1 : Nat → Nat → Int64) (b1 : Nat → Nat), J2 = f J1 ∧ G2 = g G1 ∧ zFk F2 ∧ bOk F2 b1 ∧ (∀ x i, x ≠ 8 → F2 x i = F x i) ∧ svR J G b J1 G1 b1
set_option maxHeartbeats 4000000 in
set_option maxRecDepth 100000 in
theorem k_X4_value (lo d : Nat) (hd : 6 ≤ d) (J : Nat → Nat → Int) (G : Nat → Nat → Int64) (F : Nat → Nat → Option Nat) (hF : zFk F) {u : Int} (hu : zr u) : zCtX lo yX4_value cX4_value 2 (some .int) d 1 6 [.ref (lo + 0), .int (zI u)] (zM J) G F (zPI (if u < 0 ∨ 13 < u then 1 else 0) (fS (tnC J G u) J G F)) (zPX (if u < 0 ∨ 13 < u then 1 else 0) "java/lang/IllegalArgumentException" "java/lang/IllegalArgumentException" (zM J) G F) := by
  refine zCtX.mk (by decide) (mv_X4_value.2.2.2.1) (Nat.le_of_ble_eq_true rfl) ?_
  intro p l e s m args below meth c D cA X Y hx
  unfold zr at hu
  refine zG_iload_n X dX4_value_0 rfl ?_
  refine zj_if_lt X dX4_value_1 (tgt := 10) (by decide) (by first | decide | omega) (fun h_1 => ?_) (fun h_1 => ?_)
  · exact zG_throwS X Y hx rfl xE_a (by decide) dX4_value_10 dX4_value_13 dX4_value_14 dX4_value_16 dX4_value_19 (by show 6 ≤ d; omega) (by show 0 + 82 ≤ 35 * d; omega) (Nat.le_of_ble_eq_true rfl) (Nat.le_of_ble_eq_true rfl) (Nat.le_of_ble_eq_true rfl) (Nat.le_of_ble_eq_true rfl) (⟨Or.inl ⟨if_pos (by omega), rfl⟩, rfl, rfl, rfl⟩)
  · refine zG_iload_n X dX4_value_4 rfl ?_
    refine zj_bipush X dX4_value_5 (by decide) ?_
    refine zj_icmp_le X dX4_value_7 (tgt := 20) (by decide) (by first | decide | omega) (by first | decide | omega) (fun h_7 => ?_) (fun h_7 => ?_)
    · refine zG_aload_n X dX4_value_20 rfl ?_
      refine zG_getR X dX4_value_21 fl_X4_10 (by first | rfl | assumption) (by first | decide | omega) (by decide) rfl (by first | exact zF_at hF rfl rfl | exact zF_at hF1 rfl rfl | assumption) ?_
      refine zG_iload_n X dX4_value_24 rfl ?_
      refine zj_callV1 (as2 := [_]) X (k_X0_tellNumber lo (d - 1) (by omega) J G F (by omega) (by omega)) dX4_value_25 mv_X0_tellNumber ml_X4_186 (by first | rfl | assumption) rfl (by first | decide | omega) rfl rfl (by show d - 1 + 1 ≤ d; omega) (by show 19 + 2 + 35 * (d - 1) ≤ 35 * (d); omega) (Nat.le_of_ble_eq_true rfl) (Nat.le_of_ble_eq_true rfl) (Nat.le_of_ble_eq_true rfl) ?_
      refine zG_iretX X dX4_value_28 rfl (Nat.le_of_ble_eq_true rfl) (Nat.le_of_ble_eq_true rfl) ?_
      exact ⟨if_neg (by omega), _, _, rfl, rfl, rfl, sameB_rf, rfl, rfl⟩
    · exact zG_throwS X Y hx rfl xE_a (by decide) dX4_value_10 dX4_value_13 dX4_value_14 dX4_value_16 dX4_value_19 (by show 6 ≤ d; omega) (by show 0 + 82 ≤ 35 * d; omega) (Nat.le_of_ble_eq_true rfl) (Nat.le_of_ble_eq_true rfl) (Nat.le_of_ble_eq_true rfl) (Nat.le_of_ble_eq_true rfl) (⟨Or.inl ⟨if_pos (by omega), rfl⟩, rfl, rfl, rfl⟩)
set_option maxHeartbeats 4000000 in
set_option maxRecDepth 100000 in
theorem k_X4_highWater (lo d : Nat) (hd : 6 ≤ d) (J : Nat → Nat → Int) (G : Nat → Nat → Int64) (F : Nat → Nat → Option Nat) (hF : zFk F) {hs : Nat → Int} {wd : Nat → Nat → Int} (vh : vH J hs wd) (ok : hwOk hs wd) {u : Int} (hu : zr u) : zCtX lo yX4_highWater cX4_highWater 2 (some .int) d 1 6 [.ref (lo + 0), .int (zI u)] (zM J) G F (zPI (if u < 0 ∨ 1000 < u then 1 else 0) (fS (hwR hs wd u.toNat) J G F)) (zPX (if u < 0 ∨ 1000 < u then 1 else 0) "java/lang/IllegalArgumentException" "java/lang/IllegalArgumentException" (zM J) G F) := by
  refine zCtX.mk (by decide) (mv_X4_highWater.2.2.2.1) (Nat.le_of_ble_eq_true rfl) ?_
  intro p l e s m args below meth c D cA X Y hx
  unfold zr at hu
  refine zG_iload_n X dX4_highWater_0 rfl ?_
  refine zj_if_lt X dX4_highWater_1 (tgt := 11) (by decide) (by first | decide | omega) (fun h_1 => ?_) (fun h_1 => ?_)
  · exact zG_throwS X Y hx rfl xE_a (by decide) dX4_highWater_11 dX4_highWater_14 dX4_highWater_15 dX4_highWater_17 dX4_highWater_20 (by show 6 ≤ d; omega) (by show 0 + 82 ≤ 35 * d; omega) (Nat.le_of_ble_eq_true rfl) (Nat.le_of_ble_eq_true rfl) (Nat.le_of_ble_eq_true rfl) (Nat.le_of_ble_eq_true rfl) (⟨Or.inl ⟨if_pos (by omega), rfl⟩, rfl, rfl, rfl⟩)
  · refine zG_iload_n X dX4_highWater_4 rfl ?_
    refine zj_sipush X dX4_highWater_5 (by decide) ?_
    refine zj_icmp_le X dX4_highWater_8 (tgt := 21) (by decide) (by first | decide | omega) (by first | decide | omega) (fun h_8 => ?_) (fun h_8 => ?_)
    · refine zG_aload_n X dX4_highWater_21 rfl ?_
      refine zG_iload_n X dX4_highWater_22 rfl ?_
      refine zG_callV (as2 := [_]) rfl X (by have h7 := k_X4_highWaterOn lo (d - 1) (by omega) J G F hF vh ok (n := u.toNat) (by omega); rw [show ((u.toNat : Nat) : Int) = u by omega] at h7; exact h7) dX4_highWater_23 mv_X4_highWaterOn ml_X4_192 (by first | rfl | assumption) rfl (by first | decide | omega) rfl (by show d - 1 + 1 ≤ d; omega) (by show 19 + 3 + 35 * (d - 1) ≤ 35 * (d); omega) (Nat.le_of_ble_eq_true rfl) (Nat.le_of_ble_eq_true rfl) (Nat.le_of_ble_eq_true rfl) ?_
      rintro v I3 G3 F3 ⟨rfl, ⟨J2, rfl, hsb⟩, rfl, rfl⟩
      refine zG_iretX X dX4_highWater_26 rfl (Nat.le_of_ble_eq_true rfl) (Nat.le_of_ble_eq_true rfl) ?_
      exact ⟨if_neg (by omega), _, _, rfl, rfl, rfl, hsb, rfl, rfl⟩
    · exact zG_throwS X Y hx rfl xE_a (by decide) dX4_highWater_11 dX4_highWater_14 dX4_highWater_15 dX4_highWater_17 dX4_highWater_20 (by show 6 ≤ d; omega) (by show 0 + 82 ≤ 35 * d; omega) (Nat.le_of_ble_eq_true rfl) (Nat.le_of_ble_eq_true rfl) (Nat.le_of_ble_eq_true rfl) (Nat.le_of_ble_eq_true rfl) (⟨Or.inl ⟨if_pos (by omega), rfl⟩, rfl, rfl, rfl⟩)
set_option maxHeartbeats 4000000 in
set_option maxRecDepth 100000 in
theorem k_X4_market (lo d : Nat) (hd : 6 ≤ d) (J : Nat → Nat → Int) (G : Nat → Nat → Int64) (F : Nat → Nat → Option Nat) (hF : zFk F) {hs : Nat → Int} {wd : Nat → Nat → Int} (vh : vH J hs wd) (ok : hwOk hs wd) {u : Int} (hu : zr u) : zCtX lo yX4_market cX4_market 2 (some .int) d 1 6 [.ref (lo + 0), .int (zI u)] (zM J) G F (zPI (if u < 0 ∨ 1000 < u then 1 else 0) (fS (mkR hs wd (sbC G 1) u.toNat) J G F)) (zPX (if u < 0 ∨ 1000 < u then 1 else 0) "java/lang/IllegalArgumentException" "java/lang/IllegalArgumentException" (zM J) G F) := by
  refine zCtX.mk (by decide) (mv_X4_market.2.2.2.1) (Nat.le_of_ble_eq_true rfl) ?_
  intro p l e s m args below meth c D cA X Y hx
  unfold zr at hu
  refine zG_iload_n X dX4_market_0 rfl ?_
  refine zj_if_lt X dX4_market_1 (tgt := 11) (by decide) (by first | decide | omega) (fun h_1 => ?_) (fun h_1 => ?_)
  · exact zG_throwS X Y hx rfl xE_a (by decide) dX4_market_11 dX4_market_14 dX4_market_15 dX4_market_17 dX4_market_20 (by show 6 ≤ d; omega) (by show 0 + 82 ≤ 35 * d; omega) (Nat.le_of_ble_eq_true rfl) (Nat.le_of_ble_eq_true rfl) (Nat.le_of_ble_eq_true rfl) (Nat.le_of_ble_eq_true rfl) (⟨Or.inl ⟨if_pos (by omega), rfl⟩, rfl, rfl, rfl⟩)
  · refine zG_iload_n X dX4_market_4 rfl ?_
    refine zj_sipush X dX4_market_5 (by decide) ?_
    refine zj_icmp_le X dX4_market_8 (tgt := 21) (by decide) (by first | decide | omega) (by first | decide | omega) (fun h_8 => ?_) (fun h_8 => ?_)
    · refine zG_aload_n X dX4_market_21 rfl ?_
      refine zG_iload_n X dX4_market_22 rfl ?_
      refine zG_callV (as2 := [_]) rfl X (by have h7 := k_X4_marketOn lo (d - 1) (by omega) J G F hF vh ok (n := u.toNat) (by omega); rw [show ((u.toNat : Nat) : Int) = u by omega] at h7; exact h7) dX4_market_23 mv_X4_marketOn ml_X4_195 (by first | rfl | assumption) rfl (by first | decide | omega) rfl (by show d - 1 + 1 ≤ d; omega) (by show 19 + 3 + 35 * (d - 1) ≤ 35 * (d); omega) (Nat.le_of_ble_eq_true rfl) (Nat.le_of_ble_eq_true rfl) (Nat.le_of_ble_eq_true rfl) ?_
      rintro v I3 G3 F3 ⟨rfl, ⟨J2, rfl, hsb⟩, rfl, rfl⟩
      refine zG_iretX X dX4_market_26 rfl (Nat.le_of_ble_eq_true rfl) (Nat.le_of_ble_eq_true rfl) ?_
      exact ⟨if_neg (by omega), _, _, rfl, rfl, rfl, hsb, rfl, rfl⟩
    · exact zG_throwS X Y hx rfl xE_a (by decide) dX4_market_11 dX4_market_14 dX4_market_15 dX4_market_17 dX4_market_20 (by show 6 ≤ d; omega) (by show 0 + 82 ≤ 35 * d; omega) (Nat.le_of_ble_eq_true rfl) (Nat.le_of_ble_eq_true rfl) (Nat.le_of_ble_eq_true rfl) (Nat.le_of_ble_eq_true rfl) (⟨Or.inl ⟨if_pos (by omega), rfl⟩, rfl, rfl, rfl⟩)
set_option maxHeartbeats 4000000 in
set_option maxRecDepth 100000 in
theorem k_X4_wheel (lo d : Nat) (hd : 6 ≤ d) (J : Nat → Nat → Int) (G : Nat → Nat → Int64) (F : Nat → Nat → Option Nat) (hF : zFk F) (hc : cOk J 1) {u v : Int} (hu : zr u) (hv : zr v) : zCtX lo yX4_wheel cX4_wheel 3 (some .int) d 1 6 [.ref (lo + 0), .int (zI u), .int (zI v)] (zM J) G F (zPI (if ¬ (0 ≤ u ∧ u < J 1 1) then 1 else if v < 0 ∨ 6 < v then 2 else 0) (fS (if v = 6 then (J (3 + u.toNat) 6 + (J 1 2 - J 1 14)) % J (3 + u.toNat) 0 else J (3 + u.toNat) v.toNat) J G F)) (zPX (if ¬ (0 ≤ u ∧ u < J 1 1) then 1 else if v < 0 ∨ 6 < v then 2 else 0) "java/lang/IndexOutOfBoundsException" "java/lang/IllegalArgumentException" (zM J) G F) := by
  refine zCtX.mk (by decide) (mv_X4_wheel.2.2.2.1) (Nat.le_of_ble_eq_true rfl) ?_
  intro p l e s m args below meth c D cA X Y hx
  have hcf := cOk_f hc
  unfold zr at hu hv
  refine zG_aload_n X dX4_wheel_0 rfl ?_
  refine zG_getR X dX4_wheel_1 fl_X4_10 (by first | rfl | assumption) (by first | decide | omega) (by decide) rfl (by first | exact zF_at hF rfl rfl | exact zF_at hF1 rfl rfl | assumption) ?_
  refine zG_iload_n X dX4_wheel_4 rfl ?_
  refine zj_callV1 (as2 := [_]) X (k_X0_has lo (d - 1) J G F (k := u) (by omega) (by omega)) dX4_wheel_5 mv_X0_has ml_X4_85 (by first | rfl | assumption) rfl (by first | decide | omega) rfl rfl (by show d - 1 + 1 ≤ d; omega) (by show 19 + 2 + 35 * (d - 1) ≤ 35 * (d); omega) (Nat.le_of_ble_eq_true rfl) (Nat.le_of_ble_eq_true rfl) (Nat.le_of_ble_eq_true rfl) ?_
  by_cases hb : 0 ≤ u ∧ u < J 1 1
  · rw [if_pos hb]
    have hku : u.toNat < 5 := by omega
    have hw1 := cOk_w1 hc hku
    have hsw := zSh_w hku
    have hnw : 3 + u.toNat < 57 := by omega
    have hfw := zF_w1 hF hku
    refine zj_if_ne X dX4_wheel_8 (tgt := 21) (by decide) (by first | decide | omega) (fun h_8 => ?_) (fun h_8 => ?_)
    · refine zG_iload_n X dX4_wheel_21 rfl ?_
      refine zj_if_lt X dX4_wheel_22 (tgt := 31) (by decide) (by first | decide | omega) (fun h_22 => ?_) (fun h_22 => ?_)
      · exact zG_throwS X Y hx rfl xE_a (by decide) dX4_wheel_31 dX4_wheel_34 dX4_wheel_35 dX4_wheel_37 dX4_wheel_40 (by show 6 ≤ d; omega) (by show 0 + 82 ≤ 35 * d; omega) (Nat.le_of_ble_eq_true rfl) (Nat.le_of_ble_eq_true rfl) (Nat.le_of_ble_eq_true rfl) (Nat.le_of_ble_eq_true rfl) (⟨Or.inr ⟨(if_neg (by omega)).trans (if_pos (by omega)), rfl⟩, rfl, rfl, rfl⟩)
      · refine zG_iload_n X dX4_wheel_25 rfl ?_
        refine zj_bipush X dX4_wheel_26 (by decide) ?_
        refine zj_icmp_le X dX4_wheel_28 (tgt := 41) (by decide) (by first | decide | omega) (by first | decide | omega) (fun h_28 => ?_) (fun h_28 => ?_)
        · refine zG_aload_n X dX4_wheel_41 rfl ?_
          refine zG_getR X dX4_wheel_42 fl_X4_10 (by first | rfl | assumption) (by first | decide | omega) (by decide) rfl (by first | exact zF_at hF rfl rfl | exact zF_at hF1 rfl rfl | assumption) ?_
          refine zG_aload_n X dX4_wheel_45 rfl ?_
          refine zG_getR X dX4_wheel_46 fl_X4_10 (by first | rfl | assumption) (by first | decide | omega) (by decide) rfl (by first | exact zF_at hF rfl rfl | exact zF_at hF1 rfl rfl | assumption) ?_
          refine zG_getR X dX4_wheel_49 fl_X4_62 (by first | rfl | assumption) (by first | decide | omega) (by decide) rfl (by first | exact zF_at hF rfl rfl | exact zF_at hF1 rfl rfl | assumption) ?_
          refine zG_iload_n X dX4_wheel_52 rfl ?_
          refine zj_aaload5 X dX4_wheel_53 (by first | rfl | assumption) (by first | decide | omega) (u.toNat) (by omega) (by omega) (hfw) ?_
          refine zG_iload_n X dX4_wheel_54 rfl ?_
          refine zj_callV1 (as2 := [_, _]) X (k_X0_tellWheel lo (d - 1) (by omega) J G F hsw hnw (q := v) (by omega) (by omega) (by omega) (by omega) (by omega)) dX4_wheel_55 mv_X0_tellWheel ml_X4_182 (by first | rfl | assumption) rfl (by first | decide | omega) rfl rfl (by show d - 1 + 1 ≤ d; omega) (by show 19 + 3 + 35 * (d - 1) ≤ 35 * (d); omega) (Nat.le_of_ble_eq_true rfl) (Nat.le_of_ble_eq_true rfl) (Nat.le_of_ble_eq_true rfl) ?_
          refine zG_iretX X dX4_wheel_58 rfl (Nat.le_of_ble_eq_true rfl) (Nat.le_of_ble_eq_true rfl) ?_
          exact ⟨(if_neg (by omega)).trans (if_neg (by omega)), _, _, rfl, rfl, rfl, sameB_rf, rfl, rfl⟩
        · exact zG_throwS X Y hx rfl xE_a (by decide) dX4_wheel_31 dX4_wheel_34 dX4_wheel_35 dX4_wheel_37 dX4_wheel_40 (by show 6 ≤ d; omega) (by show 0 + 82 ≤ 35 * d; omega) (Nat.le_of_ble_eq_true rfl) (Nat.le_of_ble_eq_true rfl) (Nat.le_of_ble_eq_true rfl) (Nat.le_of_ble_eq_true rfl) (⟨Or.inr ⟨(if_neg (by omega)).trans (if_pos (by omega)), rfl⟩, rfl, rfl, rfl⟩)
    · exact absurd h_8 (by first | decide | omega)
  · rw [if_neg hb]
    refine zj_if_ne X dX4_wheel_8 (tgt := 21) (by decide) (by first | decide | omega) (fun h_8 => ?_) (fun h_8 => ?_)
    · exact absurd h_8 (by first | decide | omega)
    · exact zG_throwS X Y hx rfl xE_i (by decide) dX4_wheel_11 dX4_wheel_14 dX4_wheel_15 dX4_wheel_17 dX4_wheel_20 (by show 6 ≤ d; omega) (by show 0 + 82 ≤ 35 * d; omega) (Nat.le_of_ble_eq_true rfl) (Nat.le_of_ble_eq_true rfl) (Nat.le_of_ble_eq_true rfl) (Nat.le_of_ble_eq_true rfl) (⟨Or.inl ⟨if_pos (by omega), rfl⟩, rfl, rfl, rfl⟩)
