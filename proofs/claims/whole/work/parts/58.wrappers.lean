/-! the law's wrappers: call the class, catch what it throws, tell which -/
def zWI (r : Int) (Φ : Int → (Nat → Nat → Int) → (Nat → Nat → Int64) → (Nat → Nat → Option Nat) → Prop) (J : Nat → Nat → Int) (G : Nat → Nat → Int64) (F : Nat → Nat → Option Nat) : List Value → (Nat → Nat → Int32) → (Nat → Nat → Int64) → (Nat → Nat → Option Nat) → Prop := fun v I2 G2 F2 =>
  v = [.int (zI r)] ∧ ((r ≠ 0 ∧ I2 = zM J ∧ G2 = G ∧ F2 = F) ∨ (r = 0 ∧ ∃ (a : Int) (J2 : Nat → Nat → Int) (G3 : Nat → Nat → Int64), I2 = zM J2 ∧ G2 = zup G3 56 0 ((zI a).toInt64) ∧ Φ a J2 G3 F2))
def zWL (r : Int) (Φ : Int → (Nat → Nat → Int) → (Nat → Nat → Int64) → (Nat → Nat → Option Nat) → Prop) (J : Nat → Nat → Int) (G : Nat → Nat → Int64) (F : Nat → Nat → Option Nat) : List Value → (Nat → Nat → Int32) → (Nat → Nat → Int64) → (Nat → Nat → Option Nat) → Prop := fun v I2 G2 F2 =>
  v = [.int (zI r)] ∧ ((r ≠ 0 ∧ I2 = zM J ∧ G2 = G ∧ F2 = F) ∨ (r = 0 ∧ ∃ (a : Int) (J2 : Nat → Nat → Int) (G3 : Nat → Nat → Int64), I2 = zM J2 ∧ G2 = zup G3 56 0 (lI a) ∧ Φ a J2 G3 F2))
theorem cast_a : Cond.castable "java/lang/IllegalArgumentException" "java/lang/IllegalArgumentException" ∈ lw_tbl := (List.mem_of_getElem? (i := 509) (by decide +kernel))
theorem cast_s : Cond.castable "java/lang/IllegalStateException" "java/lang/IllegalStateException" ∈ lw_tbl := (List.mem_of_getElem? (i := 576) (by decide +kernel))
theorem cast_i : Cond.castable "java/lang/IndexOutOfBoundsException" "java/lang/IndexOutOfBoundsException" ∈ lw_tbl := (List.mem_of_getElem? (i := 603) (by decide +kernel))
theorem lkL_13 : Cond.classLink RL 13 "java/lang/IllegalArgumentException" ∈ lw_tbl := (List.mem_of_getElem? (i := 501) (by decide +kernel))
theorem lkL_15 : Cond.classLink RL 15 "java/lang/IllegalStateException" ∈ lw_tbl := (List.mem_of_getElem? (i := 502) (by decide +kernel))
theorem lkL_21 : Cond.classLink RL 21 "java/lang/IndexOutOfBoundsException" ∈ lw_tbl := (List.mem_of_getElem? (i := 595) (by decide +kernel))
theorem iniL : Cond.initialized RL ∈ lw_tbl := (List.mem_of_getElem? (i := 76) (by decide +kernel))
theorem wl_addWheel : Cond.static yL_addWheel ∈ lw_tbl ∧ Cond.codeWith yL_addWheel cL_addWheel 5 (some .int) [(0, 10, 13, 13), (0, 10, 17, 15)] ∈ lw_tbl ∧ (parseMethodDescriptor yL_addWheel.desc).map (fun d => d.parameters.length) = some 4 := ⟨(List.mem_of_getElem? (i := 499) (by decide +kernel)), (List.mem_of_getElem? (i := 500) (by decide +kernel)), by decide +kernel⟩
set_option maxHeartbeats 4000000 in
set_option maxRecDepth 100000 in
theorem k_L_addWheel (lo d : Nat) (hd : 1 ≤ d) (J : Nat → Nat → Int) (G : Nat → Nat → Int64) (F : Nat → Nat → Option Nat) {x0 x1 : Int32} {r : Int} {Φ : Int → (Nat → Nat → Int) → (Nat → Nat → Int64) → (Nat → Nat → Option Nat) → Prop} (hct : zCtX lo yX4_addWheel cX4_addWheel 4 (some .int) (d - 1) 1 6 [.ref (lo + 0), .int x0, .int x1] (zM J) G F (zPI r Φ) (zPX r "java/lang/IllegalArgumentException" "java/lang/IllegalStateException" (zM J) G F)) : zCtH lo yL_addWheel cL_addWheel 5 (some .int) [(0, 10, 13, 13), (0, 10, 17, 15)] d 1 6 [.ref (lo + 0), .int x0, .int x1, .ref (lo + 56)] (zM J) G F (zWI r Φ J G F) := by
  refine zCtH.mk (by decide) wl_addWheel.2.1 (Nat.le_of_ble_eq_true rfl) ?_
  intro p l e s m args below meth c D cA X Y hN hx
  refine zG_aload_n X dL_addWheel_0 rfl ?_
  refine zj_iconst X dL_addWheel_1 ?_
  refine zG_aload_n X dL_addWheel_2 rfl ?_
  refine zG_iload_n X dL_addWheel_3 rfl ?_
  refine zG_iload_n X dL_addWheel_4 rfl ?_
  refine zG_callX (as2 := [_, _]) rfl X Y hct dL_addWheel_5 mv_X4_addWheel ((List.mem_of_getElem? (i := 503) (by decide +kernel))) rfl rfl (by decide) rfl (by show d - 1 + 1 ≤ d; omega) (by show 19 + 4 + 35 * (d - 1) ≤ 35 * d; omega) (Nat.le_of_ble_eq_true rfl) (Nat.le_of_ble_eq_true rfl) (Nat.le_of_ble_eq_true rfl) ?_ ?_
  · rintro v I3 G3 F3 ⟨hr0, a, J2, rfl, rfl, hphi⟩
    refine zG_i2l X dL_addWheel_8 ?_
    refine zj_lastore X dL_addWheel_9 (by first | rfl | assumption) (by first | decide | omega) (0) (by omega) (by omega) ?_
    refine zG_goto X dL_addWheel_10 (tgt := 21) (by decide) ?_
    refine zj_iconst X dL_addWheel_21 ?_
    refine zG_iretX X dL_addWheel_22 rfl (Nat.le_of_ble_eq_true rfl) (Nat.le_of_ble_eq_true rfl) ?_
    exact ⟨by rw [hr0], Or.inr ⟨hr0, a, J2, G3, rfl, rfl, hphi⟩⟩
  · intro E I3 G3 F3 q hPX
    obtain ⟨hE, rfl, rfl, rfl⟩ := hPX
    rcases hE with ⟨hr, rfl⟩ | ⟨hr, rfl⟩
    · refine zG_catch X [] ⟨0, 10, 13, 13⟩ [⟨0, 10, 17, 15⟩] (by rw [hx]; rfl) (fun z h => by cases h) (by decide) (by decide) lkL_13 cast_a ?_
      refine zG_astore X dL_addWheel_13 (by decide) rfl ?_
      refine zj_iconst X dL_addWheel_15 ?_
      refine zG_iretX X dL_addWheel_16 rfl (Nat.le_of_ble_eq_true rfl) (Nat.le_of_ble_eq_true rfl) ?_
      exact ⟨by rw [hr], Or.inl ⟨by rw [hr]; decide, rfl, rfl, rfl⟩⟩
    · refine zG_catch X [⟨0, 10, 13, 13⟩] ⟨0, 10, 17, 15⟩ [] (by rw [hx]; rfl) (fun z hz => Or.inr (by rw [List.mem_singleton] at hz; subst hz; exact ⟨by decide, "java/lang/IllegalArgumentException", X.2.2.2.2.1 _ lkL_13 rfl _, hN.1⟩)) (by decide) (by decide) lkL_15 cast_s ?_
      refine zG_astore X dL_addWheel_17 (by decide) rfl ?_
      refine zj_iconst X dL_addWheel_19 ?_
      refine zG_iretX X dL_addWheel_20 rfl (Nat.le_of_ble_eq_true rfl) (Nat.le_of_ble_eq_true rfl) ?_
      exact ⟨by rw [hr], Or.inl ⟨by rw [hr]; decide, rfl, rfl, rfl⟩⟩
theorem wl_setSkip : Cond.static yL_setSkip ∈ lw_tbl ∧ Cond.codeWith yL_setSkip cL_setSkip 7 (some .int) [(0, 14, 17, 21), (0, 14, 21, 13)] ∈ lw_tbl ∧ (parseMethodDescriptor yL_setSkip.desc).map (fun d => d.parameters.length) = some 6 := ⟨(List.mem_of_getElem? (i := 593) (by decide +kernel)), (List.mem_of_getElem? (i := 594) (by decide +kernel)), by decide +kernel⟩
set_option maxHeartbeats 4000000 in
set_option maxRecDepth 100000 in
theorem k_L_setSkip (lo d : Nat) (hd : 1 ≤ d) (J : Nat → Nat → Int) (G : Nat → Nat → Int64) (F : Nat → Nat → Option Nat) {x0 x1 x2 x3 : Int32} {r : Int} {Φ : Int → (Nat → Nat → Int) → (Nat → Nat → Int64) → (Nat → Nat → Option Nat) → Prop} (hct : zCtX lo yX4_setSkip cX4_setSkip 7 (some .int) (d - 1) 1 6 [.ref (lo + 0), .int x0, .int x1, .int x2, .int x3] (zM J) G F (zPI r Φ) (zPX r "java/lang/IndexOutOfBoundsException" "java/lang/IllegalArgumentException" (zM J) G F)) : zCtH lo yL_setSkip cL_setSkip 7 (some .int) [(0, 14, 17, 21), (0, 14, 21, 13)] d 1 6 [.ref (lo + 0), .int x0, .int x1, .int x2, .int x3, .ref (lo + 56)] (zM J) G F (zWI r Φ J G F) := by
  refine zCtH.mk (by decide) wl_setSkip.2.1 (Nat.le_of_ble_eq_true rfl) ?_
  intro p l e s m args below meth c D cA X Y hN hx
  refine zG_aload X dL_setSkip_0 rfl ?_
  refine zj_iconst X dL_setSkip_2 ?_
  refine zG_aload_n X dL_setSkip_3 rfl ?_
  refine zG_iload_n X dL_setSkip_4 rfl ?_
  refine zG_iload_n X dL_setSkip_5 rfl ?_
  refine zG_iload_n X dL_setSkip_6 rfl ?_
  refine zG_iload X dL_setSkip_7 rfl ?_
  refine zG_callX (as2 := [_, _, _, _]) rfl X Y hct dL_setSkip_9 mv_X4_setSkip ((List.mem_of_getElem? (i := 596) (by decide +kernel))) rfl rfl (by decide) rfl (by show d - 1 + 1 ≤ d; omega) (by show 19 + 7 + 35 * (d - 1) ≤ 35 * d; omega) (Nat.le_of_ble_eq_true rfl) (Nat.le_of_ble_eq_true rfl) (Nat.le_of_ble_eq_true rfl) ?_ ?_
  · rintro v I3 G3 F3 ⟨hr0, a, J2, rfl, rfl, hphi⟩
    refine zG_i2l X dL_setSkip_12 ?_
    refine zj_lastore X dL_setSkip_13 (by first | rfl | assumption) (by first | decide | omega) (0) (by omega) (by omega) ?_
    refine zG_goto X dL_setSkip_14 (tgt := 25) (by decide) ?_
    refine zj_iconst X dL_setSkip_25 ?_
    refine zG_iretX X dL_setSkip_26 rfl (Nat.le_of_ble_eq_true rfl) (Nat.le_of_ble_eq_true rfl) ?_
    exact ⟨by rw [hr0], Or.inr ⟨hr0, a, J2, G3, rfl, rfl, hphi⟩⟩
  · intro E I3 G3 F3 q hPX
    obtain ⟨hE, rfl, rfl, rfl⟩ := hPX
    rcases hE with ⟨hr, rfl⟩ | ⟨hr, rfl⟩
    · refine zG_catch X [] ⟨0, 14, 17, 21⟩ [⟨0, 14, 21, 13⟩] (by rw [hx]; rfl) (fun z h => by cases h) (by decide) (by decide) lkL_21 cast_i ?_
      refine zG_astore X dL_setSkip_17 (by decide) rfl ?_
      refine zj_iconst X dL_setSkip_19 ?_
      refine zG_iretX X dL_setSkip_20 rfl (Nat.le_of_ble_eq_true rfl) (Nat.le_of_ble_eq_true rfl) ?_
      exact ⟨by rw [hr], Or.inl ⟨by rw [hr]; decide, rfl, rfl, rfl⟩⟩
    · refine zG_catch X [⟨0, 14, 17, 21⟩] ⟨0, 14, 21, 13⟩ [] (by rw [hx]; rfl) (fun z hz => Or.inr (by rw [List.mem_singleton] at hz; subst hz; exact ⟨by decide, "java/lang/IndexOutOfBoundsException", X.2.2.2.2.1 _ lkL_21 rfl _, hN.2⟩)) (by decide) (by decide) lkL_13 cast_a ?_
      refine zG_astore X dL_setSkip_21 (by decide) rfl ?_
      refine zj_iconst X dL_setSkip_23 ?_
      refine zG_iretX X dL_setSkip_24 rfl (Nat.le_of_ble_eq_true rfl) (Nat.le_of_ble_eq_true rfl) ?_
      exact ⟨by rw [hr], Or.inl ⟨by rw [hr]; decide, rfl, rfl, rfl⟩⟩
theorem wl_clearSkip : Cond.static yL_clearSkip ∈ lw_tbl ∧ Cond.codeWith yL_clearSkip cL_clearSkip 4 (some .int) [(0, 9, 12, 21)] ∈ lw_tbl ∧ (parseMethodDescriptor yL_clearSkip.desc).map (fun d => d.parameters.length) = some 3 := ⟨(List.mem_of_getElem? (i := 629) (by decide +kernel)), (List.mem_of_getElem? (i := 630) (by decide +kernel)), by decide +kernel⟩
set_option maxHeartbeats 4000000 in
set_option maxRecDepth 100000 in
theorem k_L_clearSkip (lo d : Nat) (hd : 1 ≤ d) (J : Nat → Nat → Int) (G : Nat → Nat → Int64) (F : Nat → Nat → Option Nat) {x0 : Int32} {r : Int} (hr2 : r ≠ 2) {Φ : Int → (Nat → Nat → Int) → (Nat → Nat → Int64) → (Nat → Nat → Option Nat) → Prop} (hct : zCtX lo yX4_clearSkip cX4_clearSkip 4 (some .int) (d - 1) 1 6 [.ref (lo + 0), .int x0] (zM J) G F (zPI r Φ) (zPX r "java/lang/IndexOutOfBoundsException" "java/lang/IndexOutOfBoundsException" (zM J) G F)) : zCtH lo yL_clearSkip cL_clearSkip 4 (some .int) [(0, 9, 12, 21)] d 1 6 [.ref (lo + 0), .int x0, .ref (lo + 56)] (zM J) G F (zWI r Φ J G F) := by
  refine zCtH.mk (by decide) wl_clearSkip.2.1 (Nat.le_of_ble_eq_true rfl) ?_
  intro p l e s m args below meth c D cA X Y hN hx
  refine zG_aload_n X dL_clearSkip_0 rfl ?_
  refine zj_iconst X dL_clearSkip_1 ?_
  refine zG_aload_n X dL_clearSkip_2 rfl ?_
  refine zG_iload_n X dL_clearSkip_3 rfl ?_
  refine zG_callX (as2 := [_]) rfl X Y hct dL_clearSkip_4 mv_X4_clearSkip ((List.mem_of_getElem? (i := 631) (by decide +kernel))) rfl rfl (by decide) rfl (by show d - 1 + 1 ≤ d; omega) (by show 19 + 4 + 35 * (d - 1) ≤ 35 * d; omega) (Nat.le_of_ble_eq_true rfl) (Nat.le_of_ble_eq_true rfl) (Nat.le_of_ble_eq_true rfl) ?_ ?_
  · rintro v I3 G3 F3 ⟨hr0, a, J2, rfl, rfl, hphi⟩
    refine zG_i2l X dL_clearSkip_7 ?_
    refine zj_lastore X dL_clearSkip_8 (by first | rfl | assumption) (by first | decide | omega) (0) (by omega) (by omega) ?_
    refine zG_goto X dL_clearSkip_9 (tgt := 15) (by decide) ?_
    refine zj_iconst X dL_clearSkip_15 ?_
    refine zG_iretX X dL_clearSkip_16 rfl (Nat.le_of_ble_eq_true rfl) (Nat.le_of_ble_eq_true rfl) ?_
    exact ⟨by rw [hr0], Or.inr ⟨hr0, a, J2, G3, rfl, rfl, hphi⟩⟩
  · intro E I3 G3 F3 q hPX
    obtain ⟨hE, rfl, rfl, rfl⟩ := hPX
    rcases hE with ⟨hr, rfl⟩ | ⟨hr, rfl⟩
    · refine zG_catch X [] ⟨0, 9, 12, 21⟩ [] (by rw [hx]; rfl) (fun z h => by cases h) (by decide) (by decide) lkL_21 cast_i ?_
      refine zG_astore_n X dL_clearSkip_12 (by decide) rfl ?_
      refine zj_iconst X dL_clearSkip_13 ?_
      refine zG_iretX X dL_clearSkip_14 rfl (Nat.le_of_ble_eq_true rfl) (Nat.le_of_ble_eq_true rfl) ?_
      exact ⟨by rw [hr], Or.inl ⟨by rw [hr]; decide, rfl, rfl, rfl⟩⟩
    · exact absurd hr hr2
theorem wl_setWheel : Cond.static yL_setWheel ∈ lw_tbl ∧ Cond.codeWith yL_setWheel cL_setWheel 6 (some .int) [(0, 12, 15, 21), (0, 12, 19, 13)] ∈ lw_tbl ∧ (parseMethodDescriptor yL_setWheel.desc).map (fun d => d.parameters.length) = some 5 := ⟨(List.mem_of_getElem? (i := 637) (by decide +kernel)), (List.mem_of_getElem? (i := 638) (by decide +kernel)), by decide +kernel⟩
set_option maxHeartbeats 4000000 in
set_option maxRecDepth 100000 in
theorem k_L_setWheel (lo d : Nat) (hd : 1 ≤ d) (J : Nat → Nat → Int) (G : Nat → Nat → Int64) (F : Nat → Nat → Option Nat) {x0 x1 x2 : Int32} {r : Int} {Φ : Int → (Nat → Nat → Int) → (Nat → Nat → Int64) → (Nat → Nat → Option Nat) → Prop} (hct : zCtX lo yX4_setWheel cX4_setWheel 6 (some .int) (d - 1) 1 6 [.ref (lo + 0), .int x0, .int x1, .int x2] (zM J) G F (zPI r Φ) (zPX r "java/lang/IndexOutOfBoundsException" "java/lang/IllegalArgumentException" (zM J) G F)) : zCtH lo yL_setWheel cL_setWheel 6 (some .int) [(0, 12, 15, 21), (0, 12, 19, 13)] d 1 6 [.ref (lo + 0), .int x0, .int x1, .int x2, .ref (lo + 56)] (zM J) G F (zWI r Φ J G F) := by
  refine zCtH.mk (by decide) wl_setWheel.2.1 (Nat.le_of_ble_eq_true rfl) ?_
  intro p l e s m args below meth c D cA X Y hN hx
  refine zG_aload X dL_setWheel_0 rfl ?_
  refine zj_iconst X dL_setWheel_2 ?_
  refine zG_aload_n X dL_setWheel_3 rfl ?_
  refine zG_iload_n X dL_setWheel_4 rfl ?_
  refine zG_iload_n X dL_setWheel_5 rfl ?_
  refine zG_iload_n X dL_setWheel_6 rfl ?_
  refine zG_callX (as2 := [_, _, _]) rfl X Y hct dL_setWheel_7 mv_X4_setWheel ((List.mem_of_getElem? (i := 639) (by decide +kernel))) rfl rfl (by decide) rfl (by show d - 1 + 1 ≤ d; omega) (by show 19 + 6 + 35 * (d - 1) ≤ 35 * d; omega) (Nat.le_of_ble_eq_true rfl) (Nat.le_of_ble_eq_true rfl) (Nat.le_of_ble_eq_true rfl) ?_ ?_
  · rintro v I3 G3 F3 ⟨hr0, a, J2, rfl, rfl, hphi⟩
    refine zG_i2l X dL_setWheel_10 ?_
    refine zj_lastore X dL_setWheel_11 (by first | rfl | assumption) (by first | decide | omega) (0) (by omega) (by omega) ?_
    refine zG_goto X dL_setWheel_12 (tgt := 23) (by decide) ?_
    refine zj_iconst X dL_setWheel_23 ?_
    refine zG_iretX X dL_setWheel_24 rfl (Nat.le_of_ble_eq_true rfl) (Nat.le_of_ble_eq_true rfl) ?_
    exact ⟨by rw [hr0], Or.inr ⟨hr0, a, J2, G3, rfl, rfl, hphi⟩⟩
  · intro E I3 G3 F3 q hPX
    obtain ⟨hE, rfl, rfl, rfl⟩ := hPX
    rcases hE with ⟨hr, rfl⟩ | ⟨hr, rfl⟩
    · refine zG_catch X [] ⟨0, 12, 15, 21⟩ [⟨0, 12, 19, 13⟩] (by rw [hx]; rfl) (fun z h => by cases h) (by decide) (by decide) lkL_21 cast_i ?_
      refine zG_astore X dL_setWheel_15 (by decide) rfl ?_
      refine zj_iconst X dL_setWheel_17 ?_
      refine zG_iretX X dL_setWheel_18 rfl (Nat.le_of_ble_eq_true rfl) (Nat.le_of_ble_eq_true rfl) ?_
      exact ⟨by rw [hr], Or.inl ⟨by rw [hr]; decide, rfl, rfl, rfl⟩⟩
    · refine zG_catch X [⟨0, 12, 15, 21⟩] ⟨0, 12, 19, 13⟩ [] (by rw [hx]; rfl) (fun z hz => Or.inr (by rw [List.mem_singleton] at hz; subst hz; exact ⟨by decide, "java/lang/IndexOutOfBoundsException", X.2.2.2.2.1 _ lkL_21 rfl _, hN.2⟩)) (by decide) (by decide) lkL_13 cast_a ?_
      refine zG_astore X dL_setWheel_19 (by decide) rfl ?_
      refine zj_iconst X dL_setWheel_21 ?_
      refine zG_iretX X dL_setWheel_22 rfl (Nat.le_of_ble_eq_true rfl) (Nat.le_of_ble_eq_true rfl) ?_
      exact ⟨by rw [hr], Or.inl ⟨by rw [hr]; decide, rfl, rfl, rfl⟩⟩
theorem wl_setMoon : Cond.static yL_setMoon ∈ lw_tbl ∧ Cond.codeWith yL_setMoon cL_setMoon 5 (some .int) [(0, 10, 13, 21), (0, 10, 17, 13)] ∈ lw_tbl ∧ (parseMethodDescriptor yL_setMoon.desc).map (fun d => d.parameters.length) = some 4 := ⟨(List.mem_of_getElem? (i := 645) (by decide +kernel)), (List.mem_of_getElem? (i := 646) (by decide +kernel)), by decide +kernel⟩
set_option maxHeartbeats 4000000 in
set_option maxRecDepth 100000 in
theorem k_L_setMoon (lo d : Nat) (hd : 1 ≤ d) (J : Nat → Nat → Int) (G : Nat → Nat → Int64) (F : Nat → Nat → Option Nat) {x0 x1 : Int32} {r : Int} {Φ : Int → (Nat → Nat → Int) → (Nat → Nat → Int64) → (Nat → Nat → Option Nat) → Prop} (hct : zCtX lo yX4_setMoon cX4_setMoon 4 (some .int) (d - 1) 1 6 [.ref (lo + 0), .int x0, .int x1] (zM J) G F (zPI r Φ) (zPX r "java/lang/IndexOutOfBoundsException" "java/lang/IllegalArgumentException" (zM J) G F)) : zCtH lo yL_setMoon cL_setMoon 5 (some .int) [(0, 10, 13, 21), (0, 10, 17, 13)] d 1 6 [.ref (lo + 0), .int x0, .int x1, .ref (lo + 56)] (zM J) G F (zWI r Φ J G F) := by
  refine zCtH.mk (by decide) wl_setMoon.2.1 (Nat.le_of_ble_eq_true rfl) ?_
  intro p l e s m args below meth c D cA X Y hN hx
  refine zG_aload_n X dL_setMoon_0 rfl ?_
  refine zj_iconst X dL_setMoon_1 ?_
  refine zG_aload_n X dL_setMoon_2 rfl ?_
  refine zG_iload_n X dL_setMoon_3 rfl ?_
  refine zG_iload_n X dL_setMoon_4 rfl ?_
  refine zG_callX (as2 := [_, _]) rfl X Y hct dL_setMoon_5 mv_X4_setMoon ((List.mem_of_getElem? (i := 647) (by decide +kernel))) rfl rfl (by decide) rfl (by show d - 1 + 1 ≤ d; omega) (by show 19 + 4 + 35 * (d - 1) ≤ 35 * d; omega) (Nat.le_of_ble_eq_true rfl) (Nat.le_of_ble_eq_true rfl) (Nat.le_of_ble_eq_true rfl) ?_ ?_
  · rintro v I3 G3 F3 ⟨hr0, a, J2, rfl, rfl, hphi⟩
    refine zG_i2l X dL_setMoon_8 ?_
    refine zj_lastore X dL_setMoon_9 (by first | rfl | assumption) (by first | decide | omega) (0) (by omega) (by omega) ?_
    refine zG_goto X dL_setMoon_10 (tgt := 21) (by decide) ?_
    refine zj_iconst X dL_setMoon_21 ?_
    refine zG_iretX X dL_setMoon_22 rfl (Nat.le_of_ble_eq_true rfl) (Nat.le_of_ble_eq_true rfl) ?_
    exact ⟨by rw [hr0], Or.inr ⟨hr0, a, J2, G3, rfl, rfl, hphi⟩⟩
  · intro E I3 G3 F3 q hPX
    obtain ⟨hE, rfl, rfl, rfl⟩ := hPX
    rcases hE with ⟨hr, rfl⟩ | ⟨hr, rfl⟩
    · refine zG_catch X [] ⟨0, 10, 13, 21⟩ [⟨0, 10, 17, 13⟩] (by rw [hx]; rfl) (fun z h => by cases h) (by decide) (by decide) lkL_21 cast_i ?_
      refine zG_astore X dL_setMoon_13 (by decide) rfl ?_
      refine zj_iconst X dL_setMoon_15 ?_
      refine zG_iretX X dL_setMoon_16 rfl (Nat.le_of_ble_eq_true rfl) (Nat.le_of_ble_eq_true rfl) ?_
      exact ⟨by rw [hr], Or.inl ⟨by rw [hr]; decide, rfl, rfl, rfl⟩⟩
    · refine zG_catch X [⟨0, 10, 13, 21⟩] ⟨0, 10, 17, 13⟩ [] (by rw [hx]; rfl) (fun z hz => Or.inr (by rw [List.mem_singleton] at hz; subst hz; exact ⟨by decide, "java/lang/IndexOutOfBoundsException", X.2.2.2.2.1 _ lkL_21 rfl _, hN.2⟩)) (by decide) (by decide) lkL_13 cast_a ?_
      refine zG_astore X dL_setMoon_17 (by decide) rfl ?_
      refine zj_iconst X dL_setMoon_19 ?_
      refine zG_iretX X dL_setMoon_20 rfl (Nat.le_of_ble_eq_true rfl) (Nat.le_of_ble_eq_true rfl) ?_
      exact ⟨by rw [hr], Or.inl ⟨by rw [hr]; decide, rfl, rfl, rfl⟩⟩
theorem wl_setMarket : Cond.static yL_setMarket ∈ lw_tbl ∧ Cond.codeWith yL_setMarket cL_setMarket 7 (some .int) [(0, 14, 17, 21), (0, 14, 21, 13)] ∈ lw_tbl ∧ (parseMethodDescriptor yL_setMarket.desc).map (fun d => d.parameters.length) = some 6 := ⟨(List.mem_of_getElem? (i := 653) (by decide +kernel)), (List.mem_of_getElem? (i := 654) (by decide +kernel)), by decide +kernel⟩
set_option maxHeartbeats 4000000 in
set_option maxRecDepth 100000 in
theorem k_L_setMarket (lo d : Nat) (hd : 1 ≤ d) (J : Nat → Nat → Int) (G : Nat → Nat → Int64) (F : Nat → Nat → Option Nat) {x0 x1 x2 x3 : Int32} {r : Int} {Φ : Int → (Nat → Nat → Int) → (Nat → Nat → Int64) → (Nat → Nat → Option Nat) → Prop} (hct : zCtX lo yX4_setMarket cX4_setMarket 6 (some .int) (d - 1) 1 6 [.ref (lo + 0), .int x0, .int x1, .int x2, .int x3] (zM J) G F (zPI r Φ) (zPX r "java/lang/IndexOutOfBoundsException" "java/lang/IllegalArgumentException" (zM J) G F)) : zCtH lo yL_setMarket cL_setMarket 7 (some .int) [(0, 14, 17, 21), (0, 14, 21, 13)] d 1 6 [.ref (lo + 0), .int x0, .int x1, .int x2, .int x3, .ref (lo + 56)] (zM J) G F (zWI r Φ J G F) := by
  refine zCtH.mk (by decide) wl_setMarket.2.1 (Nat.le_of_ble_eq_true rfl) ?_
  intro p l e s m args below meth c D cA X Y hN hx
  refine zG_aload X dL_setMarket_0 rfl ?_
  refine zj_iconst X dL_setMarket_2 ?_
  refine zG_aload_n X dL_setMarket_3 rfl ?_
  refine zG_iload_n X dL_setMarket_4 rfl ?_
  refine zG_iload_n X dL_setMarket_5 rfl ?_
  refine zG_iload_n X dL_setMarket_6 rfl ?_
  refine zG_iload X dL_setMarket_7 rfl ?_
  refine zG_callX (as2 := [_, _, _, _]) rfl X Y hct dL_setMarket_9 mv_X4_setMarket ((List.mem_of_getElem? (i := 655) (by decide +kernel))) rfl rfl (by decide) rfl (by show d - 1 + 1 ≤ d; omega) (by show 19 + 6 + 35 * (d - 1) ≤ 35 * d; omega) (Nat.le_of_ble_eq_true rfl) (Nat.le_of_ble_eq_true rfl) (Nat.le_of_ble_eq_true rfl) ?_ ?_
  · rintro v I3 G3 F3 ⟨hr0, a, J2, rfl, rfl, hphi⟩
    refine zG_i2l X dL_setMarket_12 ?_
    refine zj_lastore X dL_setMarket_13 (by first | rfl | assumption) (by first | decide | omega) (0) (by omega) (by omega) ?_
    refine zG_goto X dL_setMarket_14 (tgt := 25) (by decide) ?_
    refine zj_iconst X dL_setMarket_25 ?_
    refine zG_iretX X dL_setMarket_26 rfl (Nat.le_of_ble_eq_true rfl) (Nat.le_of_ble_eq_true rfl) ?_
    exact ⟨by rw [hr0], Or.inr ⟨hr0, a, J2, G3, rfl, rfl, hphi⟩⟩
  · intro E I3 G3 F3 q hPX
    obtain ⟨hE, rfl, rfl, rfl⟩ := hPX
    rcases hE with ⟨hr, rfl⟩ | ⟨hr, rfl⟩
    · refine zG_catch X [] ⟨0, 14, 17, 21⟩ [⟨0, 14, 21, 13⟩] (by rw [hx]; rfl) (fun z h => by cases h) (by decide) (by decide) lkL_21 cast_i ?_
      refine zG_astore X dL_setMarket_17 (by decide) rfl ?_
      refine zj_iconst X dL_setMarket_19 ?_
      refine zG_iretX X dL_setMarket_20 rfl (Nat.le_of_ble_eq_true rfl) (Nat.le_of_ble_eq_true rfl) ?_
      exact ⟨by rw [hr], Or.inl ⟨by rw [hr]; decide, rfl, rfl, rfl⟩⟩
    · refine zG_catch X [⟨0, 14, 17, 21⟩] ⟨0, 14, 21, 13⟩ [] (by rw [hx]; rfl) (fun z hz => Or.inr (by rw [List.mem_singleton] at hz; subst hz; exact ⟨by decide, "java/lang/IndexOutOfBoundsException", X.2.2.2.2.1 _ lkL_21 rfl _, hN.2⟩)) (by decide) (by decide) lkL_13 cast_a ?_
      refine zG_astore X dL_setMarket_21 (by decide) rfl ?_
      refine zj_iconst X dL_setMarket_23 ?_
      refine zG_iretX X dL_setMarket_24 rfl (Nat.le_of_ble_eq_true rfl) (Nat.le_of_ble_eq_true rfl) ?_
      exact ⟨by rw [hr], Or.inl ⟨by rw [hr]; decide, rfl, rfl, rfl⟩⟩
theorem wl_setDay : Cond.static yL_setDay ∈ lw_tbl ∧ Cond.codeWith yL_setDay cL_setDay 5 (some .int) [(0, 10, 13, 13)] ∈ lw_tbl ∧ (parseMethodDescriptor yL_setDay.desc).map (fun d => d.parameters.length) = some 4 := ⟨(List.mem_of_getElem? (i := 661) (by decide +kernel)), (List.mem_of_getElem? (i := 662) (by decide +kernel)), by decide +kernel⟩
set_option maxHeartbeats 4000000 in
set_option maxRecDepth 100000 in
theorem k_L_setDay (lo d : Nat) (hd : 1 ≤ d) (J : Nat → Nat → Int) (G : Nat → Nat → Int64) (F : Nat → Nat → Option Nat) {x0 x1 : Int32} {r : Int} (hr2 : r ≠ 2) {Φ : Int → (Nat → Nat → Int) → (Nat → Nat → Int64) → (Nat → Nat → Option Nat) → Prop} (hct : zCtX lo yX4_setDay cX4_setDay 5 (some .int) (d - 1) 1 6 [.ref (lo + 0), .int x0, .int x1] (zM J) G F (zPI r Φ) (zPX r "java/lang/IllegalArgumentException" "java/lang/IllegalArgumentException" (zM J) G F)) : zCtH lo yL_setDay cL_setDay 5 (some .int) [(0, 10, 13, 13)] d 1 6 [.ref (lo + 0), .int x0, .int x1, .ref (lo + 56)] (zM J) G F (zWI r Φ J G F) := by
  refine zCtH.mk (by decide) wl_setDay.2.1 (Nat.le_of_ble_eq_true rfl) ?_
  intro p l e s m args below meth c D cA X Y hN hx
  refine zG_aload_n X dL_setDay_0 rfl ?_
  refine zj_iconst X dL_setDay_1 ?_
  refine zG_aload_n X dL_setDay_2 rfl ?_
  refine zG_iload_n X dL_setDay_3 rfl ?_
  refine zG_iload_n X dL_setDay_4 rfl ?_
  refine zG_callX (as2 := [_, _]) rfl X Y hct dL_setDay_5 mv_X4_setDay ((List.mem_of_getElem? (i := 663) (by decide +kernel))) rfl rfl (by decide) rfl (by show d - 1 + 1 ≤ d; omega) (by show 19 + 5 + 35 * (d - 1) ≤ 35 * d; omega) (Nat.le_of_ble_eq_true rfl) (Nat.le_of_ble_eq_true rfl) (Nat.le_of_ble_eq_true rfl) ?_ ?_
  · rintro v I3 G3 F3 ⟨hr0, a, J2, rfl, rfl, hphi⟩
    refine zG_i2l X dL_setDay_8 ?_
    refine zj_lastore X dL_setDay_9 (by first | rfl | assumption) (by first | decide | omega) (0) (by omega) (by omega) ?_
    refine zG_goto X dL_setDay_10 (tgt := 17) (by decide) ?_
    refine zj_iconst X dL_setDay_17 ?_
    refine zG_iretX X dL_setDay_18 rfl (Nat.le_of_ble_eq_true rfl) (Nat.le_of_ble_eq_true rfl) ?_
    exact ⟨by rw [hr0], Or.inr ⟨hr0, a, J2, G3, rfl, rfl, hphi⟩⟩
  · intro E I3 G3 F3 q hPX
    obtain ⟨hE, rfl, rfl, rfl⟩ := hPX
    rcases hE with ⟨hr, rfl⟩ | ⟨hr, rfl⟩
    · refine zG_catch X [] ⟨0, 10, 13, 13⟩ [] (by rw [hx]; rfl) (fun z h => by cases h) (by decide) (by decide) lkL_13 cast_a ?_
      refine zG_astore X dL_setDay_13 (by decide) rfl ?_
      refine zj_iconst X dL_setDay_15 ?_
      refine zG_iretX X dL_setDay_16 rfl (Nat.le_of_ble_eq_true rfl) (Nat.le_of_ble_eq_true rfl) ?_
      exact ⟨by rw [hr], Or.inl ⟨by rw [hr]; decide, rfl, rfl, rfl⟩⟩
    · exact absurd hr hr2
theorem wl_pass : Cond.static yL_pass ∈ lw_tbl ∧ Cond.codeWith yL_pass cL_pass 4 (some .int) [(0, 9, 12, 13), (0, 9, 15, 15)] ∈ lw_tbl ∧ (parseMethodDescriptor yL_pass.desc).map (fun d => d.parameters.length) = some 3 := ⟨(List.mem_of_getElem? (i := 671) (by decide +kernel)), (List.mem_of_getElem? (i := 672) (by decide +kernel)), by decide +kernel⟩
set_option maxHeartbeats 4000000 in
set_option maxRecDepth 100000 in
theorem k_L_pass (lo d : Nat) (hd : 1 ≤ d) (J : Nat → Nat → Int) (G : Nat → Nat → Int64) (F : Nat → Nat → Option Nat) {x0 : Int32} {r : Int} {Φ : Int → (Nat → Nat → Int) → (Nat → Nat → Int64) → (Nat → Nat → Option Nat) → Prop} (hct : zCtX lo yX4_pass cX4_pass 4 (some .int) (d - 1) 1 6 [.ref (lo + 0), .int x0] (zM J) G F (zPI r Φ) (zPX r "java/lang/IllegalArgumentException" "java/lang/IllegalStateException" (zM J) G F)) : zCtH lo yL_pass cL_pass 4 (some .int) [(0, 9, 12, 13), (0, 9, 15, 15)] d 1 6 [.ref (lo + 0), .int x0, .ref (lo + 56)] (zM J) G F (zWI r Φ J G F) := by
  refine zCtH.mk (by decide) wl_pass.2.1 (Nat.le_of_ble_eq_true rfl) ?_
  intro p l e s m args below meth c D cA X Y hN hx
  refine zG_aload_n X dL_pass_0 rfl ?_
  refine zj_iconst X dL_pass_1 ?_
  refine zG_aload_n X dL_pass_2 rfl ?_
  refine zG_iload_n X dL_pass_3 rfl ?_
  refine zG_callX (as2 := [_]) rfl X Y hct dL_pass_4 mv_X4_pass ((List.mem_of_getElem? (i := 673) (by decide +kernel))) rfl rfl (by decide) rfl (by show d - 1 + 1 ≤ d; omega) (by show 19 + 4 + 35 * (d - 1) ≤ 35 * d; omega) (Nat.le_of_ble_eq_true rfl) (Nat.le_of_ble_eq_true rfl) (Nat.le_of_ble_eq_true rfl) ?_ ?_
  · rintro v I3 G3 F3 ⟨hr0, a, J2, rfl, rfl, hphi⟩
    refine zG_i2l X dL_pass_7 ?_
    refine zj_lastore X dL_pass_8 (by first | rfl | assumption) (by first | decide | omega) (0) (by omega) (by omega) ?_
    refine zG_goto X dL_pass_9 (tgt := 18) (by decide) ?_
    refine zj_iconst X dL_pass_18 ?_
    refine zG_iretX X dL_pass_19 rfl (Nat.le_of_ble_eq_true rfl) (Nat.le_of_ble_eq_true rfl) ?_
    exact ⟨by rw [hr0], Or.inr ⟨hr0, a, J2, G3, rfl, rfl, hphi⟩⟩
  · intro E I3 G3 F3 q hPX
    obtain ⟨hE, rfl, rfl, rfl⟩ := hPX
    rcases hE with ⟨hr, rfl⟩ | ⟨hr, rfl⟩
    · refine zG_catch X [] ⟨0, 9, 12, 13⟩ [⟨0, 9, 15, 15⟩] (by rw [hx]; rfl) (fun z h => by cases h) (by decide) (by decide) lkL_13 cast_a ?_
      refine zG_astore_n X dL_pass_12 (by decide) rfl ?_
      refine zj_iconst X dL_pass_13 ?_
      refine zG_iretX X dL_pass_14 rfl (Nat.le_of_ble_eq_true rfl) (Nat.le_of_ble_eq_true rfl) ?_
      exact ⟨by rw [hr], Or.inl ⟨by rw [hr]; decide, rfl, rfl, rfl⟩⟩
    · refine zG_catch X [⟨0, 9, 12, 13⟩] ⟨0, 9, 15, 15⟩ [] (by rw [hx]; rfl) (fun z hz => Or.inr (by rw [List.mem_singleton] at hz; subst hz; exact ⟨by decide, "java/lang/IllegalArgumentException", X.2.2.2.2.1 _ lkL_13 rfl _, hN.1⟩)) (by decide) (by decide) lkL_15 cast_s ?_
      refine zG_astore_n X dL_pass_15 (by decide) rfl ?_
      refine zj_iconst X dL_pass_16 ?_
      refine zG_iretX X dL_pass_17 rfl (Nat.le_of_ble_eq_true rfl) (Nat.le_of_ble_eq_true rfl) ?_
      exact ⟨by rw [hr], Or.inl ⟨by rw [hr]; decide, rfl, rfl, rfl⟩⟩
theorem wl_wheel : Cond.static yL_wheel ∈ lw_tbl ∧ Cond.codeWith yL_wheel cL_wheel 5 (some .int) [(0, 10, 13, 21), (0, 10, 17, 13)] ∈ lw_tbl ∧ (parseMethodDescriptor yL_wheel.desc).map (fun d => d.parameters.length) = some 4 := ⟨(List.mem_of_getElem? (i := 689) (by decide +kernel)), (List.mem_of_getElem? (i := 690) (by decide +kernel)), by decide +kernel⟩
set_option maxHeartbeats 4000000 in
set_option maxRecDepth 100000 in
theorem k_L_wheel (lo d : Nat) (hd : 1 ≤ d) (J : Nat → Nat → Int) (G : Nat → Nat → Int64) (F : Nat → Nat → Option Nat) {x0 x1 : Int32} {r : Int} {Φ : Int → (Nat → Nat → Int) → (Nat → Nat → Int64) → (Nat → Nat → Option Nat) → Prop} (hct : zCtX lo yX4_wheel cX4_wheel 3 (some .int) (d - 1) 1 6 [.ref (lo + 0), .int x0, .int x1] (zM J) G F (zPI r Φ) (zPX r "java/lang/IndexOutOfBoundsException" "java/lang/IllegalArgumentException" (zM J) G F)) : zCtH lo yL_wheel cL_wheel 5 (some .int) [(0, 10, 13, 21), (0, 10, 17, 13)] d 1 6 [.ref (lo + 0), .int x0, .int x1, .ref (lo + 56)] (zM J) G F (zWI r Φ J G F) := by
  refine zCtH.mk (by decide) wl_wheel.2.1 (Nat.le_of_ble_eq_true rfl) ?_
  intro p l e s m args below meth c D cA X Y hN hx
  refine zG_aload_n X dL_wheel_0 rfl ?_
  refine zj_iconst X dL_wheel_1 ?_
  refine zG_aload_n X dL_wheel_2 rfl ?_
  refine zG_iload_n X dL_wheel_3 rfl ?_
  refine zG_iload_n X dL_wheel_4 rfl ?_
  refine zG_callX (as2 := [_, _]) rfl X Y hct dL_wheel_5 mv_X4_wheel ((List.mem_of_getElem? (i := 691) (by decide +kernel))) rfl rfl (by decide) rfl (by show d - 1 + 1 ≤ d; omega) (by show 19 + 3 + 35 * (d - 1) ≤ 35 * d; omega) (Nat.le_of_ble_eq_true rfl) (Nat.le_of_ble_eq_true rfl) (Nat.le_of_ble_eq_true rfl) ?_ ?_
  · rintro v I3 G3 F3 ⟨hr0, a, J2, rfl, rfl, hphi⟩
    refine zG_i2l X dL_wheel_8 ?_
    refine zj_lastore X dL_wheel_9 (by first | rfl | assumption) (by first | decide | omega) (0) (by omega) (by omega) ?_
    refine zG_goto X dL_wheel_10 (tgt := 21) (by decide) ?_
    refine zj_iconst X dL_wheel_21 ?_
    refine zG_iretX X dL_wheel_22 rfl (Nat.le_of_ble_eq_true rfl) (Nat.le_of_ble_eq_true rfl) ?_
    exact ⟨by rw [hr0], Or.inr ⟨hr0, a, J2, G3, rfl, rfl, hphi⟩⟩
  · intro E I3 G3 F3 q hPX
    obtain ⟨hE, rfl, rfl, rfl⟩ := hPX
    rcases hE with ⟨hr, rfl⟩ | ⟨hr, rfl⟩
    · refine zG_catch X [] ⟨0, 10, 13, 21⟩ [⟨0, 10, 17, 13⟩] (by rw [hx]; rfl) (fun z h => by cases h) (by decide) (by decide) lkL_21 cast_i ?_
      refine zG_astore X dL_wheel_13 (by decide) rfl ?_
      refine zj_iconst X dL_wheel_15 ?_
      refine zG_iretX X dL_wheel_16 rfl (Nat.le_of_ble_eq_true rfl) (Nat.le_of_ble_eq_true rfl) ?_
      exact ⟨by rw [hr], Or.inl ⟨by rw [hr]; decide, rfl, rfl, rfl⟩⟩
    · refine zG_catch X [⟨0, 10, 13, 21⟩] ⟨0, 10, 17, 13⟩ [] (by rw [hx]; rfl) (fun z hz => Or.inr (by rw [List.mem_singleton] at hz; subst hz; exact ⟨by decide, "java/lang/IndexOutOfBoundsException", X.2.2.2.2.1 _ lkL_21 rfl _, hN.2⟩)) (by decide) (by decide) lkL_13 cast_a ?_
      refine zG_astore X dL_wheel_17 (by decide) rfl ?_
      refine zj_iconst X dL_wheel_19 ?_
      refine zG_iretX X dL_wheel_20 rfl (Nat.le_of_ble_eq_true rfl) (Nat.le_of_ble_eq_true rfl) ?_
      exact ⟨by rw [hr], Or.inl ⟨by rw [hr]; decide, rfl, rfl, rfl⟩⟩
theorem wl_value : Cond.static yL_value ∈ lw_tbl ∧ Cond.codeWith yL_value cL_value 4 (some .int) [(0, 9, 12, 13)] ∈ lw_tbl ∧ (parseMethodDescriptor yL_value.desc).map (fun d => d.parameters.length) = some 3 := ⟨(List.mem_of_getElem? (i := 697) (by decide +kernel)), (List.mem_of_getElem? (i := 698) (by decide +kernel)), by decide +kernel⟩
set_option maxHeartbeats 4000000 in
set_option maxRecDepth 100000 in
theorem k_L_value (lo d : Nat) (hd : 1 ≤ d) (J : Nat → Nat → Int) (G : Nat → Nat → Int64) (F : Nat → Nat → Option Nat) {x0 : Int32} {r : Int} (hr2 : r ≠ 2) {Φ : Int → (Nat → Nat → Int) → (Nat → Nat → Int64) → (Nat → Nat → Option Nat) → Prop} (hct : zCtX lo yX4_value cX4_value 2 (some .int) (d - 1) 1 6 [.ref (lo + 0), .int x0] (zM J) G F (zPI r Φ) (zPX r "java/lang/IllegalArgumentException" "java/lang/IllegalArgumentException" (zM J) G F)) : zCtH lo yL_value cL_value 4 (some .int) [(0, 9, 12, 13)] d 1 6 [.ref (lo + 0), .int x0, .ref (lo + 56)] (zM J) G F (zWI r Φ J G F) := by
  refine zCtH.mk (by decide) wl_value.2.1 (Nat.le_of_ble_eq_true rfl) ?_
  intro p l e s m args below meth c D cA X Y hN hx
  refine zG_aload_n X dL_value_0 rfl ?_
  refine zj_iconst X dL_value_1 ?_
  refine zG_aload_n X dL_value_2 rfl ?_
  refine zG_iload_n X dL_value_3 rfl ?_
  refine zG_callX (as2 := [_]) rfl X Y hct dL_value_4 mv_X4_value ((List.mem_of_getElem? (i := 699) (by decide +kernel))) rfl rfl (by decide) rfl (by show d - 1 + 1 ≤ d; omega) (by show 19 + 2 + 35 * (d - 1) ≤ 35 * d; omega) (Nat.le_of_ble_eq_true rfl) (Nat.le_of_ble_eq_true rfl) (Nat.le_of_ble_eq_true rfl) ?_ ?_
  · rintro v I3 G3 F3 ⟨hr0, a, J2, rfl, rfl, hphi⟩
    refine zG_i2l X dL_value_7 ?_
    refine zj_lastore X dL_value_8 (by first | rfl | assumption) (by first | decide | omega) (0) (by omega) (by omega) ?_
    refine zG_goto X dL_value_9 (tgt := 15) (by decide) ?_
    refine zj_iconst X dL_value_15 ?_
    refine zG_iretX X dL_value_16 rfl (Nat.le_of_ble_eq_true rfl) (Nat.le_of_ble_eq_true rfl) ?_
    exact ⟨by rw [hr0], Or.inr ⟨hr0, a, J2, G3, rfl, rfl, hphi⟩⟩
  · intro E I3 G3 F3 q hPX
    obtain ⟨hE, rfl, rfl, rfl⟩ := hPX
    rcases hE with ⟨hr, rfl⟩ | ⟨hr, rfl⟩
    · refine zG_catch X [] ⟨0, 9, 12, 13⟩ [] (by rw [hx]; rfl) (fun z h => by cases h) (by decide) (by decide) lkL_13 cast_a ?_
      refine zG_astore_n X dL_value_12 (by decide) rfl ?_
      refine zj_iconst X dL_value_13 ?_
      refine zG_iretX X dL_value_14 rfl (Nat.le_of_ble_eq_true rfl) (Nat.le_of_ble_eq_true rfl) ?_
      exact ⟨by rw [hr], Or.inl ⟨by rw [hr]; decide, rfl, rfl, rfl⟩⟩
    · exact absurd hr hr2
theorem wl_highWater : Cond.static yL_highWater ∈ lw_tbl ∧ Cond.codeWith yL_highWater cL_highWater 4 (some .int) [(0, 9, 12, 13)] ∈ lw_tbl ∧ (parseMethodDescriptor yL_highWater.desc).map (fun d => d.parameters.length) = some 3 := ⟨(List.mem_of_getElem? (i := 704) (by decide +kernel)), (List.mem_of_getElem? (i := 705) (by decide +kernel)), by decide +kernel⟩
set_option maxHeartbeats 4000000 in
set_option maxRecDepth 100000 in
theorem k_L_highWater (lo d : Nat) (hd : 1 ≤ d) (J : Nat → Nat → Int) (G : Nat → Nat → Int64) (F : Nat → Nat → Option Nat) {x0 : Int32} {r : Int} (hr2 : r ≠ 2) {Φ : Int → (Nat → Nat → Int) → (Nat → Nat → Int64) → (Nat → Nat → Option Nat) → Prop} (hct : zCtX lo yX4_highWater cX4_highWater 2 (some .int) (d - 1) 1 6 [.ref (lo + 0), .int x0] (zM J) G F (zPI r Φ) (zPX r "java/lang/IllegalArgumentException" "java/lang/IllegalArgumentException" (zM J) G F)) : zCtH lo yL_highWater cL_highWater 4 (some .int) [(0, 9, 12, 13)] d 1 6 [.ref (lo + 0), .int x0, .ref (lo + 56)] (zM J) G F (zWI r Φ J G F) := by
  refine zCtH.mk (by decide) wl_highWater.2.1 (Nat.le_of_ble_eq_true rfl) ?_
  intro p l e s m args below meth c D cA X Y hN hx
  refine zG_aload_n X dL_highWater_0 rfl ?_
  refine zj_iconst X dL_highWater_1 ?_
  refine zG_aload_n X dL_highWater_2 rfl ?_
  refine zG_iload_n X dL_highWater_3 rfl ?_
  refine zG_callX (as2 := [_]) rfl X Y hct dL_highWater_4 mv_X4_highWater ((List.mem_of_getElem? (i := 706) (by decide +kernel))) rfl rfl (by decide) rfl (by show d - 1 + 1 ≤ d; omega) (by show 19 + 2 + 35 * (d - 1) ≤ 35 * d; omega) (Nat.le_of_ble_eq_true rfl) (Nat.le_of_ble_eq_true rfl) (Nat.le_of_ble_eq_true rfl) ?_ ?_
  · rintro v I3 G3 F3 ⟨hr0, a, J2, rfl, rfl, hphi⟩
    refine zG_i2l X dL_highWater_7 ?_
    refine zj_lastore X dL_highWater_8 (by first | rfl | assumption) (by first | decide | omega) (0) (by omega) (by omega) ?_
    refine zG_goto X dL_highWater_9 (tgt := 15) (by decide) ?_
    refine zj_iconst X dL_highWater_15 ?_
    refine zG_iretX X dL_highWater_16 rfl (Nat.le_of_ble_eq_true rfl) (Nat.le_of_ble_eq_true rfl) ?_
    exact ⟨by rw [hr0], Or.inr ⟨hr0, a, J2, G3, rfl, rfl, hphi⟩⟩
  · intro E I3 G3 F3 q hPX
    obtain ⟨hE, rfl, rfl, rfl⟩ := hPX
    rcases hE with ⟨hr, rfl⟩ | ⟨hr, rfl⟩
    · refine zG_catch X [] ⟨0, 9, 12, 13⟩ [] (by rw [hx]; rfl) (fun z h => by cases h) (by decide) (by decide) lkL_13 cast_a ?_
      refine zG_astore_n X dL_highWater_12 (by decide) rfl ?_
      refine zj_iconst X dL_highWater_13 ?_
      refine zG_iretX X dL_highWater_14 rfl (Nat.le_of_ble_eq_true rfl) (Nat.le_of_ble_eq_true rfl) ?_
      exact ⟨by rw [hr], Or.inl ⟨by rw [hr]; decide, rfl, rfl, rfl⟩⟩
    · exact absurd hr hr2
theorem wl_market : Cond.static yL_market ∈ lw_tbl ∧ Cond.codeWith yL_market cL_market 4 (some .int) [(0, 9, 12, 13)] ∈ lw_tbl ∧ (parseMethodDescriptor yL_market.desc).map (fun d => d.parameters.length) = some 3 := ⟨(List.mem_of_getElem? (i := 712) (by decide +kernel)), (List.mem_of_getElem? (i := 713) (by decide +kernel)), by decide +kernel⟩
set_option maxHeartbeats 4000000 in
set_option maxRecDepth 100000 in
theorem k_L_market (lo d : Nat) (hd : 1 ≤ d) (J : Nat → Nat → Int) (G : Nat → Nat → Int64) (F : Nat → Nat → Option Nat) {x0 : Int32} {r : Int} (hr2 : r ≠ 2) {Φ : Int → (Nat → Nat → Int) → (Nat → Nat → Int64) → (Nat → Nat → Option Nat) → Prop} (hct : zCtX lo yX4_market cX4_market 2 (some .int) (d - 1) 1 6 [.ref (lo + 0), .int x0] (zM J) G F (zPI r Φ) (zPX r "java/lang/IllegalArgumentException" "java/lang/IllegalArgumentException" (zM J) G F)) : zCtH lo yL_market cL_market 4 (some .int) [(0, 9, 12, 13)] d 1 6 [.ref (lo + 0), .int x0, .ref (lo + 56)] (zM J) G F (zWI r Φ J G F) := by
  refine zCtH.mk (by decide) wl_market.2.1 (Nat.le_of_ble_eq_true rfl) ?_
  intro p l e s m args below meth c D cA X Y hN hx
  refine zG_aload_n X dL_market_0 rfl ?_
  refine zj_iconst X dL_market_1 ?_
  refine zG_aload_n X dL_market_2 rfl ?_
  refine zG_iload_n X dL_market_3 rfl ?_
  refine zG_callX (as2 := [_]) rfl X Y hct dL_market_4 mv_X4_market ((List.mem_of_getElem? (i := 714) (by decide +kernel))) rfl rfl (by decide) rfl (by show d - 1 + 1 ≤ d; omega) (by show 19 + 2 + 35 * (d - 1) ≤ 35 * d; omega) (Nat.le_of_ble_eq_true rfl) (Nat.le_of_ble_eq_true rfl) (Nat.le_of_ble_eq_true rfl) ?_ ?_
  · rintro v I3 G3 F3 ⟨hr0, a, J2, rfl, rfl, hphi⟩
    refine zG_i2l X dL_market_7 ?_
    refine zj_lastore X dL_market_8 (by first | rfl | assumption) (by first | decide | omega) (0) (by omega) (by omega) ?_
    refine zG_goto X dL_market_9 (tgt := 15) (by decide) ?_
    refine zj_iconst X dL_market_15 ?_
    refine zG_iretX X dL_market_16 rfl (Nat.le_of_ble_eq_true rfl) (Nat.le_of_ble_eq_true rfl) ?_
    exact ⟨by rw [hr0], Or.inr ⟨hr0, a, J2, G3, rfl, rfl, hphi⟩⟩
  · intro E I3 G3 F3 q hPX
    obtain ⟨hE, rfl, rfl, rfl⟩ := hPX
    rcases hE with ⟨hr, rfl⟩ | ⟨hr, rfl⟩
    · refine zG_catch X [] ⟨0, 9, 12, 13⟩ [] (by rw [hx]; rfl) (fun z h => by cases h) (by decide) (by decide) lkL_13 cast_a ?_
      refine zG_astore_n X dL_market_12 (by decide) rfl ?_
      refine zj_iconst X dL_market_13 ?_
      refine zG_iretX X dL_market_14 rfl (Nat.le_of_ble_eq_true rfl) (Nat.le_of_ble_eq_true rfl) ?_
      exact ⟨by rw [hr], Or.inl ⟨by rw [hr]; decide, rfl, rfl, rfl⟩⟩
    · exact absurd hr hr2
theorem wl_nextMeeting : Cond.static yL_nextMeeting ∈ lw_tbl ∧ Cond.codeWith yL_nextMeeting cL_nextMeeting 4 (some .int) [(0, 9, 12, 13)] ∈ lw_tbl ∧ (parseMethodDescriptor yL_nextMeeting.desc).map (fun d => d.parameters.length) = some 3 := ⟨(List.mem_of_getElem? (i := 719) (by decide +kernel)), (List.mem_of_getElem? (i := 720) (by decide +kernel)), by decide +kernel⟩
set_option maxHeartbeats 4000000 in
set_option maxRecDepth 100000 in
theorem k_L_nextMeeting (lo d : Nat) (hd : 1 ≤ d) (J : Nat → Nat → Int) (G : Nat → Nat → Int64) (F : Nat → Nat → Option Nat) {x0 : Int32} {r : Int} (hr2 : r ≠ 2) {Φ : Int → (Nat → Nat → Int) → (Nat → Nat → Int64) → (Nat → Nat → Option Nat) → Prop} (hct : zCtX lo yX4_nextMeeting cX4_nextMeeting 3 (some .int) (d - 1) 1 6 [.ref (lo + 0), .int x0] (zM J) G F (zPI r Φ) (zPX r "java/lang/IllegalArgumentException" "java/lang/IllegalArgumentException" (zM J) G F)) : zCtH lo yL_nextMeeting cL_nextMeeting 4 (some .int) [(0, 9, 12, 13)] d 1 6 [.ref (lo + 0), .int x0, .ref (lo + 56)] (zM J) G F (zWI r Φ J G F) := by
  refine zCtH.mk (by decide) wl_nextMeeting.2.1 (Nat.le_of_ble_eq_true rfl) ?_
  intro p l e s m args below meth c D cA X Y hN hx
  refine zG_aload_n X dL_nextMeeting_0 rfl ?_
  refine zj_iconst X dL_nextMeeting_1 ?_
  refine zG_aload_n X dL_nextMeeting_2 rfl ?_
  refine zG_iload_n X dL_nextMeeting_3 rfl ?_
  refine zG_callX (as2 := [_]) rfl X Y hct dL_nextMeeting_4 mv_X4_nextMeeting ((List.mem_of_getElem? (i := 721) (by decide +kernel))) rfl rfl (by decide) rfl (by show d - 1 + 1 ≤ d; omega) (by show 19 + 3 + 35 * (d - 1) ≤ 35 * d; omega) (Nat.le_of_ble_eq_true rfl) (Nat.le_of_ble_eq_true rfl) (Nat.le_of_ble_eq_true rfl) ?_ ?_
  · rintro v I3 G3 F3 ⟨hr0, a, J2, rfl, rfl, hphi⟩
    refine zG_i2l X dL_nextMeeting_7 ?_
    refine zj_lastore X dL_nextMeeting_8 (by first | rfl | assumption) (by first | decide | omega) (0) (by omega) (by omega) ?_
    refine zG_goto X dL_nextMeeting_9 (tgt := 15) (by decide) ?_
    refine zj_iconst X dL_nextMeeting_15 ?_
    refine zG_iretX X dL_nextMeeting_16 rfl (Nat.le_of_ble_eq_true rfl) (Nat.le_of_ble_eq_true rfl) ?_
    exact ⟨by rw [hr0], Or.inr ⟨hr0, a, J2, G3, rfl, rfl, hphi⟩⟩
  · intro E I3 G3 F3 q hPX
    obtain ⟨hE, rfl, rfl, rfl⟩ := hPX
    rcases hE with ⟨hr, rfl⟩ | ⟨hr, rfl⟩
    · refine zG_catch X [] ⟨0, 9, 12, 13⟩ [] (by rw [hx]; rfl) (fun z h => by cases h) (by decide) (by decide) lkL_13 cast_a ?_
      refine zG_astore_n X dL_nextMeeting_12 (by decide) rfl ?_
      refine zj_iconst X dL_nextMeeting_13 ?_
      refine zG_iretX X dL_nextMeeting_14 rfl (Nat.le_of_ble_eq_true rfl) (Nat.le_of_ble_eq_true rfl) ?_
      exact ⟨by rw [hr], Or.inl ⟨by rw [hr]; decide, rfl, rfl, rfl⟩⟩
    · exact absurd hr hr2
theorem wl_byRemainders : Cond.static yL_byRemainders ∈ lw_tbl ∧ Cond.codeWith yL_byRemainders cL_byRemainders 4 (some .int) [(0, 8, 11, 13)] ∈ lw_tbl ∧ (parseMethodDescriptor yL_byRemainders.desc).map (fun d => d.parameters.length) = some 3 := ⟨(List.mem_of_getElem? (i := 738) (by decide +kernel)), (List.mem_of_getElem? (i := 739) (by decide +kernel)), by decide +kernel⟩
set_option maxHeartbeats 4000000 in
set_option maxRecDepth 100000 in
theorem k_L_byRemainders (lo d : Nat) (hd : 1 ≤ d) (J : Nat → Nat → Int) (G : Nat → Nat → Int64) (F : Nat → Nat → Option Nat) {x0 : Int32} {r : Int} (hr2 : r ≠ 2) {Φ : Int → (Nat → Nat → Int) → (Nat → Nat → Int64) → (Nat → Nat → Option Nat) → Prop} (hct : zCtX lo yX4_byRemainders cX4_byRemainders 8 (some .long) (d - 1) 1 6 [.ref (lo + 0), .int x0] (zM J) G F (zPL r Φ) (zPX r "java/lang/IllegalArgumentException" "java/lang/IllegalArgumentException" (zM J) G F)) : zCtH lo yL_byRemainders cL_byRemainders 4 (some .int) [(0, 8, 11, 13)] d 1 6 [.ref (lo + 0), .int x0, .ref (lo + 56)] (zM J) G F (zWL r Φ J G F) := by
  refine zCtH.mk (by decide) wl_byRemainders.2.1 (Nat.le_of_ble_eq_true rfl) ?_
  intro p l e s m args below meth c D cA X Y hN hx
  refine zG_aload_n X dL_byRemainders_0 rfl ?_
  refine zj_iconst X dL_byRemainders_1 ?_
  refine zG_aload_n X dL_byRemainders_2 rfl ?_
  refine zG_iload_n X dL_byRemainders_3 rfl ?_
  refine zG_callX (as2 := [_]) rfl X Y hct dL_byRemainders_4 mv_X4_byRemainders ((List.mem_of_getElem? (i := 740) (by decide +kernel))) rfl rfl (by decide) rfl (by show d - 1 + 1 ≤ d; omega) (by show 19 + 8 + 35 * (d - 1) ≤ 35 * d; omega) (Nat.le_of_ble_eq_true rfl) (Nat.le_of_ble_eq_true rfl) (Nat.le_of_ble_eq_true rfl) ?_ ?_
  · rintro v I3 G3 F3 ⟨hr0, a, J2, rfl, rfl, hphi⟩
    refine zj_lastore X dL_byRemainders_7 (by first | rfl | assumption) (by first | decide | omega) (0) (by omega) (by omega) ?_
    refine zG_goto X dL_byRemainders_8 (tgt := 14) (by decide) ?_
    refine zj_iconst X dL_byRemainders_14 ?_
    refine zG_iretX X dL_byRemainders_15 rfl (Nat.le_of_ble_eq_true rfl) (Nat.le_of_ble_eq_true rfl) ?_
    exact ⟨by rw [hr0], Or.inr ⟨hr0, a, J2, G3, rfl, rfl, hphi⟩⟩
  · intro E I3 G3 F3 q hPX
    obtain ⟨hE, rfl, rfl, rfl⟩ := hPX
    rcases hE with ⟨hr, rfl⟩ | ⟨hr, rfl⟩
    · refine zG_catch X [] ⟨0, 8, 11, 13⟩ [] (by rw [hx]; rfl) (fun z h => by cases h) (by decide) (by decide) lkL_13 cast_a ?_
      refine zG_astore_n X dL_byRemainders_11 (by decide) rfl ?_
      refine zj_iconst X dL_byRemainders_12 ?_
      refine zG_iretX X dL_byRemainders_13 rfl (Nat.le_of_ble_eq_true rfl) (Nat.le_of_ble_eq_true rfl) ?_
      exact ⟨by rw [hr], Or.inl ⟨by rw [hr]; decide, rfl, rfl, rfl⟩⟩
    · exact absurd hr hr2
theorem wl_multiple : Cond.static yL_multiple ∈ lw_tbl ∧ Cond.codeWith yL_multiple cL_multiple 4 (some .int) [(0, 8, 11, 13)] ∈ lw_tbl ∧ (parseMethodDescriptor yL_multiple.desc).map (fun d => d.parameters.length) = some 3 := ⟨(List.mem_of_getElem? (i := 752) (by decide +kernel)), (List.mem_of_getElem? (i := 753) (by decide +kernel)), by decide +kernel⟩
set_option maxHeartbeats 4000000 in
set_option maxRecDepth 100000 in
theorem k_L_multiple (lo d : Nat) (hd : 1 ≤ d) (J : Nat → Nat → Int) (G : Nat → Nat → Int64) (F : Nat → Nat → Option Nat) {x0 : Int32} {r : Int} (hr2 : r ≠ 2) {Φ : Int → (Nat → Nat → Int) → (Nat → Nat → Int64) → (Nat → Nat → Option Nat) → Prop} (hct : zCtX lo yX4_multiple cX4_multiple 5 (some .long) (d - 1) 1 6 [.ref (lo + 0), .int x0] (zM J) G F (zPL r Φ) (zPX r "java/lang/IllegalArgumentException" "java/lang/IllegalArgumentException" (zM J) G F)) : zCtH lo yL_multiple cL_multiple 4 (some .int) [(0, 8, 11, 13)] d 1 6 [.ref (lo + 0), .int x0, .ref (lo + 56)] (zM J) G F (zWL r Φ J G F) := by
  refine zCtH.mk (by decide) wl_multiple.2.1 (Nat.le_of_ble_eq_true rfl) ?_
  intro p l e s m args below meth c D cA X Y hN hx
  refine zG_aload_n X dL_multiple_0 rfl ?_
  refine zj_iconst X dL_multiple_1 ?_
  refine zG_aload_n X dL_multiple_2 rfl ?_
  refine zG_iload_n X dL_multiple_3 rfl ?_
  refine zG_callX (as2 := [_]) rfl X Y hct dL_multiple_4 mv_X4_multiple ((List.mem_of_getElem? (i := 754) (by decide +kernel))) rfl rfl (by decide) rfl (by show d - 1 + 1 ≤ d; omega) (by show 19 + 5 + 35 * (d - 1) ≤ 35 * d; omega) (Nat.le_of_ble_eq_true rfl) (Nat.le_of_ble_eq_true rfl) (Nat.le_of_ble_eq_true rfl) ?_ ?_
  · rintro v I3 G3 F3 ⟨hr0, a, J2, rfl, rfl, hphi⟩
    refine zj_lastore X dL_multiple_7 (by first | rfl | assumption) (by first | decide | omega) (0) (by omega) (by omega) ?_
    refine zG_goto X dL_multiple_8 (tgt := 14) (by decide) ?_
    refine zj_iconst X dL_multiple_14 ?_
    refine zG_iretX X dL_multiple_15 rfl (Nat.le_of_ble_eq_true rfl) (Nat.le_of_ble_eq_true rfl) ?_
    exact ⟨by rw [hr0], Or.inr ⟨hr0, a, J2, G3, rfl, rfl, hphi⟩⟩
  · intro E I3 G3 F3 q hPX
    obtain ⟨hE, rfl, rfl, rfl⟩ := hPX
    rcases hE with ⟨hr, rfl⟩ | ⟨hr, rfl⟩
    · refine zG_catch X [] ⟨0, 8, 11, 13⟩ [] (by rw [hx]; rfl) (fun z h => by cases h) (by decide) (by decide) lkL_13 cast_a ?_
      refine zG_astore_n X dL_multiple_11 (by decide) rfl ?_
      refine zj_iconst X dL_multiple_12 ?_
      refine zG_iretX X dL_multiple_13 rfl (Nat.le_of_ble_eq_true rfl) (Nat.le_of_ble_eq_true rfl) ?_
      exact ⟨by rw [hr], Or.inl ⟨by rw [hr]; decide, rfl, rfl, rfl⟩⟩
    · exact absurd hr hr2
theorem wl_errors : Cond.static yL_errors ∈ lw_tbl ∧ Cond.codeWith yL_errors cL_errors 4 (some .int) [(0, 9, 12, 13)] ∈ lw_tbl ∧ (parseMethodDescriptor yL_errors.desc).map (fun d => d.parameters.length) = some 3 := ⟨(List.mem_of_getElem? (i := 759) (by decide +kernel)), (List.mem_of_getElem? (i := 760) (by decide +kernel)), by decide +kernel⟩
set_option maxHeartbeats 4000000 in
set_option maxRecDepth 100000 in
theorem k_L_errors (lo d : Nat) (hd : 1 ≤ d) (J : Nat → Nat → Int) (G : Nat → Nat → Int64) (F : Nat → Nat → Option Nat) {x0 : Int32} {r : Int} (hr2 : r ≠ 2) {Φ : Int → (Nat → Nat → Int) → (Nat → Nat → Int64) → (Nat → Nat → Option Nat) → Prop} (hct : zCtX lo yX4_errors cX4_errors 6 (some .int) (d - 1) 1 6 [.ref (lo + 0), .int x0] (zM J) G F (zPI r Φ) (zPX r "java/lang/IllegalArgumentException" "java/lang/IllegalArgumentException" (zM J) G F)) : zCtH lo yL_errors cL_errors 4 (some .int) [(0, 9, 12, 13)] d 1 6 [.ref (lo + 0), .int x0, .ref (lo + 56)] (zM J) G F (zWI r Φ J G F) := by
  refine zCtH.mk (by decide) wl_errors.2.1 (Nat.le_of_ble_eq_true rfl) ?_
  intro p l e s m args below meth c D cA X Y hN hx
  refine zG_aload_n X dL_errors_0 rfl ?_
  refine zj_iconst X dL_errors_1 ?_
  refine zG_aload_n X dL_errors_2 rfl ?_
  refine zG_iload_n X dL_errors_3 rfl ?_
  refine zG_callX (as2 := [_]) rfl X Y hct dL_errors_4 mv_X4_errors ((List.mem_of_getElem? (i := 761) (by decide +kernel))) rfl rfl (by decide) rfl (by show d - 1 + 1 ≤ d; omega) (by show 19 + 6 + 35 * (d - 1) ≤ 35 * d; omega) (Nat.le_of_ble_eq_true rfl) (Nat.le_of_ble_eq_true rfl) (Nat.le_of_ble_eq_true rfl) ?_ ?_
  · rintro v I3 G3 F3 ⟨hr0, a, J2, rfl, rfl, hphi⟩
    refine zG_i2l X dL_errors_7 ?_
    refine zj_lastore X dL_errors_8 (by first | rfl | assumption) (by first | decide | omega) (0) (by omega) (by omega) ?_
    refine zG_goto X dL_errors_9 (tgt := 15) (by decide) ?_
    refine zj_iconst X dL_errors_15 ?_
    refine zG_iretX X dL_errors_16 rfl (Nat.le_of_ble_eq_true rfl) (Nat.le_of_ble_eq_true rfl) ?_
    exact ⟨by rw [hr0], Or.inr ⟨hr0, a, J2, G3, rfl, rfl, hphi⟩⟩
  · intro E I3 G3 F3 q hPX
    obtain ⟨hE, rfl, rfl, rfl⟩ := hPX
    rcases hE with ⟨hr, rfl⟩ | ⟨hr, rfl⟩
    · refine zG_catch X [] ⟨0, 9, 12, 13⟩ [] (by rw [hx]; rfl) (fun z h => by cases h) (by decide) (by decide) lkL_13 cast_a ?_
      refine zG_astore_n X dL_errors_12 (by decide) rfl ?_
      refine zj_iconst X dL_errors_13 ?_
      refine zG_iretX X dL_errors_14 rfl (Nat.le_of_ble_eq_true rfl) (Nat.le_of_ble_eq_true rfl) ?_
      exact ⟨by rw [hr], Or.inl ⟨by rw [hr]; decide, rfl, rfl, rfl⟩⟩
    · exact absurd hr hr2
theorem wl_bestLag : Cond.static yL_bestLag ∈ lw_tbl ∧ Cond.codeWith yL_bestLag cL_bestLag 4 (some .int) [(0, 9, 12, 13)] ∈ lw_tbl ∧ (parseMethodDescriptor yL_bestLag.desc).map (fun d => d.parameters.length) = some 3 := ⟨(List.mem_of_getElem? (i := 775) (by decide +kernel)), (List.mem_of_getElem? (i := 776) (by decide +kernel)), by decide +kernel⟩
set_option maxHeartbeats 4000000 in
set_option maxRecDepth 100000 in
theorem k_L_bestLag (lo d : Nat) (hd : 1 ≤ d) (J : Nat → Nat → Int) (G : Nat → Nat → Int64) (F : Nat → Nat → Option Nat) {x0 : Int32} {r : Int} (hr2 : r ≠ 2) {Φ : Int → (Nat → Nat → Int) → (Nat → Nat → Int64) → (Nat → Nat → Option Nat) → Prop} (hct : zCtX lo yX4_bestLag cX4_bestLag 6 (some .int) (d - 1) 1 6 [.ref (lo + 0), .int x0] (zM J) G F (zPI r Φ) (zPX r "java/lang/IllegalArgumentException" "java/lang/IllegalArgumentException" (zM J) G F)) : zCtH lo yL_bestLag cL_bestLag 4 (some .int) [(0, 9, 12, 13)] d 1 6 [.ref (lo + 0), .int x0, .ref (lo + 56)] (zM J) G F (zWI r Φ J G F) := by
  refine zCtH.mk (by decide) wl_bestLag.2.1 (Nat.le_of_ble_eq_true rfl) ?_
  intro p l e s m args below meth c D cA X Y hN hx
  refine zG_aload_n X dL_bestLag_0 rfl ?_
  refine zj_iconst X dL_bestLag_1 ?_
  refine zG_aload_n X dL_bestLag_2 rfl ?_
  refine zG_iload_n X dL_bestLag_3 rfl ?_
  refine zG_callX (as2 := [_]) rfl X Y hct dL_bestLag_4 mv_X4_bestLag ((List.mem_of_getElem? (i := 777) (by decide +kernel))) rfl rfl (by decide) rfl (by show d - 1 + 1 ≤ d; omega) (by show 19 + 6 + 35 * (d - 1) ≤ 35 * d; omega) (Nat.le_of_ble_eq_true rfl) (Nat.le_of_ble_eq_true rfl) (Nat.le_of_ble_eq_true rfl) ?_ ?_
  · rintro v I3 G3 F3 ⟨hr0, a, J2, rfl, rfl, hphi⟩
    refine zG_i2l X dL_bestLag_7 ?_
    refine zj_lastore X dL_bestLag_8 (by first | rfl | assumption) (by first | decide | omega) (0) (by omega) (by omega) ?_
    refine zG_goto X dL_bestLag_9 (tgt := 15) (by decide) ?_
    refine zj_iconst X dL_bestLag_15 ?_
    refine zG_iretX X dL_bestLag_16 rfl (Nat.le_of_ble_eq_true rfl) (Nat.le_of_ble_eq_true rfl) ?_
    exact ⟨by rw [hr0], Or.inr ⟨hr0, a, J2, G3, rfl, rfl, hphi⟩⟩
  · intro E I3 G3 F3 q hPX
    obtain ⟨hE, rfl, rfl, rfl⟩ := hPX
    rcases hE with ⟨hr, rfl⟩ | ⟨hr, rfl⟩
    · refine zG_catch X [] ⟨0, 9, 12, 13⟩ [] (by rw [hx]; rfl) (fun z h => by cases h) (by decide) (by decide) lkL_13 cast_a ?_
      refine zG_astore_n X dL_bestLag_12 (by decide) rfl ?_
      refine zj_iconst X dL_bestLag_13 ?_
      refine zG_iretX X dL_bestLag_14 rfl (Nat.le_of_ble_eq_true rfl) (Nat.le_of_ble_eq_true rfl) ?_
      exact ⟨by rw [hr], Or.inl ⟨by rw [hr]; decide, rfl, rfl, rfl⟩⟩
    · exact absurd hr hr2
theorem wl_append : Cond.static yL_append ∈ lw_tbl ∧ Cond.codeWith yL_append cL_append 4 (some .int) [(0, 9, 12, 13), (0, 9, 15, 15)] ∈ lw_tbl ∧ (parseMethodDescriptor yL_append.desc).map (fun d => d.parameters.length) = some 3 := ⟨(List.mem_of_getElem? (i := 786) (by decide +kernel)), (List.mem_of_getElem? (i := 787) (by decide +kernel)), by decide +kernel⟩
set_option maxHeartbeats 4000000 in
set_option maxRecDepth 100000 in
theorem k_L_append (lo d : Nat) (hd : 1 ≤ d) (J : Nat → Nat → Int) (G : Nat → Nat → Int64) (F : Nat → Nat → Option Nat) {x0 : Int32} {r : Int} {Φ : Int → (Nat → Nat → Int) → (Nat → Nat → Int64) → (Nat → Nat → Option Nat) → Prop} (hct : zCtX lo yX4_append cX4_append 2 (some .int) (d - 1) 1 6 [.ref (lo + 0), .int x0] (zM J) G F (zPI r Φ) (zPX r "java/lang/IllegalArgumentException" "java/lang/IllegalStateException" (zM J) G F)) : zCtH lo yL_append cL_append 4 (some .int) [(0, 9, 12, 13), (0, 9, 15, 15)] d 1 6 [.ref (lo + 0), .int x0, .ref (lo + 56)] (zM J) G F (zWI r Φ J G F) := by
  refine zCtH.mk (by decide) wl_append.2.1 (Nat.le_of_ble_eq_true rfl) ?_
  intro p l e s m args below meth c D cA X Y hN hx
  refine zG_aload_n X dL_append_0 rfl ?_
  refine zj_iconst X dL_append_1 ?_
  refine zG_aload_n X dL_append_2 rfl ?_
  refine zG_iload_n X dL_append_3 rfl ?_
  refine zG_callX (as2 := [_]) rfl X Y hct dL_append_4 mv_X4_append ((List.mem_of_getElem? (i := 788) (by decide +kernel))) rfl rfl (by decide) rfl (by show d - 1 + 1 ≤ d; omega) (by show 19 + 2 + 35 * (d - 1) ≤ 35 * d; omega) (Nat.le_of_ble_eq_true rfl) (Nat.le_of_ble_eq_true rfl) (Nat.le_of_ble_eq_true rfl) ?_ ?_
  · rintro v I3 G3 F3 ⟨hr0, a, J2, rfl, rfl, hphi⟩
    refine zG_i2l X dL_append_7 ?_
    refine zj_lastore X dL_append_8 (by first | rfl | assumption) (by first | decide | omega) (0) (by omega) (by omega) ?_
    refine zG_goto X dL_append_9 (tgt := 18) (by decide) ?_
    refine zj_iconst X dL_append_18 ?_
    refine zG_iretX X dL_append_19 rfl (Nat.le_of_ble_eq_true rfl) (Nat.le_of_ble_eq_true rfl) ?_
    exact ⟨by rw [hr0], Or.inr ⟨hr0, a, J2, G3, rfl, rfl, hphi⟩⟩
  · intro E I3 G3 F3 q hPX
    obtain ⟨hE, rfl, rfl, rfl⟩ := hPX
    rcases hE with ⟨hr, rfl⟩ | ⟨hr, rfl⟩
    · refine zG_catch X [] ⟨0, 9, 12, 13⟩ [⟨0, 9, 15, 15⟩] (by rw [hx]; rfl) (fun z h => by cases h) (by decide) (by decide) lkL_13 cast_a ?_
      refine zG_astore_n X dL_append_12 (by decide) rfl ?_
      refine zj_iconst X dL_append_13 ?_
      refine zG_iretX X dL_append_14 rfl (Nat.le_of_ble_eq_true rfl) (Nat.le_of_ble_eq_true rfl) ?_
      exact ⟨by rw [hr], Or.inl ⟨by rw [hr]; decide, rfl, rfl, rfl⟩⟩
    · refine zG_catch X [⟨0, 9, 12, 13⟩] ⟨0, 9, 15, 15⟩ [] (by rw [hx]; rfl) (fun z hz => Or.inr (by rw [List.mem_singleton] at hz; subst hz; exact ⟨by decide, "java/lang/IllegalArgumentException", X.2.2.2.2.1 _ lkL_13 rfl _, hN.1⟩)) (by decide) (by decide) lkL_15 cast_s ?_
      refine zG_astore_n X dL_append_15 (by decide) rfl ?_
      refine zj_iconst X dL_append_16 ?_
      refine zG_iretX X dL_append_17 rfl (Nat.le_of_ble_eq_true rfl) (Nat.le_of_ble_eq_true rfl) ?_
      exact ⟨by rw [hr], Or.inl ⟨by rw [hr]; decide, rfl, rfl, rfl⟩⟩
theorem wl_undo : Cond.static yL_undo ∈ lw_tbl ∧ Cond.codeWith yL_undo cL_undo 3 (some .int) [(0, 8, 11, 15)] ∈ lw_tbl ∧ (parseMethodDescriptor yL_undo.desc).map (fun d => d.parameters.length) = some 2 := ⟨(List.mem_of_getElem? (i := 795) (by decide +kernel)), (List.mem_of_getElem? (i := 796) (by decide +kernel)), by decide +kernel⟩
set_option maxHeartbeats 4000000 in
set_option maxRecDepth 100000 in
theorem k_L_undo (lo d : Nat) (hd : 1 ≤ d) (J : Nat → Nat → Int) (G : Nat → Nat → Int64) (F : Nat → Nat → Option Nat) {r : Int} (hr2 : r ≠ 2) {Φ : Int → (Nat → Nat → Int) → (Nat → Nat → Int64) → (Nat → Nat → Option Nat) → Prop} (hct : zCtX lo yX4_undo cX4_undo 1 (some .int) (d - 1) 1 6 [.ref (lo + 0)] (zM J) G F (zPI r Φ) (zPX r "java/lang/IllegalStateException" "java/lang/IllegalStateException" (zM J) G F)) : zCtH lo yL_undo cL_undo 3 (some .int) [(0, 8, 11, 15)] d 1 6 [.ref (lo + 0), .ref (lo + 56)] (zM J) G F (zWI r Φ J G F) := by
  refine zCtH.mk (by decide) wl_undo.2.1 (Nat.le_of_ble_eq_true rfl) ?_
  intro p l e s m args below meth c D cA X Y hN hx
  refine zG_aload_n X dL_undo_0 rfl ?_
  refine zj_iconst X dL_undo_1 ?_
  refine zG_aload_n X dL_undo_2 rfl ?_
  refine zG_callX (as2 := []) rfl X Y hct dL_undo_3 mv_X4_undo ((List.mem_of_getElem? (i := 797) (by decide +kernel))) rfl rfl (by decide) rfl (by show d - 1 + 1 ≤ d; omega) (by show 19 + 1 + 35 * (d - 1) ≤ 35 * d; omega) (Nat.le_of_ble_eq_true rfl) (Nat.le_of_ble_eq_true rfl) (Nat.le_of_ble_eq_true rfl) ?_ ?_
  · rintro v I3 G3 F3 ⟨hr0, a, J2, rfl, rfl, hphi⟩
    refine zG_i2l X dL_undo_6 ?_
    refine zj_lastore X dL_undo_7 (by first | rfl | assumption) (by first | decide | omega) (0) (by omega) (by omega) ?_
    refine zG_goto X dL_undo_8 (tgt := 14) (by decide) ?_
    refine zj_iconst X dL_undo_14 ?_
    refine zG_iretX X dL_undo_15 rfl (Nat.le_of_ble_eq_true rfl) (Nat.le_of_ble_eq_true rfl) ?_
    exact ⟨by rw [hr0], Or.inr ⟨hr0, a, J2, G3, rfl, rfl, hphi⟩⟩
  · intro E I3 G3 F3 q hPX
    obtain ⟨hE, rfl, rfl, rfl⟩ := hPX
    rcases hE with ⟨hr, rfl⟩ | ⟨hr, rfl⟩
    · refine zG_catch X [] ⟨0, 8, 11, 15⟩ [] (by rw [hx]; rfl) (fun z h => by cases h) (by decide) (by decide) lkL_15 cast_s ?_
      refine zG_astore_n X dL_undo_11 (by decide) rfl ?_
      refine zj_iconst X dL_undo_12 ?_
      refine zG_iretX X dL_undo_13 rfl (Nat.le_of_ble_eq_true rfl) (Nat.le_of_ble_eq_true rfl) ?_
      exact ⟨by rw [hr], Or.inl ⟨by rw [hr]; decide, rfl, rfl, rfl⟩⟩
    · exact absurd hr hr2
