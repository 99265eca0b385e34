/-! the law's wrappers: call the class, catch what it throws, answer for it c1 (the first class of the table) or c2 -/
def zWI (r c1 c2 : Int) (Φ : Int → (Nat → Nat → Int) → (Nat → Nat → Int64) → (Nat → Nat → Option Nat) → Prop) (J : Nat → Nat → Int) (G : Nat → Nat → Int64) (F : Nat → Nat → Option Nat) : List Value → (Nat → Nat → Int32) → (Nat → Nat → Int64) → (Nat → Nat → Option Nat) → Prop := fun v I2 G2 F2 =>
  (r = 0 ∧ ∃ (a : Int) (J2 : Nat → Nat → Int), v = [.int (zI a)] ∧ I2 = zM J2 ∧ Φ a J2 G2 F2) ∨ ((r = 1 ∧ v = [.int (zI c1)] ∨ r = 2 ∧ v = [.int (zI c2)]) ∧ I2 = zM J ∧ G2 = G ∧ F2 = F)
def zWL (r c1 c2 : Int) (Φ : Int → (Nat → Nat → Int) → (Nat → Nat → Int64) → (Nat → Nat → Option Nat) → Prop) (J : Nat → Nat → Int) (G : Nat → Nat → Int64) (F : Nat → Nat → Option Nat) : List Value → (Nat → Nat → Int32) → (Nat → Nat → Int64) → (Nat → Nat → Option Nat) → Prop := fun v I2 G2 F2 =>
  (r = 0 ∧ ∃ (a : Int) (J2 : Nat → Nat → Int), v = [.long (lI a)] ∧ I2 = zM J2 ∧ Φ a J2 G2 F2) ∨ ((r = 1 ∧ v = [.long (lI c1)] ∨ r = 2 ∧ v = [.long (lI c2)]) ∧ I2 = zM J ∧ G2 = G ∧ F2 = F)
theorem cast_a : Cond.castable "java/lang/IllegalArgumentException" "java/lang/IllegalArgumentException" ∈ lw_tbl := (List.mem_of_getElem? (i := 271) (by decide +kernel))
theorem lkL_15 : Cond.classLink RL 15 "java/lang/IllegalArgumentException" ∈ lw_tbl := (List.mem_of_getElem? (i := 264) (by decide +kernel))
theorem cast_s : Cond.castable "java/lang/IllegalStateException" "java/lang/IllegalStateException" ∈ lw_tbl := (List.mem_of_getElem? (i := 357) (by decide +kernel))
theorem lkL_18 : Cond.classLink RL 18 "java/lang/IllegalStateException" ∈ lw_tbl := (List.mem_of_getElem? (i := 350) (by decide +kernel))
theorem cast_i : Cond.castable "java/lang/IndexOutOfBoundsException" "java/lang/IndexOutOfBoundsException" ∈ lw_tbl := (List.mem_of_getElem? (i := 399) (by decide +kernel))
theorem lkL_25 : Cond.classLink RL 25 "java/lang/IndexOutOfBoundsException" ∈ lw_tbl := (List.mem_of_getElem? (i := 388) (by decide +kernel))
theorem iniL : Cond.initialized RL ∈ lw_tbl := (List.mem_of_getElem? (i := 32) (by decide +kernel))
theorem wl_addWheel : Cond.static yL_addWheel ∈ lw_tbl ∧ Cond.codeWith yL_addWheel cL_addWheel 5 (some .int) [(0, 7, 10, 15), (0, 7, 15, 18)] ∈ lw_tbl ∧ (parseMethodDescriptor yL_addWheel.desc).map (fun d => d.parameters.length) = some 3 := ⟨(List.mem_of_getElem? (i := 495) (by decide +kernel)), (List.mem_of_getElem? (i := 496) (by decide +kernel)), by decide +kernel⟩
set_option maxHeartbeats 4000000 in
set_option maxRecDepth 100000 in
theorem k_L_addWheel (lo d : Nat) (hd : 1 ≤ d) (J : Nat → Nat → Int) (G : Nat → Nat → Int64) (F : Nat → Nat → Option Nat) {x0 x1 : Int32} {r : Int} {Φ : Int → (Nat → Nat → Int) → (Nat → Nat → Int64) → (Nat → Nat → Option Nat) → Prop} (hct : zCtX lo yX4_addWheel cX4_addWheel 4 (some .int) (d - 1) 1 6 [.ref (lo + 0), .int x0, .int x1] (zM J) G F (zPI r Φ) (zPX r "java/lang/IllegalArgumentException" "java/lang/IllegalStateException" (zM J) G F)) : zCtH lo yL_addWheel cL_addWheel 5 (some .int) [(0, 7, 10, 15), (0, 7, 15, 18)] d 1 6 [.ref (lo + 0), .int x0, .int x1] (zM J) G F (zWI r (-5000001) (-5000002) Φ J G F) := by
  refine zCtH.mk (by decide) wl_addWheel.2.1 (Nat.le_of_ble_eq_true rfl) ?_
  intro p l e s m args below meth c D cA X Y hN hx
  refine zG_aload_n X dL_addWheel_0 rfl ?_
  refine zG_iload_n X dL_addWheel_1 rfl ?_
  refine zG_iload_n X dL_addWheel_2 rfl ?_
  refine zG_callX (as2 := [_, _]) rfl X Y hct dL_addWheel_3 mv_X4_addWheel ((List.mem_of_getElem? (i := 497) (by decide +kernel))) rfl rfl (by decide) rfl (by show d - 1 + 1 ≤ d; omega) (by show 19 + 4 + 35 * (d - 1) ≤ 35 * d; omega) (Nat.le_of_ble_eq_true rfl) (Nat.le_of_ble_eq_true rfl) (Nat.le_of_ble_eq_true rfl) ?_ ?_
  · rintro v I3 G3 F3 ⟨hr0, a, J2, rfl, rfl, hphi⟩
    refine zG_istore_n X dL_addWheel_6 (by decide) rfl ?_
    refine zG_goto X dL_addWheel_7 (tgt := 20) (by decide) ?_
    refine zG_iload_n X dL_addWheel_20 rfl ?_
    refine zG_iretX X dL_addWheel_21 rfl (Nat.le_of_ble_eq_true rfl) (Nat.le_of_ble_eq_true rfl) ?_
    exact Or.inl ⟨hr0, a, J2, rfl, rfl, hphi⟩
  · intro E I3 G3 F3 q hPX
    obtain ⟨hE, rfl, rfl, rfl⟩ := hPX
    rcases hE with ⟨hr, rfl⟩ | ⟨hr, rfl⟩
    · refine zG_catch X [] ⟨0, 7, 10, 15⟩ [⟨0, 7, 15, 18⟩] (by rw [hx]; rfl) (fun z h => by cases h) (by decide) (by decide) lkL_15 cast_a ?_
      refine zG_astore X dL_addWheel_10 (by decide) rfl ?_
      refine zj_ldc (v := -5000001) X dL_addWheel_12 (List.mem_of_getElem? (i := 346) (by decide +kernel)) ?_
      refine zG_iretX X dL_addWheel_14 rfl (Nat.le_of_ble_eq_true rfl) (Nat.le_of_ble_eq_true rfl) ?_
      exact Or.inr ⟨Or.inl ⟨hr, rfl⟩, rfl, rfl, rfl⟩
    · refine zG_catch X [⟨0, 7, 10, 15⟩] ⟨0, 7, 15, 18⟩ [] (by rw [hx]; rfl) (fun z hz => Or.inr (by rw [List.mem_singleton] at hz; subst hz; exact ⟨by decide, "java/lang/IllegalArgumentException", X.2.2.2.2.1 _ lkL_15 rfl _, hN.1⟩)) (by decide) (by decide) lkL_18 cast_s ?_
      refine zG_astore X dL_addWheel_15 (by decide) rfl ?_
      refine zj_ldc (v := -5000002) X dL_addWheel_17 (List.mem_of_getElem? (i := 379) (by decide +kernel)) ?_
      refine zG_iretX X dL_addWheel_19 rfl (Nat.le_of_ble_eq_true rfl) (Nat.le_of_ble_eq_true rfl) ?_
      exact Or.inr ⟨Or.inr ⟨hr, rfl⟩, rfl, rfl, rfl⟩
theorem wl_setSkip : Cond.static yL_setSkip ∈ lw_tbl ∧ Cond.codeWith yL_setSkip cL_setSkip 7 (some .int) [(0, 11, 14, 25), (0, 11, 19, 15)] ∈ lw_tbl ∧ (parseMethodDescriptor yL_setSkip.desc).map (fun d => d.parameters.length) = some 5 := ⟨(List.mem_of_getElem? (i := 525) (by decide +kernel)), (List.mem_of_getElem? (i := 526) (by decide +kernel)), by decide +kernel⟩
set_option maxHeartbeats 4000000 in
set_option maxRecDepth 100000 in
theorem k_L_setSkip (lo d : Nat) (hd : 1 ≤ d) (J : Nat → Nat → Int) (G : Nat → Nat → Int64) (F : Nat → Nat → Option Nat) {x0 x1 x2 x3 : Int32} {r : Int} {Φ : Int → (Nat → Nat → Int) → (Nat → Nat → Int64) → (Nat → Nat → Option Nat) → Prop} (hct : zCtX lo yX4_setSkip cX4_setSkip 7 (some .int) (d - 1) 1 6 [.ref (lo + 0), .int x0, .int x1, .int x2, .int x3] (zM J) G F (zPI r Φ) (zPX r "java/lang/IndexOutOfBoundsException" "java/lang/IllegalArgumentException" (zM J) G F)) : zCtH lo yL_setSkip cL_setSkip 7 (some .int) [(0, 11, 14, 25), (0, 11, 19, 15)] d 1 6 [.ref (lo + 0), .int x0, .int x1, .int x2, .int x3] (zM J) G F (zWI r (-5000003) (-5000001) Φ J G F) := by
  refine zCtH.mk (by decide) wl_setSkip.2.1 (Nat.le_of_ble_eq_true rfl) ?_
  intro p l e s m args below meth c D cA X Y hN hx
  refine zG_aload_n X dL_setSkip_0 rfl ?_
  refine zG_iload_n X dL_setSkip_1 rfl ?_
  refine zG_iload_n X dL_setSkip_2 rfl ?_
  refine zG_iload_n X dL_setSkip_3 rfl ?_
  refine zG_iload X dL_setSkip_4 rfl ?_
  refine zG_callX (as2 := [_, _, _, _]) rfl X Y hct dL_setSkip_6 mv_X4_setSkip ((List.mem_of_getElem? (i := 527) (by decide +kernel))) rfl rfl (by decide) rfl (by show d - 1 + 1 ≤ d; omega) (by show 19 + 7 + 35 * (d - 1) ≤ 35 * d; omega) (Nat.le_of_ble_eq_true rfl) (Nat.le_of_ble_eq_true rfl) (Nat.le_of_ble_eq_true rfl) ?_ ?_
  · rintro v I3 G3 F3 ⟨hr0, a, J2, rfl, rfl, hphi⟩
    refine zG_istore X dL_setSkip_9 (by decide) rfl ?_
    refine zG_goto X dL_setSkip_11 (tgt := 24) (by decide) ?_
    refine zG_iload X dL_setSkip_24 rfl ?_
    refine zG_iretX X dL_setSkip_26 rfl (Nat.le_of_ble_eq_true rfl) (Nat.le_of_ble_eq_true rfl) ?_
    exact Or.inl ⟨hr0, a, J2, rfl, rfl, hphi⟩
  · intro E I3 G3 F3 q hPX
    obtain ⟨hE, rfl, rfl, rfl⟩ := hPX
    rcases hE with ⟨hr, rfl⟩ | ⟨hr, rfl⟩
    · refine zG_catch X [] ⟨0, 11, 14, 25⟩ [⟨0, 11, 19, 15⟩] (by rw [hx]; rfl) (fun z h => by cases h) (by decide) (by decide) lkL_25 cast_i ?_
      refine zG_astore X dL_setSkip_14 (by decide) rfl ?_
      refine zj_ldc (v := -5000003) X dL_setSkip_16 (List.mem_of_getElem? (i := 424) (by decide +kernel)) ?_
      refine zG_iretX X dL_setSkip_18 rfl (Nat.le_of_ble_eq_true rfl) (Nat.le_of_ble_eq_true rfl) ?_
      exact Or.inr ⟨Or.inl ⟨hr, rfl⟩, rfl, rfl, rfl⟩
    · refine zG_catch X [⟨0, 11, 14, 25⟩] ⟨0, 11, 19, 15⟩ [] (by rw [hx]; rfl) (fun z hz => Or.inr (by rw [List.mem_singleton] at hz; subst hz; exact ⟨by decide, "java/lang/IndexOutOfBoundsException", X.2.2.2.2.1 _ lkL_25 rfl _, hN.2⟩)) (by decide) (by decide) lkL_15 cast_a ?_
      refine zG_astore X dL_setSkip_19 (by decide) rfl ?_
      refine zj_ldc (v := -5000001) X dL_setSkip_21 (List.mem_of_getElem? (i := 346) (by decide +kernel)) ?_
      refine zG_iretX X dL_setSkip_23 rfl (Nat.le_of_ble_eq_true rfl) (Nat.le_of_ble_eq_true rfl) ?_
      exact Or.inr ⟨Or.inr ⟨hr, rfl⟩, rfl, rfl, rfl⟩
theorem wl_clearSkip : Cond.static yL_clearSkip ∈ lw_tbl ∧ Cond.codeWith yL_clearSkip cL_clearSkip 4 (some .int) [(0, 6, 9, 25)] ∈ lw_tbl ∧ (parseMethodDescriptor yL_clearSkip.desc).map (fun d => d.parameters.length) = some 2 := ⟨(List.mem_of_getElem? (i := 543) (by decide +kernel)), (List.mem_of_getElem? (i := 544) (by decide +kernel)), by decide +kernel⟩
set_option maxHeartbeats 4000000 in
set_option maxRecDepth 100000 in
theorem k_L_clearSkip (lo d : Nat) (hd : 1 ≤ d) (J : Nat → Nat → Int) (G : Nat → Nat → Int64) (F : Nat → Nat → Option Nat) {x0 : Int32} {r : Int} (hr2 : r ≠ 2) {Φ : Int → (Nat → Nat → Int) → (Nat → Nat → Int64) → (Nat → Nat → Option Nat) → Prop} (hct : zCtX lo yX4_clearSkip cX4_clearSkip 4 (some .int) (d - 1) 1 6 [.ref (lo + 0), .int x0] (zM J) G F (zPI r Φ) (zPX r "java/lang/IndexOutOfBoundsException" "java/lang/IndexOutOfBoundsException" (zM J) G F)) : zCtH lo yL_clearSkip cL_clearSkip 4 (some .int) [(0, 6, 9, 25)] d 1 6 [.ref (lo + 0), .int x0] (zM J) G F (zWI r (-5000003) (-5000003) Φ J G F) := by
  refine zCtH.mk (by decide) wl_clearSkip.2.1 (Nat.le_of_ble_eq_true rfl) ?_
  intro p l e s m args below meth c D cA X Y hN hx
  refine zG_aload_n X dL_clearSkip_0 rfl ?_
  refine zG_iload_n X dL_clearSkip_1 rfl ?_
  refine zG_callX (as2 := [_]) rfl X Y hct dL_clearSkip_2 mv_X4_clearSkip ((List.mem_of_getElem? (i := 545) (by decide +kernel))) rfl rfl (by decide) rfl (by show d - 1 + 1 ≤ d; omega) (by show 19 + 4 + 35 * (d - 1) ≤ 35 * d; omega) (Nat.le_of_ble_eq_true rfl) (Nat.le_of_ble_eq_true rfl) (Nat.le_of_ble_eq_true rfl) ?_ ?_
  · rintro v I3 G3 F3 ⟨hr0, a, J2, rfl, rfl, hphi⟩
    refine zG_istore_n X dL_clearSkip_5 (by decide) rfl ?_
    refine zG_goto X dL_clearSkip_6 (tgt := 13) (by decide) ?_
    refine zG_iload_n X dL_clearSkip_13 rfl ?_
    refine zG_iretX X dL_clearSkip_14 rfl (Nat.le_of_ble_eq_true rfl) (Nat.le_of_ble_eq_true rfl) ?_
    exact Or.inl ⟨hr0, a, J2, rfl, rfl, hphi⟩
  · intro E I3 G3 F3 q hPX
    obtain ⟨hE, rfl, rfl, rfl⟩ := hPX
    rcases hE with ⟨hr, rfl⟩ | ⟨hr, rfl⟩
    · refine zG_catch X [] ⟨0, 6, 9, 25⟩ [] (by rw [hx]; rfl) (fun z h => by cases h) (by decide) (by decide) lkL_25 cast_i ?_
      refine zG_astore_n X dL_clearSkip_9 (by decide) rfl ?_
      refine zj_ldc (v := -5000003) X dL_clearSkip_10 (List.mem_of_getElem? (i := 424) (by decide +kernel)) ?_
      refine zG_iretX X dL_clearSkip_12 rfl (Nat.le_of_ble_eq_true rfl) (Nat.le_of_ble_eq_true rfl) ?_
      exact Or.inr ⟨Or.inl ⟨hr, rfl⟩, rfl, rfl, rfl⟩
    · exact absurd hr hr2
theorem wl_setWheel : Cond.static yL_setWheel ∈ lw_tbl ∧ Cond.codeWith yL_setWheel cL_setWheel 6 (some .int) [(0, 9, 12, 25), (0, 9, 17, 15)] ∈ lw_tbl ∧ (parseMethodDescriptor yL_setWheel.desc).map (fun d => d.parameters.length) = some 4 := ⟨(List.mem_of_getElem? (i := 551) (by decide +kernel)), (List.mem_of_getElem? (i := 552) (by decide +kernel)), by decide +kernel⟩
set_option maxHeartbeats 4000000 in
set_option maxRecDepth 100000 in
theorem k_L_setWheel (lo d : Nat) (hd : 1 ≤ d) (J : Nat → Nat → Int) (G : Nat → Nat → Int64) (F : Nat → Nat → Option Nat) {x0 x1 x2 : Int32} {r : Int} {Φ : Int → (Nat → Nat → Int) → (Nat → Nat → Int64) → (Nat → Nat → Option Nat) → Prop} (hct : zCtX lo yX4_setWheel cX4_setWheel 6 (some .int) (d - 1) 1 6 [.ref (lo + 0), .int x0, .int x1, .int x2] (zM J) G F (zPI r Φ) (zPX r "java/lang/IndexOutOfBoundsException" "java/lang/IllegalArgumentException" (zM J) G F)) : zCtH lo yL_setWheel cL_setWheel 6 (some .int) [(0, 9, 12, 25), (0, 9, 17, 15)] d 1 6 [.ref (lo + 0), .int x0, .int x1, .int x2] (zM J) G F (zWI r (-5000003) (-5000001) Φ J G F) := by
  refine zCtH.mk (by decide) wl_setWheel.2.1 (Nat.le_of_ble_eq_true rfl) ?_
  intro p l e s m args below meth c D cA X Y hN hx
  refine zG_aload_n X dL_setWheel_0 rfl ?_
  refine zG_iload_n X dL_setWheel_1 rfl ?_
  refine zG_iload_n X dL_setWheel_2 rfl ?_
  refine zG_iload_n X dL_setWheel_3 rfl ?_
  refine zG_callX (as2 := [_, _, _]) rfl X Y hct dL_setWheel_4 mv_X4_setWheel ((List.mem_of_getElem? (i := 553) (by decide +kernel))) rfl rfl (by decide) rfl (by show d - 1 + 1 ≤ d; omega) (by show 19 + 6 + 35 * (d - 1) ≤ 35 * d; omega) (Nat.le_of_ble_eq_true rfl) (Nat.le_of_ble_eq_true rfl) (Nat.le_of_ble_eq_true rfl) ?_ ?_
  · rintro v I3 G3 F3 ⟨hr0, a, J2, rfl, rfl, hphi⟩
    refine zG_istore X dL_setWheel_7 (by decide) rfl ?_
    refine zG_goto X dL_setWheel_9 (tgt := 22) (by decide) ?_
    refine zG_iload X dL_setWheel_22 rfl ?_
    refine zG_iretX X dL_setWheel_24 rfl (Nat.le_of_ble_eq_true rfl) (Nat.le_of_ble_eq_true rfl) ?_
    exact Or.inl ⟨hr0, a, J2, rfl, rfl, hphi⟩
  · intro E I3 G3 F3 q hPX
    obtain ⟨hE, rfl, rfl, rfl⟩ := hPX
    rcases hE with ⟨hr, rfl⟩ | ⟨hr, rfl⟩
    · refine zG_catch X [] ⟨0, 9, 12, 25⟩ [⟨0, 9, 17, 15⟩] (by rw [hx]; rfl) (fun z h => by cases h) (by decide) (by decide) lkL_25 cast_i ?_
      refine zG_astore X dL_setWheel_12 (by decide) rfl ?_
      refine zj_ldc (v := -5000003) X dL_setWheel_14 (List.mem_of_getElem? (i := 424) (by decide +kernel)) ?_
      refine zG_iretX X dL_setWheel_16 rfl (Nat.le_of_ble_eq_true rfl) (Nat.le_of_ble_eq_true rfl) ?_
      exact Or.inr ⟨Or.inl ⟨hr, rfl⟩, rfl, rfl, rfl⟩
    · refine zG_catch X [⟨0, 9, 12, 25⟩] ⟨0, 9, 17, 15⟩ [] (by rw [hx]; rfl) (fun z hz => Or.inr (by rw [List.mem_singleton] at hz; subst hz; exact ⟨by decide, "java/lang/IndexOutOfBoundsException", X.2.2.2.2.1 _ lkL_25 rfl _, hN.2⟩)) (by decide) (by decide) lkL_15 cast_a ?_
      refine zG_astore X dL_setWheel_17 (by decide) rfl ?_
      refine zj_ldc (v := -5000001) X dL_setWheel_19 (List.mem_of_getElem? (i := 346) (by decide +kernel)) ?_
      refine zG_iretX X dL_setWheel_21 rfl (Nat.le_of_ble_eq_true rfl) (Nat.le_of_ble_eq_true rfl) ?_
      exact Or.inr ⟨Or.inr ⟨hr, rfl⟩, rfl, rfl, rfl⟩
theorem wl_setMoon : Cond.static yL_setMoon ∈ lw_tbl ∧ Cond.codeWith yL_setMoon cL_setMoon 5 (some .int) [(0, 7, 10, 25), (0, 7, 15, 15)] ∈ lw_tbl ∧ (parseMethodDescriptor yL_setMoon.desc).map (fun d => d.parameters.length) = some 3 := ⟨(List.mem_of_getElem? (i := 559) (by decide +kernel)), (List.mem_of_getElem? (i := 560) (by decide +kernel)), by decide +kernel⟩
set_option maxHeartbeats 4000000 in
set_option maxRecDepth 100000 in
theorem k_L_setMoon (lo d : Nat) (hd : 1 ≤ d) (J : Nat → Nat → Int) (G : Nat → Nat → Int64) (F : Nat → Nat → Option Nat) {x0 x1 : Int32} {r : Int} {Φ : Int → (Nat → Nat → Int) → (Nat → Nat → Int64) → (Nat → Nat → Option Nat) → Prop} (hct : zCtX lo yX4_setMoon cX4_setMoon 4 (some .int) (d - 1) 1 6 [.ref (lo + 0), .int x0, .int x1] (zM J) G F (zPI r Φ) (zPX r "java/lang/IndexOutOfBoundsException" "java/lang/IllegalArgumentException" (zM J) G F)) : zCtH lo yL_setMoon cL_setMoon 5 (some .int) [(0, 7, 10, 25), (0, 7, 15, 15)] d 1 6 [.ref (lo + 0), .int x0, .int x1] (zM J) G F (zWI r (-5000003) (-5000001) Φ J G F) := by
  refine zCtH.mk (by decide) wl_setMoon.2.1 (Nat.le_of_ble_eq_true rfl) ?_
  intro p l e s m args below meth c D cA X Y hN hx
  refine zG_aload_n X dL_setMoon_0 rfl ?_
  refine zG_iload_n X dL_setMoon_1 rfl ?_
  refine zG_iload_n X dL_setMoon_2 rfl ?_
  refine zG_callX (as2 := [_, _]) rfl X Y hct dL_setMoon_3 mv_X4_setMoon ((List.mem_of_getElem? (i := 561) (by decide +kernel))) rfl rfl (by decide) rfl (by show d - 1 + 1 ≤ d; omega) (by show 19 + 4 + 35 * (d - 1) ≤ 35 * d; omega) (Nat.le_of_ble_eq_true rfl) (Nat.le_of_ble_eq_true rfl) (Nat.le_of_ble_eq_true rfl) ?_ ?_
  · rintro v I3 G3 F3 ⟨hr0, a, J2, rfl, rfl, hphi⟩
    refine zG_istore_n X dL_setMoon_6 (by decide) rfl ?_
    refine zG_goto X dL_setMoon_7 (tgt := 20) (by decide) ?_
    refine zG_iload_n X dL_setMoon_20 rfl ?_
    refine zG_iretX X dL_setMoon_21 rfl (Nat.le_of_ble_eq_true rfl) (Nat.le_of_ble_eq_true rfl) ?_
    exact Or.inl ⟨hr0, a, J2, rfl, rfl, hphi⟩
  · intro E I3 G3 F3 q hPX
    obtain ⟨hE, rfl, rfl, rfl⟩ := hPX
    rcases hE with ⟨hr, rfl⟩ | ⟨hr, rfl⟩
    · refine zG_catch X [] ⟨0, 7, 10, 25⟩ [⟨0, 7, 15, 15⟩] (by rw [hx]; rfl) (fun z h => by cases h) (by decide) (by decide) lkL_25 cast_i ?_
      refine zG_astore X dL_setMoon_10 (by decide) rfl ?_
      refine zj_ldc (v := -5000003) X dL_setMoon_12 (List.mem_of_getElem? (i := 424) (by decide +kernel)) ?_
      refine zG_iretX X dL_setMoon_14 rfl (Nat.le_of_ble_eq_true rfl) (Nat.le_of_ble_eq_true rfl) ?_
      exact Or.inr ⟨Or.inl ⟨hr, rfl⟩, rfl, rfl, rfl⟩
    · refine zG_catch X [⟨0, 7, 10, 25⟩] ⟨0, 7, 15, 15⟩ [] (by rw [hx]; rfl) (fun z hz => Or.inr (by rw [List.mem_singleton] at hz; subst hz; exact ⟨by decide, "java/lang/IndexOutOfBoundsException", X.2.2.2.2.1 _ lkL_25 rfl _, hN.2⟩)) (by decide) (by decide) lkL_15 cast_a ?_
      refine zG_astore X dL_setMoon_15 (by decide) rfl ?_
      refine zj_ldc (v := -5000001) X dL_setMoon_17 (List.mem_of_getElem? (i := 346) (by decide +kernel)) ?_
      refine zG_iretX X dL_setMoon_19 rfl (Nat.le_of_ble_eq_true rfl) (Nat.le_of_ble_eq_true rfl) ?_
      exact Or.inr ⟨Or.inr ⟨hr, rfl⟩, rfl, rfl, rfl⟩
theorem wl_setMarket : Cond.static yL_setMarket ∈ lw_tbl ∧ Cond.codeWith yL_setMarket cL_setMarket 7 (some .int) [(0, 11, 14, 25), (0, 11, 19, 15)] ∈ lw_tbl ∧ (parseMethodDescriptor yL_setMarket.desc).map (fun d => d.parameters.length) = some 5 := ⟨(List.mem_of_getElem? (i := 567) (by decide +kernel)), (List.mem_of_getElem? (i := 568) (by decide +kernel)), by decide +kernel⟩
set_option maxHeartbeats 4000000 in
set_option maxRecDepth 100000 in
theorem k_L_setMarket (lo d : Nat) (hd : 1 ≤ d) (J : Nat → Nat → Int) (G : Nat → Nat → Int64) (F : Nat → Nat → Option Nat) {x0 x1 x2 x3 : Int32} {r : Int} {Φ : Int → (Nat → Nat → Int) → (Nat → Nat → Int64) → (Nat → Nat → Option Nat) → Prop} (hct : zCtX lo yX4_setMarket cX4_setMarket 6 (some .int) (d - 1) 1 6 [.ref (lo + 0), .int x0, .int x1, .int x2, .int x3] (zM J) G F (zPI r Φ) (zPX r "java/lang/IndexOutOfBoundsException" "java/lang/IllegalArgumentException" (zM J) G F)) : zCtH lo yL_setMarket cL_setMarket 7 (some .int) [(0, 11, 14, 25), (0, 11, 19, 15)] d 1 6 [.ref (lo + 0), .int x0, .int x1, .int x2, .int x3] (zM J) G F (zWI r (-5000003) (-5000001) Φ J G F) := by
  refine zCtH.mk (by decide) wl_setMarket.2.1 (Nat.le_of_ble_eq_true rfl) ?_
  intro p l e s m args below meth c D cA X Y hN hx
  refine zG_aload_n X dL_setMarket_0 rfl ?_
  refine zG_iload_n X dL_setMarket_1 rfl ?_
  refine zG_iload_n X dL_setMarket_2 rfl ?_
  refine zG_iload_n X dL_setMarket_3 rfl ?_
  refine zG_iload X dL_setMarket_4 rfl ?_
  refine zG_callX (as2 := [_, _, _, _]) rfl X Y hct dL_setMarket_6 mv_X4_setMarket ((List.mem_of_getElem? (i := 569) (by decide +kernel))) rfl rfl (by decide) rfl (by show d - 1 + 1 ≤ d; omega) (by show 19 + 6 + 35 * (d - 1) ≤ 35 * d; omega) (Nat.le_of_ble_eq_true rfl) (Nat.le_of_ble_eq_true rfl) (Nat.le_of_ble_eq_true rfl) ?_ ?_
  · rintro v I3 G3 F3 ⟨hr0, a, J2, rfl, rfl, hphi⟩
    refine zG_istore X dL_setMarket_9 (by decide) rfl ?_
    refine zG_goto X dL_setMarket_11 (tgt := 24) (by decide) ?_
    refine zG_iload X dL_setMarket_24 rfl ?_
    refine zG_iretX X dL_setMarket_26 rfl (Nat.le_of_ble_eq_true rfl) (Nat.le_of_ble_eq_true rfl) ?_
    exact Or.inl ⟨hr0, a, J2, rfl, rfl, hphi⟩
  · intro E I3 G3 F3 q hPX
    obtain ⟨hE, rfl, rfl, rfl⟩ := hPX
    rcases hE with ⟨hr, rfl⟩ | ⟨hr, rfl⟩
    · refine zG_catch X [] ⟨0, 11, 14, 25⟩ [⟨0, 11, 19, 15⟩] (by rw [hx]; rfl) (fun z h => by cases h) (by decide) (by decide) lkL_25 cast_i ?_
      refine zG_astore X dL_setMarket_14 (by decide) rfl ?_
      refine zj_ldc (v := -5000003) X dL_setMarket_16 (List.mem_of_getElem? (i := 424) (by decide +kernel)) ?_
      refine zG_iretX X dL_setMarket_18 rfl (Nat.le_of_ble_eq_true rfl) (Nat.le_of_ble_eq_true rfl) ?_
      exact Or.inr ⟨Or.inl ⟨hr, rfl⟩, rfl, rfl, rfl⟩
    · refine zG_catch X [⟨0, 11, 14, 25⟩] ⟨0, 11, 19, 15⟩ [] (by rw [hx]; rfl) (fun z hz => Or.inr (by rw [List.mem_singleton] at hz; subst hz; exact ⟨by decide, "java/lang/IndexOutOfBoundsException", X.2.2.2.2.1 _ lkL_25 rfl _, hN.2⟩)) (by decide) (by decide) lkL_15 cast_a ?_
      refine zG_astore X dL_setMarket_19 (by decide) rfl ?_
      refine zj_ldc (v := -5000001) X dL_setMarket_21 (List.mem_of_getElem? (i := 346) (by decide +kernel)) ?_
      refine zG_iretX X dL_setMarket_23 rfl (Nat.le_of_ble_eq_true rfl) (Nat.le_of_ble_eq_true rfl) ?_
      exact Or.inr ⟨Or.inr ⟨hr, rfl⟩, rfl, rfl, rfl⟩
theorem wl_setDay : Cond.static yL_setDay ∈ lw_tbl ∧ Cond.codeWith yL_setDay cL_setDay 5 (some .int) [(0, 7, 10, 15)] ∈ lw_tbl ∧ (parseMethodDescriptor yL_setDay.desc).map (fun d => d.parameters.length) = some 3 := ⟨(List.mem_of_getElem? (i := 575) (by decide +kernel)), (List.mem_of_getElem? (i := 576) (by decide +kernel)), by decide +kernel⟩
set_option maxHeartbeats 4000000 in
set_option maxRecDepth 100000 in
theorem k_L_setDay (lo d : Nat) (hd : 1 ≤ d) (J : Nat → Nat → Int) (G : Nat → Nat → Int64) (F : Nat → Nat → Option Nat) {x0 x1 : Int32} {r : Int} (hr2 : r ≠ 2) {Φ : Int → (Nat → Nat → Int) → (Nat → Nat → Int64) → (Nat → Nat → Option Nat) → Prop} (hct : zCtX lo yX4_setDay cX4_setDay 5 (some .int) (d - 1) 1 6 [.ref (lo + 0), .int x0, .int x1] (zM J) G F (zPI r Φ) (zPX r "java/lang/IllegalArgumentException" "java/lang/IllegalArgumentException" (zM J) G F)) : zCtH lo yL_setDay cL_setDay 5 (some .int) [(0, 7, 10, 15)] d 1 6 [.ref (lo + 0), .int x0, .int x1] (zM J) G F (zWI r (-5000001) (-5000001) Φ J G F) := by
  refine zCtH.mk (by decide) wl_setDay.2.1 (Nat.le_of_ble_eq_true rfl) ?_
  intro p l e s m args below meth c D cA X Y hN hx
  refine zG_aload_n X dL_setDay_0 rfl ?_
  refine zG_iload_n X dL_setDay_1 rfl ?_
  refine zG_iload_n X dL_setDay_2 rfl ?_
  refine zG_callX (as2 := [_, _]) rfl X Y hct dL_setDay_3 mv_X4_setDay ((List.mem_of_getElem? (i := 577) (by decide +kernel))) rfl rfl (by decide) rfl (by show d - 1 + 1 ≤ d; omega) (by show 19 + 5 + 35 * (d - 1) ≤ 35 * d; omega) (Nat.le_of_ble_eq_true rfl) (Nat.le_of_ble_eq_true rfl) (Nat.le_of_ble_eq_true rfl) ?_ ?_
  · rintro v I3 G3 F3 ⟨hr0, a, J2, rfl, rfl, hphi⟩
    refine zG_istore_n X dL_setDay_6 (by decide) rfl ?_
    refine zG_goto X dL_setDay_7 (tgt := 15) (by decide) ?_
    refine zG_iload_n X dL_setDay_15 rfl ?_
    refine zG_iretX X dL_setDay_16 rfl (Nat.le_of_ble_eq_true rfl) (Nat.le_of_ble_eq_true rfl) ?_
    exact Or.inl ⟨hr0, a, J2, rfl, rfl, hphi⟩
  · intro E I3 G3 F3 q hPX
    obtain ⟨hE, rfl, rfl, rfl⟩ := hPX
    rcases hE with ⟨hr, rfl⟩ | ⟨hr, rfl⟩
    · refine zG_catch X [] ⟨0, 7, 10, 15⟩ [] (by rw [hx]; rfl) (fun z h => by cases h) (by decide) (by decide) lkL_15 cast_a ?_
      refine zG_astore X dL_setDay_10 (by decide) rfl ?_
      refine zj_ldc (v := -5000001) X dL_setDay_12 (List.mem_of_getElem? (i := 346) (by decide +kernel)) ?_
      refine zG_iretX X dL_setDay_14 rfl (Nat.le_of_ble_eq_true rfl) (Nat.le_of_ble_eq_true rfl) ?_
      exact Or.inr ⟨Or.inl ⟨hr, rfl⟩, rfl, rfl, rfl⟩
    · exact absurd hr hr2
theorem wl_pass : Cond.static yL_pass ∈ lw_tbl ∧ Cond.codeWith yL_pass cL_pass 4 (some .int) [(0, 6, 9, 15), (0, 6, 13, 18)] ∈ lw_tbl ∧ (parseMethodDescriptor yL_pass.desc).map (fun d => d.parameters.length) = some 2 := ⟨(List.mem_of_getElem? (i := 585) (by decide +kernel)), (List.mem_of_getElem? (i := 586) (by decide +kernel)), by decide +kernel⟩
set_option maxHeartbeats 4000000 in
set_option maxRecDepth 100000 in
theorem k_L_pass (lo d : Nat) (hd : 1 ≤ d) (J : Nat → Nat → Int) (G : Nat → Nat → Int64) (F : Nat → Nat → Option Nat) {x0 : Int32} {r : Int} {Φ : Int → (Nat → Nat → Int) → (Nat → Nat → Int64) → (Nat → Nat → Option Nat) → Prop} (hct : zCtX lo yX4_pass cX4_pass 4 (some .int) (d - 1) 1 6 [.ref (lo + 0), .int x0] (zM J) G F (zPI r Φ) (zPX r "java/lang/IllegalArgumentException" "java/lang/IllegalStateException" (zM J) G F)) : zCtH lo yL_pass cL_pass 4 (some .int) [(0, 6, 9, 15), (0, 6, 13, 18)] d 1 6 [.ref (lo + 0), .int x0] (zM J) G F (zWI r (-5000001) (-5000002) Φ J G F) := by
  refine zCtH.mk (by decide) wl_pass.2.1 (Nat.le_of_ble_eq_true rfl) ?_
  intro p l e s m args below meth c D cA X Y hN hx
  refine zG_aload_n X dL_pass_0 rfl ?_
  refine zG_iload_n X dL_pass_1 rfl ?_
  refine zG_callX (as2 := [_]) rfl X Y hct dL_pass_2 mv_X4_pass ((List.mem_of_getElem? (i := 587) (by decide +kernel))) rfl rfl (by decide) rfl (by show d - 1 + 1 ≤ d; omega) (by show 19 + 4 + 35 * (d - 1) ≤ 35 * d; omega) (Nat.le_of_ble_eq_true rfl) (Nat.le_of_ble_eq_true rfl) (Nat.le_of_ble_eq_true rfl) ?_ ?_
  · rintro v I3 G3 F3 ⟨hr0, a, J2, rfl, rfl, hphi⟩
    refine zG_istore_n X dL_pass_5 (by decide) rfl ?_
    refine zG_goto X dL_pass_6 (tgt := 17) (by decide) ?_
    refine zG_iload_n X dL_pass_17 rfl ?_
    refine zG_iretX X dL_pass_18 rfl (Nat.le_of_ble_eq_true rfl) (Nat.le_of_ble_eq_true rfl) ?_
    exact Or.inl ⟨hr0, a, J2, rfl, rfl, hphi⟩
  · intro E I3 G3 F3 q hPX
    obtain ⟨hE, rfl, rfl, rfl⟩ := hPX
    rcases hE with ⟨hr, rfl⟩ | ⟨hr, rfl⟩
    · refine zG_catch X [] ⟨0, 6, 9, 15⟩ [⟨0, 6, 13, 18⟩] (by rw [hx]; rfl) (fun z h => by cases h) (by decide) (by decide) lkL_15 cast_a ?_
      refine zG_astore_n X dL_pass_9 (by decide) rfl ?_
      refine zj_ldc (v := -5000001) X dL_pass_10 (List.mem_of_getElem? (i := 346) (by decide +kernel)) ?_
      refine zG_iretX X dL_pass_12 rfl (Nat.le_of_ble_eq_true rfl) (Nat.le_of_ble_eq_true rfl) ?_
      exact Or.inr ⟨Or.inl ⟨hr, rfl⟩, rfl, rfl, rfl⟩
    · refine zG_catch X [⟨0, 6, 9, 15⟩] ⟨0, 6, 13, 18⟩ [] (by rw [hx]; rfl) (fun z hz => Or.inr (by rw [List.mem_singleton] at hz; subst hz; exact ⟨by decide, "java/lang/IllegalArgumentException", X.2.2.2.2.1 _ lkL_15 rfl _, hN.1⟩)) (by decide) (by decide) lkL_18 cast_s ?_
      refine zG_astore_n X dL_pass_13 (by decide) rfl ?_
      refine zj_ldc (v := -5000002) X dL_pass_14 (List.mem_of_getElem? (i := 379) (by decide +kernel)) ?_
      refine zG_iretX X dL_pass_16 rfl (Nat.le_of_ble_eq_true rfl) (Nat.le_of_ble_eq_true rfl) ?_
      exact Or.inr ⟨Or.inr ⟨hr, rfl⟩, rfl, rfl, rfl⟩
theorem wl_wheel : Cond.static yL_wheel ∈ lw_tbl ∧ Cond.codeWith yL_wheel cL_wheel 5 (some .int) [(0, 7, 10, 25), (0, 7, 15, 15)] ∈ lw_tbl ∧ (parseMethodDescriptor yL_wheel.desc).map (fun d => d.parameters.length) = some 3 := ⟨(List.mem_of_getElem? (i := 386) (by decide +kernel)), (List.mem_of_getElem? (i := 387) (by decide +kernel)), by decide +kernel⟩
set_option maxHeartbeats 4000000 in
set_option maxRecDepth 100000 in
theorem k_L_wheel (lo d : Nat) (hd : 1 ≤ d) (J : Nat → Nat → Int) (G : Nat → Nat → Int64) (F : Nat → Nat → Option Nat) {x0 x1 : Int32} {r : Int} {Φ : Int → (Nat → Nat → Int) → (Nat → Nat → Int64) → (Nat → Nat → Option Nat) → Prop} (hct : zCtX lo yX4_wheel cX4_wheel 3 (some .int) (d - 1) 1 6 [.ref (lo + 0), .int x0, .int x1] (zM J) G F (zPI r Φ) (zPX r "java/lang/IndexOutOfBoundsException" "java/lang/IllegalArgumentException" (zM J) G F)) : zCtH lo yL_wheel cL_wheel 5 (some .int) [(0, 7, 10, 25), (0, 7, 15, 15)] d 1 6 [.ref (lo + 0), .int x0, .int x1] (zM J) G F (zWI r (-5000003) (-5000001) Φ J G F) := by
  refine zCtH.mk (by decide) wl_wheel.2.1 (Nat.le_of_ble_eq_true rfl) ?_
  intro p l e s m args below meth c D cA X Y hN hx
  refine zG_aload_n X dL_wheel_0 rfl ?_
  refine zG_iload_n X dL_wheel_1 rfl ?_
  refine zG_iload_n X dL_wheel_2 rfl ?_
  refine zG_callX (as2 := [_, _]) rfl X Y hct dL_wheel_3 mv_X4_wheel ((List.mem_of_getElem? (i := 389) (by decide +kernel))) rfl rfl (by decide) rfl (by show d - 1 + 1 ≤ d; omega) (by show 19 + 3 + 35 * (d - 1) ≤ 35 * d; omega) (Nat.le_of_ble_eq_true rfl) (Nat.le_of_ble_eq_true rfl) (Nat.le_of_ble_eq_true rfl) ?_ ?_
  · rintro v I3 G3 F3 ⟨hr0, a, J2, rfl, rfl, hphi⟩
    refine zG_istore_n X dL_wheel_6 (by decide) rfl ?_
    refine zG_goto X dL_wheel_7 (tgt := 20) (by decide) ?_
    refine zG_iload_n X dL_wheel_20 rfl ?_
    refine zG_iretX X dL_wheel_21 rfl (Nat.le_of_ble_eq_true rfl) (Nat.le_of_ble_eq_true rfl) ?_
    exact Or.inl ⟨hr0, a, J2, rfl, rfl, hphi⟩
  · intro E I3 G3 F3 q hPX
    obtain ⟨hE, rfl, rfl, rfl⟩ := hPX
    rcases hE with ⟨hr, rfl⟩ | ⟨hr, rfl⟩
    · refine zG_catch X [] ⟨0, 7, 10, 25⟩ [⟨0, 7, 15, 15⟩] (by rw [hx]; rfl) (fun z h => by cases h) (by decide) (by decide) lkL_25 cast_i ?_
      refine zG_astore X dL_wheel_10 (by decide) rfl ?_
      refine zj_ldc (v := -5000003) X dL_wheel_12 (List.mem_of_getElem? (i := 424) (by decide +kernel)) ?_
      refine zG_iretX X dL_wheel_14 rfl (Nat.le_of_ble_eq_true rfl) (Nat.le_of_ble_eq_true rfl) ?_
      exact Or.inr ⟨Or.inl ⟨hr, rfl⟩, rfl, rfl, rfl⟩
    · refine zG_catch X [⟨0, 7, 10, 25⟩] ⟨0, 7, 15, 15⟩ [] (by rw [hx]; rfl) (fun z hz => Or.inr (by rw [List.mem_singleton] at hz; subst hz; exact ⟨by decide, "java/lang/IndexOutOfBoundsException", X.2.2.2.2.1 _ lkL_25 rfl _, hN.2⟩)) (by decide) (by decide) lkL_15 cast_a ?_
      refine zG_astore X dL_wheel_15 (by decide) rfl ?_
      refine zj_ldc (v := -5000001) X dL_wheel_17 (List.mem_of_getElem? (i := 346) (by decide +kernel)) ?_
      refine zG_iretX X dL_wheel_19 rfl (Nat.le_of_ble_eq_true rfl) (Nat.le_of_ble_eq_true rfl) ?_
      exact Or.inr ⟨Or.inr ⟨hr, rfl⟩, rfl, rfl, rfl⟩
theorem wl_value : Cond.static yL_value ∈ lw_tbl ∧ Cond.codeWith yL_value cL_value 4 (some .int) [(0, 6, 9, 15)] ∈ lw_tbl ∧ (parseMethodDescriptor yL_value.desc).map (fun d => d.parameters.length) = some 2 := ⟨(List.mem_of_getElem? (i := 262) (by decide +kernel)), (List.mem_of_getElem? (i := 263) (by decide +kernel)), by decide +kernel⟩
set_option maxHeartbeats 4000000 in
set_option maxRecDepth 100000 in
theorem k_L_value (lo d : Nat) (hd : 1 ≤ d) (J : Nat → Nat → Int) (G : Nat → Nat → Int64) (F : Nat → Nat → Option Nat) {x0 : Int32} {r : Int} (hr2 : r ≠ 2) {Φ : Int → (Nat → Nat → Int) → (Nat → Nat → Int64) → (Nat → Nat → Option Nat) → Prop} (hct : zCtX lo yX4_value cX4_value 2 (some .int) (d - 1) 1 6 [.ref (lo + 0), .int x0] (zM J) G F (zPI r Φ) (zPX r "java/lang/IllegalArgumentException" "java/lang/IllegalArgumentException" (zM J) G F)) : zCtH lo yL_value cL_value 4 (some .int) [(0, 6, 9, 15)] d 1 6 [.ref (lo + 0), .int x0] (zM J) G F (zWI r (-5000001) (-5000001) Φ J G F) := by
  refine zCtH.mk (by decide) wl_value.2.1 (Nat.le_of_ble_eq_true rfl) ?_
  intro p l e s m args below meth c D cA X Y hN hx
  refine zG_aload_n X dL_value_0 rfl ?_
  refine zG_iload_n X dL_value_1 rfl ?_
  refine zG_callX (as2 := [_]) rfl X Y hct dL_value_2 mv_X4_value ((List.mem_of_getElem? (i := 265) (by decide +kernel))) rfl rfl (by decide) rfl (by show d - 1 + 1 ≤ d; omega) (by show 19 + 2 + 35 * (d - 1) ≤ 35 * d; omega) (Nat.le_of_ble_eq_true rfl) (Nat.le_of_ble_eq_true rfl) (Nat.le_of_ble_eq_true rfl) ?_ ?_
  · rintro v I3 G3 F3 ⟨hr0, a, J2, rfl, rfl, hphi⟩
    refine zG_istore_n X dL_value_5 (by decide) rfl ?_
    refine zG_goto X dL_value_6 (tgt := 13) (by decide) ?_
    refine zG_iload_n X dL_value_13 rfl ?_
    refine zG_iretX X dL_value_14 rfl (Nat.le_of_ble_eq_true rfl) (Nat.le_of_ble_eq_true rfl) ?_
    exact Or.inl ⟨hr0, a, J2, rfl, rfl, hphi⟩
  · intro E I3 G3 F3 q hPX
    obtain ⟨hE, rfl, rfl, rfl⟩ := hPX
    rcases hE with ⟨hr, rfl⟩ | ⟨hr, rfl⟩
    · refine zG_catch X [] ⟨0, 6, 9, 15⟩ [] (by rw [hx]; rfl) (fun z h => by cases h) (by decide) (by decide) lkL_15 cast_a ?_
      refine zG_astore_n X dL_value_9 (by decide) rfl ?_
      refine zj_ldc (v := -5000001) X dL_value_10 (List.mem_of_getElem? (i := 346) (by decide +kernel)) ?_
      refine zG_iretX X dL_value_12 rfl (Nat.le_of_ble_eq_true rfl) (Nat.le_of_ble_eq_true rfl) ?_
      exact Or.inr ⟨Or.inl ⟨hr, rfl⟩, rfl, rfl, rfl⟩
    · exact absurd hr hr2
theorem wl_highWater : Cond.static yL_highWater ∈ lw_tbl ∧ Cond.codeWith yL_highWater cL_highWater 4 (some .int) [(0, 6, 9, 15)] ∈ lw_tbl ∧ (parseMethodDescriptor yL_highWater.desc).map (fun d => d.parameters.length) = some 2 := ⟨(List.mem_of_getElem? (i := 426) (by decide +kernel)), (List.mem_of_getElem? (i := 427) (by decide +kernel)), by decide +kernel⟩
set_option maxHeartbeats 4000000 in
set_option maxRecDepth 100000 in
theorem k_L_highWater (lo d : Nat) (hd : 1 ≤ d) (J : Nat → Nat → Int) (G : Nat → Nat → Int64) (F : Nat → Nat → Option Nat) {x0 : Int32} {r : Int} (hr2 : r ≠ 2) {Φ : Int → (Nat → Nat → Int) → (Nat → Nat → Int64) → (Nat → Nat → Option Nat) → Prop} (hct : zCtX lo yX4_highWater cX4_highWater 2 (some .int) (d - 1) 1 6 [.ref (lo + 0), .int x0] (zM J) G F (zPI r Φ) (zPX r "java/lang/IllegalArgumentException" "java/lang/IllegalArgumentException" (zM J) G F)) : zCtH lo yL_highWater cL_highWater 4 (some .int) [(0, 6, 9, 15)] d 1 6 [.ref (lo + 0), .int x0] (zM J) G F (zWI r (-5000001) (-5000001) Φ J G F) := by
  refine zCtH.mk (by decide) wl_highWater.2.1 (Nat.le_of_ble_eq_true rfl) ?_
  intro p l e s m args below meth c D cA X Y hN hx
  refine zG_aload_n X dL_highWater_0 rfl ?_
  refine zG_iload_n X dL_highWater_1 rfl ?_
  refine zG_callX (as2 := [_]) rfl X Y hct dL_highWater_2 mv_X4_highWater ((List.mem_of_getElem? (i := 428) (by decide +kernel))) rfl rfl (by decide) rfl (by show d - 1 + 1 ≤ d; omega) (by show 19 + 2 + 35 * (d - 1) ≤ 35 * d; omega) (Nat.le_of_ble_eq_true rfl) (Nat.le_of_ble_eq_true rfl) (Nat.le_of_ble_eq_true rfl) ?_ ?_
  · rintro v I3 G3 F3 ⟨hr0, a, J2, rfl, rfl, hphi⟩
    refine zG_istore_n X dL_highWater_5 (by decide) rfl ?_
    refine zG_goto X dL_highWater_6 (tgt := 13) (by decide) ?_
    refine zG_iload_n X dL_highWater_13 rfl ?_
    refine zG_iretX X dL_highWater_14 rfl (Nat.le_of_ble_eq_true rfl) (Nat.le_of_ble_eq_true rfl) ?_
    exact Or.inl ⟨hr0, a, J2, rfl, rfl, hphi⟩
  · intro E I3 G3 F3 q hPX
    obtain ⟨hE, rfl, rfl, rfl⟩ := hPX
    rcases hE with ⟨hr, rfl⟩ | ⟨hr, rfl⟩
    · refine zG_catch X [] ⟨0, 6, 9, 15⟩ [] (by rw [hx]; rfl) (fun z h => by cases h) (by decide) (by decide) lkL_15 cast_a ?_
      refine zG_astore_n X dL_highWater_9 (by decide) rfl ?_
      refine zj_ldc (v := -5000001) X dL_highWater_10 (List.mem_of_getElem? (i := 346) (by decide +kernel)) ?_
      refine zG_iretX X dL_highWater_12 rfl (Nat.le_of_ble_eq_true rfl) (Nat.le_of_ble_eq_true rfl) ?_
      exact Or.inr ⟨Or.inl ⟨hr, rfl⟩, rfl, rfl, rfl⟩
    · exact absurd hr hr2
theorem wl_market : Cond.static yL_market ∈ lw_tbl ∧ Cond.codeWith yL_market cL_market 4 (some .int) [(0, 6, 9, 15)] ∈ lw_tbl ∧ (parseMethodDescriptor yL_market.desc).map (fun d => d.parameters.length) = some 2 := ⟨(List.mem_of_getElem? (i := 456) (by decide +kernel)), (List.mem_of_getElem? (i := 457) (by decide +kernel)), by decide +kernel⟩
set_option maxHeartbeats 4000000 in
set_option maxRecDepth 100000 in
theorem k_L_market (lo d : Nat) (hd : 1 ≤ d) (J : Nat → Nat → Int) (G : Nat → Nat → Int64) (F : Nat → Nat → Option Nat) {x0 : Int32} {r : Int} (hr2 : r ≠ 2) {Φ : Int → (Nat → Nat → Int) → (Nat → Nat → Int64) → (Nat → Nat → Option Nat) → Prop} (hct : zCtX lo yX4_market cX4_market 2 (some .int) (d - 1) 1 6 [.ref (lo + 0), .int x0] (zM J) G F (zPI r Φ) (zPX r "java/lang/IllegalArgumentException" "java/lang/IllegalArgumentException" (zM J) G F)) : zCtH lo yL_market cL_market 4 (some .int) [(0, 6, 9, 15)] d 1 6 [.ref (lo + 0), .int x0] (zM J) G F (zWI r (-5000001) (-5000001) Φ J G F) := by
  refine zCtH.mk (by decide) wl_market.2.1 (Nat.le_of_ble_eq_true rfl) ?_
  intro p l e s m args below meth c D cA X Y hN hx
  refine zG_aload_n X dL_market_0 rfl ?_
  refine zG_iload_n X dL_market_1 rfl ?_
  refine zG_callX (as2 := [_]) rfl X Y hct dL_market_2 mv_X4_market ((List.mem_of_getElem? (i := 458) (by decide +kernel))) rfl rfl (by decide) rfl (by show d - 1 + 1 ≤ d; omega) (by show 19 + 2 + 35 * (d - 1) ≤ 35 * d; omega) (Nat.le_of_ble_eq_true rfl) (Nat.le_of_ble_eq_true rfl) (Nat.le_of_ble_eq_true rfl) ?_ ?_
  · rintro v I3 G3 F3 ⟨hr0, a, J2, rfl, rfl, hphi⟩
    refine zG_istore_n X dL_market_5 (by decide) rfl ?_
    refine zG_goto X dL_market_6 (tgt := 13) (by decide) ?_
    refine zG_iload_n X dL_market_13 rfl ?_
    refine zG_iretX X dL_market_14 rfl (Nat.le_of_ble_eq_true rfl) (Nat.le_of_ble_eq_true rfl) ?_
    exact Or.inl ⟨hr0, a, J2, rfl, rfl, hphi⟩
  · intro E I3 G3 F3 q hPX
    obtain ⟨hE, rfl, rfl, rfl⟩ := hPX
    rcases hE with ⟨hr, rfl⟩ | ⟨hr, rfl⟩
    · refine zG_catch X [] ⟨0, 6, 9, 15⟩ [] (by rw [hx]; rfl) (fun z h => by cases h) (by decide) (by decide) lkL_15 cast_a ?_
      refine zG_astore_n X dL_market_9 (by decide) rfl ?_
      refine zj_ldc (v := -5000001) X dL_market_10 (List.mem_of_getElem? (i := 346) (by decide +kernel)) ?_
      refine zG_iretX X dL_market_12 rfl (Nat.le_of_ble_eq_true rfl) (Nat.le_of_ble_eq_true rfl) ?_
      exact Or.inr ⟨Or.inl ⟨hr, rfl⟩, rfl, rfl, rfl⟩
    · exact absurd hr hr2
theorem wl_nextMeeting : Cond.static yL_nextMeeting ∈ lw_tbl ∧ Cond.codeWith yL_nextMeeting cL_nextMeeting 4 (some .int) [(0, 6, 9, 15)] ∈ lw_tbl ∧ (parseMethodDescriptor yL_nextMeeting.desc).map (fun d => d.parameters.length) = some 2 := ⟨(List.mem_of_getElem? (i := 603) (by decide +kernel)), (List.mem_of_getElem? (i := 604) (by decide +kernel)), by decide +kernel⟩
set_option maxHeartbeats 4000000 in
set_option maxRecDepth 100000 in
theorem k_L_nextMeeting (lo d : Nat) (hd : 1 ≤ d) (J : Nat → Nat → Int) (G : Nat → Nat → Int64) (F : Nat → Nat → Option Nat) {x0 : Int32} {r : Int} (hr2 : r ≠ 2) {Φ : Int → (Nat → Nat → Int) → (Nat → Nat → Int64) → (Nat → Nat → Option Nat) → Prop} (hct : zCtX lo yX4_nextMeeting cX4_nextMeeting 3 (some .int) (d - 1) 1 6 [.ref (lo + 0), .int x0] (zM J) G F (zPI r Φ) (zPX r "java/lang/IllegalArgumentException" "java/lang/IllegalArgumentException" (zM J) G F)) : zCtH lo yL_nextMeeting cL_nextMeeting 4 (some .int) [(0, 6, 9, 15)] d 1 6 [.ref (lo + 0), .int x0] (zM J) G F (zWI r (-5000001) (-5000001) Φ J G F) := by
  refine zCtH.mk (by decide) wl_nextMeeting.2.1 (Nat.le_of_ble_eq_true rfl) ?_
  intro p l e s m args below meth c D cA X Y hN hx
  refine zG_aload_n X dL_nextMeeting_0 rfl ?_
  refine zG_iload_n X dL_nextMeeting_1 rfl ?_
  refine zG_callX (as2 := [_]) rfl X Y hct dL_nextMeeting_2 mv_X4_nextMeeting ((List.mem_of_getElem? (i := 605) (by decide +kernel))) rfl rfl (by decide) rfl (by show d - 1 + 1 ≤ d; omega) (by show 19 + 3 + 35 * (d - 1) ≤ 35 * d; omega) (Nat.le_of_ble_eq_true rfl) (Nat.le_of_ble_eq_true rfl) (Nat.le_of_ble_eq_true rfl) ?_ ?_
  · rintro v I3 G3 F3 ⟨hr0, a, J2, rfl, rfl, hphi⟩
    refine zG_istore_n X dL_nextMeeting_5 (by decide) rfl ?_
    refine zG_goto X dL_nextMeeting_6 (tgt := 13) (by decide) ?_
    refine zG_iload_n X dL_nextMeeting_13 rfl ?_
    refine zG_iretX X dL_nextMeeting_14 rfl (Nat.le_of_ble_eq_true rfl) (Nat.le_of_ble_eq_true rfl) ?_
    exact Or.inl ⟨hr0, a, J2, rfl, rfl, hphi⟩
  · intro E I3 G3 F3 q hPX
    obtain ⟨hE, rfl, rfl, rfl⟩ := hPX
    rcases hE with ⟨hr, rfl⟩ | ⟨hr, rfl⟩
    · refine zG_catch X [] ⟨0, 6, 9, 15⟩ [] (by rw [hx]; rfl) (fun z h => by cases h) (by decide) (by decide) lkL_15 cast_a ?_
      refine zG_astore_n X dL_nextMeeting_9 (by decide) rfl ?_
      refine zj_ldc (v := -5000001) X dL_nextMeeting_10 (List.mem_of_getElem? (i := 346) (by decide +kernel)) ?_
      refine zG_iretX X dL_nextMeeting_12 rfl (Nat.le_of_ble_eq_true rfl) (Nat.le_of_ble_eq_true rfl) ?_
      exact Or.inr ⟨Or.inl ⟨hr, rfl⟩, rfl, rfl, rfl⟩
    · exact absurd hr hr2
theorem wl_byRemainders : Cond.static yL_byRemainders ∈ lw_tbl ∧ Cond.codeWith yL_byRemainders cL_byRemainders 5 (some .long) [(0, 6, 9, 15)] ∈ lw_tbl ∧ (parseMethodDescriptor yL_byRemainders.desc).map (fun d => d.parameters.length) = some 2 := ⟨(List.mem_of_getElem? (i := 622) (by decide +kernel)), (List.mem_of_getElem? (i := 623) (by decide +kernel)), by decide +kernel⟩
set_option maxHeartbeats 4000000 in
set_option maxRecDepth 100000 in
theorem k_L_byRemainders (lo d : Nat) (hd : 1 ≤ d) (J : Nat → Nat → Int) (G : Nat → Nat → Int64) (F : Nat → Nat → Option Nat) {x0 : Int32} {r : Int} (hr2 : r ≠ 2) {Φ : Int → (Nat → Nat → Int) → (Nat → Nat → Int64) → (Nat → Nat → Option Nat) → Prop} (hct : zCtX lo yX4_byRemainders cX4_byRemainders 8 (some .long) (d - 1) 1 6 [.ref (lo + 0), .int x0] (zM J) G F (zPL r Φ) (zPX r "java/lang/IllegalArgumentException" "java/lang/IllegalArgumentException" (zM J) G F)) : zCtH lo yL_byRemainders cL_byRemainders 5 (some .long) [(0, 6, 9, 15)] d 1 6 [.ref (lo + 0), .int x0] (zM J) G F (zWL r (-5000001) (-5000001) Φ J G F) := by
  refine zCtH.mk (by decide) wl_byRemainders.2.1 (Nat.le_of_ble_eq_true rfl) ?_
  intro p l e s m args below meth c D cA X Y hN hx
  refine zG_aload_n X dL_byRemainders_0 rfl ?_
  refine zG_iload_n X dL_byRemainders_1 rfl ?_
  refine zG_callX (as2 := [_]) rfl X Y hct dL_byRemainders_2 mv_X4_byRemainders ((List.mem_of_getElem? (i := 624) (by decide +kernel))) rfl rfl (by decide) rfl (by show d - 1 + 1 ≤ d; omega) (by show 19 + 8 + 35 * (d - 1) ≤ 35 * d; omega) (Nat.le_of_ble_eq_true rfl) (Nat.le_of_ble_eq_true rfl) (Nat.le_of_ble_eq_true rfl) ?_ ?_
  · rintro v I3 G3 F3 ⟨hr0, a, J2, rfl, rfl, hphi⟩
    refine zG_lstore_n X dL_byRemainders_5 (by decide) rfl ?_
    refine zG_goto X dL_byRemainders_6 (tgt := 15) (by decide) ?_
    refine zG_lload_n X dL_byRemainders_15 rfl ?_
    refine zG_lretX X dL_byRemainders_16 rfl (Nat.le_of_ble_eq_true rfl) (Nat.le_of_ble_eq_true rfl) ?_
    exact Or.inl ⟨hr0, a, J2, rfl, rfl, hphi⟩
  · intro E I3 G3 F3 q hPX
    obtain ⟨hE, rfl, rfl, rfl⟩ := hPX
    rcases hE with ⟨hr, rfl⟩ | ⟨hr, rfl⟩
    · refine zG_catch X [] ⟨0, 6, 9, 15⟩ [] (by rw [hx]; rfl) (fun z h => by cases h) (by decide) (by decide) lkL_15 cast_a ?_
      refine zG_astore X dL_byRemainders_9 (by decide) rfl ?_
      refine zG_ldc2 (v := -5000001) X dL_byRemainders_11 (by decide +kernel) ?_
      refine zG_lretX X dL_byRemainders_14 rfl (Nat.le_of_ble_eq_true rfl) (Nat.le_of_ble_eq_true rfl) ?_
      exact Or.inr ⟨Or.inl ⟨hr, rfl⟩, rfl, rfl, rfl⟩
    · exact absurd hr hr2
theorem wl_multiple : Cond.static yL_multiple ∈ lw_tbl ∧ Cond.codeWith yL_multiple cL_multiple 5 (some .long) [(0, 6, 9, 15)] ∈ lw_tbl ∧ (parseMethodDescriptor yL_multiple.desc).map (fun d => d.parameters.length) = some 2 := ⟨(List.mem_of_getElem? (i := 637) (by decide +kernel)), (List.mem_of_getElem? (i := 638) (by decide +kernel)), by decide +kernel⟩
set_option maxHeartbeats 4000000 in
set_option maxRecDepth 100000 in
theorem k_L_multiple (lo d : Nat) (hd : 1 ≤ d) (J : Nat → Nat → Int) (G : Nat → Nat → Int64) (F : Nat → Nat → Option Nat) {x0 : Int32} {r : Int} (hr2 : r ≠ 2) {Φ : Int → (Nat → Nat → Int) → (Nat → Nat → Int64) → (Nat → Nat → Option Nat) → Prop} (hct : zCtX lo yX4_multiple cX4_multiple 5 (some .long) (d - 1) 1 6 [.ref (lo + 0), .int x0] (zM J) G F (zPL r Φ) (zPX r "java/lang/IllegalArgumentException" "java/lang/IllegalArgumentException" (zM J) G F)) : zCtH lo yL_multiple cL_multiple 5 (some .long) [(0, 6, 9, 15)] d 1 6 [.ref (lo + 0), .int x0] (zM J) G F (zWL r (-5000001) (-5000001) Φ J G F) := by
  refine zCtH.mk (by decide) wl_multiple.2.1 (Nat.le_of_ble_eq_true rfl) ?_
  intro p l e s m args below meth c D cA X Y hN hx
  refine zG_aload_n X dL_multiple_0 rfl ?_
  refine zG_iload_n X dL_multiple_1 rfl ?_
  refine zG_callX (as2 := [_]) rfl X Y hct dL_multiple_2 mv_X4_multiple ((List.mem_of_getElem? (i := 639) (by decide +kernel))) rfl rfl (by decide) rfl (by show d - 1 + 1 ≤ d; omega) (by show 19 + 5 + 35 * (d - 1) ≤ 35 * d; omega) (Nat.le_of_ble_eq_true rfl) (Nat.le_of_ble_eq_true rfl) (Nat.le_of_ble_eq_true rfl) ?_ ?_
  · rintro v I3 G3 F3 ⟨hr0, a, J2, rfl, rfl, hphi⟩
    refine zG_lstore_n X dL_multiple_5 (by decide) rfl ?_
    refine zG_goto X dL_multiple_6 (tgt := 15) (by decide) ?_
    refine zG_lload_n X dL_multiple_15 rfl ?_
    refine zG_lretX X dL_multiple_16 rfl (Nat.le_of_ble_eq_true rfl) (Nat.le_of_ble_eq_true rfl) ?_
    exact Or.inl ⟨hr0, a, J2, rfl, rfl, hphi⟩
  · intro E I3 G3 F3 q hPX
    obtain ⟨hE, rfl, rfl, rfl⟩ := hPX
    rcases hE with ⟨hr, rfl⟩ | ⟨hr, rfl⟩
    · refine zG_catch X [] ⟨0, 6, 9, 15⟩ [] (by rw [hx]; rfl) (fun z h => by cases h) (by decide) (by decide) lkL_15 cast_a ?_
      refine zG_astore X dL_multiple_9 (by decide) rfl ?_
      refine zG_ldc2 (v := -5000001) X dL_multiple_11 (by decide +kernel) ?_
      refine zG_lretX X dL_multiple_14 rfl (Nat.le_of_ble_eq_true rfl) (Nat.le_of_ble_eq_true rfl) ?_
      exact Or.inr ⟨Or.inl ⟨hr, rfl⟩, rfl, rfl, rfl⟩
    · exact absurd hr hr2
theorem wl_errors : Cond.static yL_errors ∈ lw_tbl ∧ Cond.codeWith yL_errors cL_errors 4 (some .int) [(0, 6, 9, 15)] ∈ lw_tbl ∧ (parseMethodDescriptor yL_errors.desc).map (fun d => d.parameters.length) = some 2 := ⟨(List.mem_of_getElem? (i := 644) (by decide +kernel)), (List.mem_of_getElem? (i := 645) (by decide +kernel)), by decide +kernel⟩
set_option maxHeartbeats 4000000 in
set_option maxRecDepth 100000 in
theorem k_L_errors (lo d : Nat) (hd : 1 ≤ d) (J : Nat → Nat → Int) (G : Nat → Nat → Int64) (F : Nat → Nat → Option Nat) {x0 : Int32} {r : Int} (hr2 : r ≠ 2) {Φ : Int → (Nat → Nat → Int) → (Nat → Nat → Int64) → (Nat → Nat → Option Nat) → Prop} (hct : zCtX lo yX4_errors cX4_errors 6 (some .int) (d - 1) 1 6 [.ref (lo + 0), .int x0] (zM J) G F (zPI r Φ) (zPX r "java/lang/IllegalArgumentException" "java/lang/IllegalArgumentException" (zM J) G F)) : zCtH lo yL_errors cL_errors 4 (some .int) [(0, 6, 9, 15)] d 1 6 [.ref (lo + 0), .int x0] (zM J) G F (zWI r (-5000001) (-5000001) Φ J G F) := by
  refine zCtH.mk (by decide) wl_errors.2.1 (Nat.le_of_ble_eq_true rfl) ?_
  intro p l e s m args below meth c D cA X Y hN hx
  refine zG_aload_n X dL_errors_0 rfl ?_
  refine zG_iload_n X dL_errors_1 rfl ?_
  refine zG_callX (as2 := [_]) rfl X Y hct dL_errors_2 mv_X4_errors ((List.mem_of_getElem? (i := 646) (by decide +kernel))) rfl rfl (by decide) rfl (by show d - 1 + 1 ≤ d; omega) (by show 19 + 6 + 35 * (d - 1) ≤ 35 * d; omega) (Nat.le_of_ble_eq_true rfl) (Nat.le_of_ble_eq_true rfl) (Nat.le_of_ble_eq_true rfl) ?_ ?_
  · rintro v I3 G3 F3 ⟨hr0, a, J2, rfl, rfl, hphi⟩
    refine zG_istore_n X dL_errors_5 (by decide) rfl ?_
    refine zG_goto X dL_errors_6 (tgt := 13) (by decide) ?_
    refine zG_iload_n X dL_errors_13 rfl ?_
    refine zG_iretX X dL_errors_14 rfl (Nat.le_of_ble_eq_true rfl) (Nat.le_of_ble_eq_true rfl) ?_
    exact Or.inl ⟨hr0, a, J2, rfl, rfl, hphi⟩
  · intro E I3 G3 F3 q hPX
    obtain ⟨hE, rfl, rfl, rfl⟩ := hPX
    rcases hE with ⟨hr, rfl⟩ | ⟨hr, rfl⟩
    · refine zG_catch X [] ⟨0, 6, 9, 15⟩ [] (by rw [hx]; rfl) (fun z h => by cases h) (by decide) (by decide) lkL_15 cast_a ?_
      refine zG_astore_n X dL_errors_9 (by decide) rfl ?_
      refine zj_ldc (v := -5000001) X dL_errors_10 (List.mem_of_getElem? (i := 346) (by decide +kernel)) ?_
      refine zG_iretX X dL_errors_12 rfl (Nat.le_of_ble_eq_true rfl) (Nat.le_of_ble_eq_true rfl) ?_
      exact Or.inr ⟨Or.inl ⟨hr, rfl⟩, rfl, rfl, rfl⟩
    · exact absurd hr hr2
theorem wl_bestLag : Cond.static yL_bestLag ∈ lw_tbl ∧ Cond.codeWith yL_bestLag cL_bestLag 4 (some .int) [(0, 6, 9, 15)] ∈ lw_tbl ∧ (parseMethodDescriptor yL_bestLag.desc).map (fun d => d.parameters.length) = some 2 := ⟨(List.mem_of_getElem? (i := 660) (by decide +kernel)), (List.mem_of_getElem? (i := 661) (by decide +kernel)), by decide +kernel⟩
set_option maxHeartbeats 4000000 in
set_option maxRecDepth 100000 in
theorem k_L_bestLag (lo d : Nat) (hd : 1 ≤ d) (J : Nat → Nat → Int) (G : Nat → Nat → Int64) (F : Nat → Nat → Option Nat) {x0 : Int32} {r : Int} (hr2 : r ≠ 2) {Φ : Int → (Nat → Nat → Int) → (Nat → Nat → Int64) → (Nat → Nat → Option Nat) → Prop} (hct : zCtX lo yX4_bestLag cX4_bestLag 6 (some .int) (d - 1) 1 6 [.ref (lo + 0), .int x0] (zM J) G F (zPI r Φ) (zPX r "java/lang/IllegalArgumentException" "java/lang/IllegalArgumentException" (zM J) G F)) : zCtH lo yL_bestLag cL_bestLag 4 (some .int) [(0, 6, 9, 15)] d 1 6 [.ref (lo + 0), .int x0] (zM J) G F (zWI r (-5000001) (-5000001) Φ J G F) := by
  refine zCtH.mk (by decide) wl_bestLag.2.1 (Nat.le_of_ble_eq_true rfl) ?_
  intro p l e s m args below meth c D cA X Y hN hx
  refine zG_aload_n X dL_bestLag_0 rfl ?_
  refine zG_iload_n X dL_bestLag_1 rfl ?_
  refine zG_callX (as2 := [_]) rfl X Y hct dL_bestLag_2 mv_X4_bestLag ((List.mem_of_getElem? (i := 662) (by decide +kernel))) rfl rfl (by decide) rfl (by show d - 1 + 1 ≤ d; omega) (by show 19 + 6 + 35 * (d - 1) ≤ 35 * d; omega) (Nat.le_of_ble_eq_true rfl) (Nat.le_of_ble_eq_true rfl) (Nat.le_of_ble_eq_true rfl) ?_ ?_
  · rintro v I3 G3 F3 ⟨hr0, a, J2, rfl, rfl, hphi⟩
    refine zG_istore_n X dL_bestLag_5 (by decide) rfl ?_
    refine zG_goto X dL_bestLag_6 (tgt := 13) (by decide) ?_
    refine zG_iload_n X dL_bestLag_13 rfl ?_
    refine zG_iretX X dL_bestLag_14 rfl (Nat.le_of_ble_eq_true rfl) (Nat.le_of_ble_eq_true rfl) ?_
    exact Or.inl ⟨hr0, a, J2, rfl, rfl, hphi⟩
  · intro E I3 G3 F3 q hPX
    obtain ⟨hE, rfl, rfl, rfl⟩ := hPX
    rcases hE with ⟨hr, rfl⟩ | ⟨hr, rfl⟩
    · refine zG_catch X [] ⟨0, 6, 9, 15⟩ [] (by rw [hx]; rfl) (fun z h => by cases h) (by decide) (by decide) lkL_15 cast_a ?_
      refine zG_astore_n X dL_bestLag_9 (by decide) rfl ?_
      refine zj_ldc (v := -5000001) X dL_bestLag_10 (List.mem_of_getElem? (i := 346) (by decide +kernel)) ?_
      refine zG_iretX X dL_bestLag_12 rfl (Nat.le_of_ble_eq_true rfl) (Nat.le_of_ble_eq_true rfl) ?_
      exact Or.inr ⟨Or.inl ⟨hr, rfl⟩, rfl, rfl, rfl⟩
    · exact absurd hr hr2
theorem wl_append : Cond.static yL_append ∈ lw_tbl ∧ Cond.codeWith yL_append cL_append 4 (some .int) [(0, 6, 9, 15), (0, 6, 13, 18)] ∈ lw_tbl ∧ (parseMethodDescriptor yL_append.desc).map (fun d => d.parameters.length) = some 2 := ⟨(List.mem_of_getElem? (i := 671) (by decide +kernel)), (List.mem_of_getElem? (i := 672) (by decide +kernel)), by decide +kernel⟩
set_option maxHeartbeats 4000000 in
set_option maxRecDepth 100000 in
theorem k_L_append (lo d : Nat) (hd : 1 ≤ d) (J : Nat → Nat → Int) (G : Nat → Nat → Int64) (F : Nat → Nat → Option Nat) {x0 : Int32} {r : Int} {Φ : Int → (Nat → Nat → Int) → (Nat → Nat → Int64) → (Nat → Nat → Option Nat) → Prop} (hct : zCtX lo yX4_append cX4_append 2 (some .int) (d - 1) 1 6 [.ref (lo + 0), .int x0] (zM J) G F (zPI r Φ) (zPX r "java/lang/IllegalArgumentException" "java/lang/IllegalStateException" (zM J) G F)) : zCtH lo yL_append cL_append 4 (some .int) [(0, 6, 9, 15), (0, 6, 13, 18)] d 1 6 [.ref (lo + 0), .int x0] (zM J) G F (zWI r (-5000001) (-5000002) Φ J G F) := by
  refine zCtH.mk (by decide) wl_append.2.1 (Nat.le_of_ble_eq_true rfl) ?_
  intro p l e s m args below meth c D cA X Y hN hx
  refine zG_aload_n X dL_append_0 rfl ?_
  refine zG_iload_n X dL_append_1 rfl ?_
  refine zG_callX (as2 := [_]) rfl X Y hct dL_append_2 mv_X4_append ((List.mem_of_getElem? (i := 673) (by decide +kernel))) rfl rfl (by decide) rfl (by show d - 1 + 1 ≤ d; omega) (by show 19 + 2 + 35 * (d - 1) ≤ 35 * d; omega) (Nat.le_of_ble_eq_true rfl) (Nat.le_of_ble_eq_true rfl) (Nat.le_of_ble_eq_true rfl) ?_ ?_
  · rintro v I3 G3 F3 ⟨hr0, a, J2, rfl, rfl, hphi⟩
    refine zG_istore_n X dL_append_5 (by decide) rfl ?_
    refine zG_goto X dL_append_6 (tgt := 17) (by decide) ?_
    refine zG_iload_n X dL_append_17 rfl ?_
    refine zG_iretX X dL_append_18 rfl (Nat.le_of_ble_eq_true rfl) (Nat.le_of_ble_eq_true rfl) ?_
    exact Or.inl ⟨hr0, a, J2, rfl, rfl, hphi⟩
  · intro E I3 G3 F3 q hPX
    obtain ⟨hE, rfl, rfl, rfl⟩ := hPX
    rcases hE with ⟨hr, rfl⟩ | ⟨hr, rfl⟩
    · refine zG_catch X [] ⟨0, 6, 9, 15⟩ [⟨0, 6, 13, 18⟩] (by rw [hx]; rfl) (fun z h => by cases h) (by decide) (by decide) lkL_15 cast_a ?_
      refine zG_astore_n X dL_append_9 (by decide) rfl ?_
      refine zj_ldc (v := -5000001) X dL_append_10 (List.mem_of_getElem? (i := 346) (by decide +kernel)) ?_
      refine zG_iretX X dL_append_12 rfl (Nat.le_of_ble_eq_true rfl) (Nat.le_of_ble_eq_true rfl) ?_
      exact Or.inr ⟨Or.inl ⟨hr, rfl⟩, rfl, rfl, rfl⟩
    · refine zG_catch X [⟨0, 6, 9, 15⟩] ⟨0, 6, 13, 18⟩ [] (by rw [hx]; rfl) (fun z hz => Or.inr (by rw [List.mem_singleton] at hz; subst hz; exact ⟨by decide, "java/lang/IllegalArgumentException", X.2.2.2.2.1 _ lkL_15 rfl _, hN.1⟩)) (by decide) (by decide) lkL_18 cast_s ?_
      refine zG_astore_n X dL_append_13 (by decide) rfl ?_
      refine zj_ldc (v := -5000002) X dL_append_14 (List.mem_of_getElem? (i := 379) (by decide +kernel)) ?_
      refine zG_iretX X dL_append_16 rfl (Nat.le_of_ble_eq_true rfl) (Nat.le_of_ble_eq_true rfl) ?_
      exact Or.inr ⟨Or.inr ⟨hr, rfl⟩, rfl, rfl, rfl⟩
theorem wl_undo : Cond.static yL_undo ∈ lw_tbl ∧ Cond.codeWith yL_undo cL_undo 3 (some .int) [(0, 5, 8, 18)] ∈ lw_tbl ∧ (parseMethodDescriptor yL_undo.desc).map (fun d => d.parameters.length) = some 1 := ⟨(List.mem_of_getElem? (i := 348) (by decide +kernel)), (List.mem_of_getElem? (i := 349) (by decide +kernel)), by decide +kernel⟩
set_option maxHeartbeats 4000000 in
set_option maxRecDepth 100000 in
theorem k_L_undo (lo d : Nat) (hd : 1 ≤ d) (J : Nat → Nat → Int) (G : Nat → Nat → Int64) (F : Nat → Nat → Option Nat) {r : Int} (hr2 : r ≠ 2) {Φ : Int → (Nat → Nat → Int) → (Nat → Nat → Int64) → (Nat → Nat → Option Nat) → Prop} (hct : zCtX lo yX4_undo cX4_undo 1 (some .int) (d - 1) 1 6 [.ref (lo + 0)] (zM J) G F (zPI r Φ) (zPX r "java/lang/IllegalStateException" "java/lang/IllegalStateException" (zM J) G F)) : zCtH lo yL_undo cL_undo 3 (some .int) [(0, 5, 8, 18)] d 1 6 [.ref (lo + 0)] (zM J) G F (zWI r (-5000002) (-5000002) Φ J G F) := by
  refine zCtH.mk (by decide) wl_undo.2.1 (Nat.le_of_ble_eq_true rfl) ?_
  intro p l e s m args below meth c D cA X Y hN hx
  refine zG_aload_n X dL_undo_0 rfl ?_
  refine zG_callX (as2 := []) rfl X Y hct dL_undo_1 mv_X4_undo ((List.mem_of_getElem? (i := 351) (by decide +kernel))) rfl rfl (by decide) rfl (by show d - 1 + 1 ≤ d; omega) (by show 19 + 1 + 35 * (d - 1) ≤ 35 * d; omega) (Nat.le_of_ble_eq_true rfl) (Nat.le_of_ble_eq_true rfl) (Nat.le_of_ble_eq_true rfl) ?_ ?_
  · rintro v I3 G3 F3 ⟨hr0, a, J2, rfl, rfl, hphi⟩
    refine zG_istore_n X dL_undo_4 (by decide) rfl ?_
    refine zG_goto X dL_undo_5 (tgt := 12) (by decide) ?_
    refine zG_iload_n X dL_undo_12 rfl ?_
    refine zG_iretX X dL_undo_13 rfl (Nat.le_of_ble_eq_true rfl) (Nat.le_of_ble_eq_true rfl) ?_
    exact Or.inl ⟨hr0, a, J2, rfl, rfl, hphi⟩
  · intro E I3 G3 F3 q hPX
    obtain ⟨hE, rfl, rfl, rfl⟩ := hPX
    rcases hE with ⟨hr, rfl⟩ | ⟨hr, rfl⟩
    · refine zG_catch X [] ⟨0, 5, 8, 18⟩ [] (by rw [hx]; rfl) (fun z h => by cases h) (by decide) (by decide) lkL_18 cast_s ?_
      refine zG_astore_n X dL_undo_8 (by decide) rfl ?_
      refine zj_ldc (v := -5000002) X dL_undo_9 (List.mem_of_getElem? (i := 379) (by decide +kernel)) ?_
      refine zG_iretX X dL_undo_11 rfl (Nat.le_of_ble_eq_true rfl) (Nat.le_of_ble_eq_true rfl) ?_
      exact Or.inr ⟨Or.inl ⟨hr, rfl⟩, rfl, rfl, rfl⟩
    · exact absurd hr hr2
