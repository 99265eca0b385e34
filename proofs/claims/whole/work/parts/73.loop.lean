/-! the law's loop over the script -/
set_option maxHeartbeats 4000000 in
set_option maxRecDepth 100000 in
theorem lw_loop {p : Program} {l : Launch} {e : Env} {s : State} {m : MethodId} {args : Array Value} {below : List Frame} {meth : Method} {c : Code} {D : va_G} {cA : Nat → ClassId} {lo : Nat} {Q : State → Prop} {nm : String} (X : zCx p l s m meth c (yLn nm) cL_law 9 ret D cA) (Y : zXS lo s) (Nn : zNC s) {b N : Nat} {xs : Nat → Int32} (hX : va_X b N xs s s.heap) (hbl : b < lo) (hN : N ≤ 2560) (kE : ∀ (J3 : Nat → Nat → Int) (G3 : Nat → Nat → Int64) (F3 : Nat → Nat → Option Nat) (i3 : Int), zG p l e room_1 s m args below meth c D cA lo 9 601024 7293034 Q 57 (zM J3) G3 F3 (lwL b lo i3) [] 1492) : ∀ (q cells slots : Nat) (J : Nat → Nat → Int) (G : Nat → Nat → Int64) (F : Nat → Nat → Option Nat) (b1 : Nat → Nat) (i : Int), zInv J G F b1 → 0 ≤ i → (N : Int) ≤ i + 4 + 5 * q → i ≤ 2560 → cells + q ≤ 601024 → slots + 6 * q ≤ 7293034 → zG p l e room_1 s m args below meth c D cA lo 9 cells slots Q 57 (zM J) G F (lwL b lo i) [] 23 := by
  intro q
  induction q with
  | zero =>
    intro cells slots J G F b1 i I hi0 hq hi2 hce hsl
    have e1 : zI (N : Int) = Int32.ofNat N := Int32.ofInt_eq_ofNat
    refine zG_iload X dL_law_23 rfl ?_
    refine zG_aload_n X dL_law_25 rfl ?_
    refine zG_slen X hX hbl dL_law_26 ?_
    rw [← e1]
    refine zj_iconst X dL_law_27 ?_
    refine zj_isub X dL_law_28 ?_
    refine zj_icmp_gt X dL_law_29 (tgt := 1492) (by decide) (by unfold zr; omega) (by unfold zr; omega) (fun h => ?_) (fun h => absurd h (by omega))
    exact zG_widen (mc := 601024) (ms := 7293034) (Qc := fun _ _ _ _ => True) (free := fun _ => True) (by omega) (by omega) (kE _ _ _ _)
  | succ q ih =>
    intro cells slots J G F b1 i I hi0 hq hi2 hce hsl
    have e1 : zI (N : Int) = Int32.ofNat N := Int32.ofInt_eq_ofNat
    refine zG_iload X dL_law_23 rfl ?_
    refine zG_aload_n X dL_law_25 rfl ?_
    refine zG_slen X hX hbl dL_law_26 ?_
    rw [← e1]
    refine zj_iconst X dL_law_27 ?_
    refine zj_isub X dL_law_28 ?_
    refine zj_icmp_gt X dL_law_29 (tgt := 1492) (by decide) (by unfold zr; omega) (by unfold zr; omega) (fun h => ?_) (fun h => ?_)
    · exact zG_widen (mc := 601024) (ms := 7293034) (Qc := fun _ _ _ _ => True) (free := fun _ => True) (by omega) (by omega) (kE _ _ _ _)
    · have hi : i + 5 ≤ N := by omega
      have hc1 : cells + 1 ≤ 601024 := by omega
      have hs1 : slots + 6 ≤ 7293034 := by omega
      have k : ∀ J3 G3 F3 b3, zInv J3 G3 F3 b3 → zG p l e room_1 s m args below meth c D cA lo 9 (cells + 1) (slots + 6) Q 57 (zM J3) G3 F3 (lwL b lo i) [] 1486 := fun J3 G3 F3 b3 I3 => by
        refine zj_iinc X dL_law_1486 rfl (by decide) rfl ?_
        refine zG_goto X dL_law_1489 (tgt := 23) (by decide) ?_
        exact ih (cells + 1) (slots + 6) J3 G3 F3 b3 (i + 5) I3 (by omega) (by omega) (by omega) (by omega) (by omega)
      refine zG_aload_n X dL_law_32 rfl ?_
      refine zG_iload X dL_law_33 rfl ?_
      refine zj_sld X hX hbl hN dL_law_35 hi0 (by omega) ?_
      refine zG_bipush X dL_law_36 rfl ?_
      refine zG_iand X dL_law_38 ?_
      refine zG_top (fun z _ => ?_)
      by_cases h9 : z.toInt < 0 ∨ 25 < z.toInt
      · refine zG_switchOut X dL_law_39 h9 (tgt := 1486) (by decide) ?_
        exact zG_widen (mc := cells + 1) (ms := slots + 6) (Qc := fun _ _ _ _ => True) (free := fun _ => True) (by omega) (by omega) (k _ _ _ _ I)
      · have h25 : z.toInt = 0 ∨ z.toInt = 1 ∨ z.toInt = 2 ∨ z.toInt = 3 ∨ z.toInt = 4 ∨ z.toInt = 5 ∨ z.toInt = 6 ∨ z.toInt = 7 ∨ z.toInt = 8 ∨ z.toInt = 9 ∨ z.toInt = 10 ∨ z.toInt = 11 ∨ z.toInt = 12 ∨ z.toInt = 13 ∨ z.toInt = 14 ∨ z.toInt = 15 ∨ z.toInt = 16 ∨ z.toInt = 17 ∨ z.toInt = 18 ∨ z.toInt = 19 ∨ z.toInt = 20 ∨ z.toInt = 21 ∨ z.toInt = 22 ∨ z.toInt = 23 ∨ z.toInt = 24 ∨ z.toInt = 25 := by omega
        rcases h25 with h | h | h | h | h | h | h | h | h | h | h | h | h | h | h | h | h | h | h | h | h | h | h | h | h | h
        · exact zG_switchIn X dL_law_39 (by omega) (by omega) (off := 117) (by rw [h]; rfl) (tgt := 156) (by decide) (lc_0 X Y Nn hX hbl hN hi0 hi hc1 hs1 I k)
        · exact zG_switchIn X dL_law_39 (by omega) (by omega) (off := 185) (by rw [h]; rfl) (tgt := 224) (by decide) (lc_1 X Y Nn hX hbl hN hi0 hi hc1 hs1 I k)
        · exact zG_switchIn X dL_law_39 (by omega) (by omega) (off := 277) (by rw [h]; rfl) (tgt := 316) (by decide) (lc_2 X Y Nn hX hbl hN hi0 hi hc1 hs1 I k)
        · exact zG_switchIn X dL_law_39 (by omega) (by omega) (off := 333) (by rw [h]; rfl) (tgt := 372) (by decide) (lc_3 X Y Nn hX hbl hN hi0 hi hc1 hs1 I k)
        · exact zG_switchIn X dL_law_39 (by omega) (by omega) (off := 413) (by rw [h]; rfl) (tgt := 452) (by decide) (lc_4 X Y Nn hX hbl hN hi0 hi hc1 hs1 I k)
        · exact zG_switchIn X dL_law_39 (by omega) (by omega) (off := 481) (by rw [h]; rfl) (tgt := 520) (by decide) (lc_5 X Y Nn hX hbl hN hi0 hi hc1 hs1 I k)
        · exact zG_switchIn X dL_law_39 (by omega) (by omega) (off := 573) (by rw [h]; rfl) (tgt := 612) (by decide) (lc_6 X Y Nn hX hbl hN hi0 hi hc1 hs1 I k)
        · exact zG_switchIn X dL_law_39 (by omega) (by omega) (off := 657) (by rw [h]; rfl) (tgt := 696) (by decide) (lc_7 X Y Nn hX hbl hN hi0 hi hc1 hs1 I k)
        · exact zG_switchIn X dL_law_39 (by omega) (by omega) (off := 713) (by rw [h]; rfl) (tgt := 752) (by decide) (lc_8 X Y Nn hX hbl hN hi0 hi hc1 hs1 I k)
        · exact zG_switchIn X dL_law_39 (by omega) (by omega) (off := 726) (by rw [h]; rfl) (tgt := 765) (by decide) (lc_9 X Y Nn hX hbl hN hi0 hi hc1 hs1 I k)
        · exact zG_switchIn X dL_law_39 (by omega) (by omega) (off := 794) (by rw [h]; rfl) (tgt := 833) (by decide) (lc_10 X Y Nn hX hbl hN hi0 hi hc1 hs1 I k)
        · exact zG_switchIn X dL_law_39 (by omega) (by omega) (off := 850) (by rw [h]; rfl) (tgt := 889) (by decide) (lc_11 X Y Nn hX hbl hN hi0 hi hc1 hs1 I k)
        · exact zG_switchIn X dL_law_39 (by omega) (by omega) (off := 906) (by rw [h]; rfl) (tgt := 945) (by decide) (lc_12 X Y Nn hX hbl hN hi0 hi hc1 hs1 I k)
        · exact zG_switchIn X dL_law_39 (by omega) (by omega) (off := 962) (by rw [h]; rfl) (tgt := 1001) (by decide) (lc_13 X Y Nn hX hbl hN hi0 hi hc1 hs1 I k)
        · exact zG_switchIn X dL_law_39 (by omega) (by omega) (off := 975) (by rw [h]; rfl) (tgt := 1014) (by decide) (lc_14 X Y Nn hX hbl hN hi0 hi hc1 hs1 I k)
        · exact zG_switchIn X dL_law_39 (by omega) (by omega) (off := 1031) (by rw [h]; rfl) (tgt := 1070) (by decide) (lc_15 X Y Nn hX hbl hN hi0 hi hc1 hs1 I k)
        · exact zG_switchIn X dL_law_39 (by omega) (by omega) (off := 1086) (by rw [h]; rfl) (tgt := 1125) (by decide) (lc_16 X Y Nn hX hbl hN hi0 hi hc1 hs1 I k)
        · exact zG_switchIn X dL_law_39 (by omega) (by omega) (off := 1141) (by rw [h]; rfl) (tgt := 1180) (by decide) (lc_17 X Y Nn hX hbl hN hi0 hi hc1 hs1 I k)
        · exact zG_switchIn X dL_law_39 (by omega) (by omega) (off := 1154) (by rw [h]; rfl) (tgt := 1193) (by decide) (lc_18 X Y Nn hX hbl hN hi0 hi hc1 hs1 I k)
        · exact zG_switchIn X dL_law_39 (by omega) (by omega) (off := 1210) (by rw [h]; rfl) (tgt := 1249) (by decide) (lc_19 X Y Nn hX hbl hN hi0 hi hc1 hs1 I k)
        · exact zG_switchIn X dL_law_39 (by omega) (by omega) (off := 1266) (by rw [h]; rfl) (tgt := 1305) (by decide) (lc_20 X Y Nn hX hbl hN hi0 hi hc1 hs1 I k)
        · exact zG_switchIn X dL_law_39 (by omega) (by omega) (off := 1307) (by rw [h]; rfl) (tgt := 1346) (by decide) (lc_21 X Y Nn hX hbl hN hi0 hi hc1 hs1 I k)
        · exact zG_switchIn X dL_law_39 (by omega) (by omega) (off := 1363) (by rw [h]; rfl) (tgt := 1402) (by decide) (lc_22 X Y Nn hX hbl hN hi0 hi hc1 hs1 I k)
        · exact zG_switchIn X dL_law_39 (by omega) (by omega) (off := 1376) (by rw [h]; rfl) (tgt := 1415) (by decide) (lc_23 X Y Nn hX hbl hN hi0 hi hc1 hs1 I k)
        · exact zG_switchIn X dL_law_39 (by omega) (by omega) (off := 1389) (by rw [h]; rfl) (tgt := 1428) (by decide) (lc_24 X Y Nn hX hbl hN hi0 hi hc1 hs1 I k)
        · exact zG_switchIn X dL_law_39 (by omega) (by omega) (off := 1433) (by rw [h]; rfl) (tgt := 1472) (by decide) (lc_25 X Y Nn hX hbl hN hi0 hi hc1 hs1 I k)
