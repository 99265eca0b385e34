/-! the law's methods: show, meets, isDry -/
theorem L_wheelE (lo d : Nat) (hd : 7 ≤ d) {x : Hou} {R : List Hou} (ok : okH x) {u v : Int} (hu : zr u) (h1 : 0 ≤ u) (h3 : 0 ≤ v) (h4 : v ≤ 6) : zLH lo yL_wheel cL_wheel 5 (some .int) [(0, 7, 10, 25), (0, 7, 15, 15)] d 1 6 [.ref (lo + 0), .int (zI u), .int (zI v)] x R (zEq (.int (zI (if u < x.1 0 then whF x u.toNat v else -5000003))) x R) := by
  by_cases q : u < x.1 0
  · rw [if_pos q]
    exact L_wheel lo d hd ok h1 q h3 h4
  · rw [if_neg q]
    exact L_wheel_1 lo d hd ok hu (by unfold zr; omega) (by omega)
theorem L_highWaterN (lo d : Nat) (hd : 7 ≤ d) {x : Hou} {R : List Hou} (ok : okH x) {k : Nat} (h : k ≤ 1000) : zLH lo yL_highWater cL_highWater 4 (some .int) [(0, 6, 9, 15)] d 1 6 [.ref (lo + 0), .int (zI (k : Int))] x R (zEq (.int (zI (hiF x k))) x R) := by
  have h7 := L_highWater lo d hd (R := R) ok (u := (k : Int)) (by omega) (by omega)
  rw [Int.toNat_natCast] at h7
  exact h7
theorem L_marketN (lo d : Nat) (hd : 7 ≤ d) {x : Hou} {R : List Hou} (ok : okH x) {k : Nat} (h : k ≤ 1000) : zLH lo yL_market cL_market 4 (some .int) [(0, 6, 9, 15)] d 1 6 [.ref (lo + 0), .int (zI (k : Int))] x R (zEq (.int (zI (mkF x k))) x R) := by
  have h7 := L_market lo d hd (R := R) ok (u := (k : Int)) (by omega) (by omega)
  rw [Int.toNat_natCast] at h7
  exact h7
def shA (x : Hou) : Nat → Int64
  | 0 => lI 167
  | k + 1 => lI 31 * shA x k + (zI (valF x (k : Int))).toInt64
def shB (x : Hou) : Nat → Int64
  | 0 => shA x 14
  | k + 1 => lI 31 * shB x k + (zI (if ((k : Int) / 7) < x.1 0 then whF x ((k : Int) / 7).toNat ((k : Int) % 7) else -5000003)).toInt64
def shC (x : Hou) : Nat → Int64
  | 0 => shB x 35
  | k + 1 => lI 31 * (lI 31 * shC x k + (zI (hiF x k)).toInt64) + (zI (mkF x k)).toInt64
theorem shA_0 {x : Hou} : shA x 0 = lI 167 := rfl
theorem shA_s {x : Hou} {k : Nat} : shA x (k + 1) = lI 31 * shA x k + (zI (valF x (k : Int))).toInt64 := rfl
theorem shB_0 {x : Hou} : shB x 0 = shA x 14 := rfl
theorem shB_s {x : Hou} {k : Nat} : shB x (k + 1) = lI 31 * shB x k + (zI (if ((k : Int) / 7) < x.1 0 then whF x ((k : Int) / 7).toNat ((k : Int) % 7) else -5000003)).toInt64 := rfl
theorem shC_0 {x : Hou} : shC x 0 = shB x 35 := rfl
theorem shC_s {x : Hou} {k : Nat} : shC x (k + 1) = lI 31 * (lI 31 * shC x k + (zI (hiF x k)).toInt64) + (zI (mkF x k)).toInt64 := rfl
/-- what show answers -/
def shF (x : Hou) : Int64 := shC x 5
set_option maxHeartbeats 4000000 in
set_option maxRecDepth 100000 in
theorem N_show (lo d : Nat) (hd : 8 ≤ d) {x : Hou} {R : List Hou} (ok : okH x) : zLN true lo yL_show cL_show 4 (some .long) d 59 354 [.ref (lo + 0)] x R (zEq (.long (shF x)) x R) := by
  refine zLN.mk (by decide) wn_show.2.1 (Nat.le_of_ble_eq_true rfl) ?_
  intro p l e s m args below meth c D cA J0 F0 X Y N
  have hc3 : ∀ (q k : Nat), k + q = 5 → zL p l e { frames := d, cells := 59, slots := 354, locals := 35 * d } s m args below meth c D cA lo 4 (49 + 2 * k) (294 + 12 * k) (vx_MQ below (zQ D cA lo 57 (zLP true J0 F0 (zEq (.long (shF x)) x R))) (fun _ _ _ => False) args s 59 354 (fun q => lo ≤ q)) x R (fun J F => zK J F J0 F0) [some (.ref (lo + 0)), some (.long (shC x k)), none, some (.int (zI (k : Int)))] [] 67 := by
    intro q
    induction q with
    | zero =>
      intro k hk
      obtain rfl : k = 5 := by omega
      refine zl_iload_n X dL_show_67 rfl ?_
      refine zl_iconst X dL_show_68 ?_
      refine zl_icmp_ge X dL_show_69 (tgt := 102) (by decide) (by first | decide | omega) (by first | decide | omega) (fun h_69 => ?_) (fun h_69 => ?_)
      · refine zl_lload_n X dL_show_102 rfl ?_
        refine zl_lret X dL_show_103 rfl (by omega) (by omega) (fun _ J F z => z) ?_
        exact ⟨rfl, rfl, rfl⟩
      · exact absurd h_69 (by first | decide | omega)
    | succ q ih =>
      intro k hk
      refine zl_iload_n X dL_show_67 rfl ?_
      refine zl_iconst X dL_show_68 ?_
      refine zl_icmp_ge X dL_show_69 (tgt := 102) (by decide) (by first | decide | omega) (by first | decide | omega) (fun h_69 => ?_) (fun h_69 => ?_)
      · exact absurd h_69 (by first | decide | omega)
      · refine zl_ldc2 (v := lI 31) X dL_show_72 (List.mem_of_getElem? (i := 384) (by decide +kernel)) ?_
        refine zl_ldc2 (v := lI 31) X dL_show_75 (List.mem_of_getElem? (i := 384) (by decide +kernel)) ?_
        refine zl_lload_n X dL_show_78 rfl ?_
        refine zl_lmul X dL_show_79 ?_
        refine zl_aload_n X dL_show_80 rfl ?_
        refine zl_iload_n X dL_show_81 rfl ?_
        refine zl_callHq (as2 := [_, _]) rfl X Y N zZs_K (L_highWaterN lo (d - 1) (by omega) ok (k := k) (by omega)) dL_show_82 wl_highWater iniL (by decide) (by decide) (List.mem_of_getElem? (i := 425) (by decide +kernel)) rfl (by show d - 1 + 1 ≤ d; omega) (by show 19 + 4 + 35 * (d - 1) ≤ 35 * d; omega) (by show _ ≤ 59; omega) (by show _ ≤ 354; omega) (Nat.le_of_ble_eq_true rfl) ?_
        refine zl_i2lR X dL_show_85 ?_
        refine zl_ladd X dL_show_86 ?_
        refine zl_lmul X dL_show_87 ?_
        refine zl_aload_n X dL_show_88 rfl ?_
        refine zl_iload_n X dL_show_89 rfl ?_
        refine zl_callHq (as2 := [_, _]) rfl X Y N zZs_K (L_marketN lo (d - 1) (by omega) ok (k := k) (by omega)) dL_show_90 wl_market iniL (by decide) (by decide) (List.mem_of_getElem? (i := 455) (by decide +kernel)) rfl (by show d - 1 + 1 ≤ d; omega) (by show 19 + 4 + 35 * (d - 1) ≤ 35 * d; omega) (by show _ ≤ 59; omega) (by show _ ≤ 354; omega) (Nat.le_of_ble_eq_true rfl) ?_
        refine zl_i2lR X dL_show_93 ?_
        refine zl_ladd X dL_show_94 ?_
        refine zl_lstore_n X dL_show_95 (by decide) rfl ?_
        refine zl_iinc X dL_show_96 rfl (by decide) rfl ?_
        refine zl_goto X dL_show_99 (tgt := 67) (by decide) ?_
        have h9 := ih (k + 1) (by omega)
        rw [shC_s] at h9
        exact zl_widen (by omega) (by omega) h9
  have hc2 : ∀ (q k : Nat), k + q = 35 → zL p l e { frames := d, cells := 59, slots := 354, locals := 35 * d } s m args below meth c D cA lo 4 (14 + k) (84 + 6 * k) (vx_MQ below (zQ D cA lo 57 (zLP true J0 F0 (zEq (.long (shF x)) x R))) (fun _ _ _ => False) args s 59 354 (fun q => lo ≤ q)) x R (fun J F => zK J F J0 F0) [some (.ref (lo + 0)), some (.long (shB x k)), none, some (.int (zI (k : Int)))] [] 33 := by
    intro q
    induction q with
    | zero =>
      intro k hk
      obtain rfl : k = 35 := by omega
      refine zl_iload_n X dL_show_33 rfl ?_
      refine zl_bipush X dL_show_34 (by decide) ?_
      refine zl_icmp_ge X dL_show_36 (tgt := 65) (by decide) (by first | decide | omega) (by first | decide | omega) (fun h_36 => ?_) (fun h_36 => ?_)
      · refine zl_iconst X dL_show_65 ?_
        refine zl_istore_n X dL_show_66 (by decide) rfl ?_
        have h9 := hc3 5 0 (by omega)
        rw [shC_0] at h9
        exact h9
      · exact absurd h_36 (by first | decide | omega)
    | succ q ih =>
      intro k hk
      refine zl_iload_n X dL_show_33 rfl ?_
      refine zl_bipush X dL_show_34 (by decide) ?_
      refine zl_icmp_ge X dL_show_36 (tgt := 65) (by decide) (by first | decide | omega) (by first | decide | omega) (fun h_36 => ?_) (fun h_36 => ?_)
      · exact absurd h_36 (by first | decide | omega)
      · refine zl_ldc2 (v := lI 31) X dL_show_39 (List.mem_of_getElem? (i := 384) (by decide +kernel)) ?_
        refine zl_lload_n X dL_show_42 rfl ?_
        refine zl_lmul X dL_show_43 ?_
        refine zl_aload_n X dL_show_44 rfl ?_
        refine zl_iload_n X dL_show_45 rfl ?_
        refine zl_bipush X dL_show_46 (by decide) ?_
        refine zl_idiv X dL_show_48 (by first | decide | omega) (by first | decide | omega) (by first | decide | omega) (by first | decide | omega) ?_
        refine zl_iload_n X dL_show_49 rfl ?_
        refine zl_bipush X dL_show_50 (by decide) ?_
        refine zl_irem X dL_show_52 (by first | decide | omega) (by first | decide | omega) (by first | decide | omega) (by first | decide | omega) ?_
        refine zl_callHq (as2 := [_, _, _]) rfl X Y N zZs_K (L_wheelE lo (d - 1) (by omega) ok (u := (k : Int) / 7) (v := (k : Int) % 7) (by unfold zr; omega) (by omega) (by omega) (by omega)) dL_show_53 wl_wheel iniL (by decide) (by decide) (List.mem_of_getElem? (i := 385) (by decide +kernel)) rfl (by show d - 1 + 1 ≤ d; omega) (by show 19 + 5 + 35 * (d - 1) ≤ 35 * d; omega) (by show _ ≤ 59; omega) (by show _ ≤ 354; omega) (Nat.le_of_ble_eq_true rfl) ?_
        refine zl_i2lR X dL_show_56 ?_
        refine zl_ladd X dL_show_57 ?_
        refine zl_lstore_n X dL_show_58 (by decide) rfl ?_
        refine zl_iinc X dL_show_59 rfl (by decide) rfl ?_
        refine zl_goto X dL_show_62 (tgt := 33) (by decide) ?_
        have h9 := ih (k + 1) (by omega)
        rw [shB_s] at h9
        exact zl_widen (by omega) (by omega) h9
  have hc1 : ∀ (q k : Nat), k + q = 14 → zL p l e { frames := d, cells := 59, slots := 354, locals := 35 * d } s m args below meth c D cA lo 4 k (6 * k) (vx_MQ below (zQ D cA lo 57 (zLP true J0 F0 (zEq (.long (shF x)) x R))) (fun _ _ _ => False) args s 59 354 (fun q => lo ≤ q)) x R (fun J F => zK J F J0 F0) [some (.ref (lo + 0)), some (.long (shA x k)), none, some (.int (zI (k : Int)))] [] 6 := by
    intro q
    induction q with
    | zero =>
      intro k hk
      obtain rfl : k = 14 := by omega
      refine zl_iload_n X dL_show_6 rfl ?_
      refine zl_bipush X dL_show_7 (by decide) ?_
      refine zl_icmp_ge X dL_show_9 (tgt := 31) (by decide) (by first | decide | omega) (by first | decide | omega) (fun h_9 => ?_) (fun h_9 => ?_)
      · refine zl_iconst X dL_show_31 ?_
        refine zl_istore_n X dL_show_32 (by decide) rfl ?_
        have h9 := hc2 35 0 (by omega)
        rw [shB_0] at h9
        exact h9
      · exact absurd h_9 (by first | decide | omega)
    | succ q ih =>
      intro k hk
      refine zl_iload_n X dL_show_6 rfl ?_
      refine zl_bipush X dL_show_7 (by decide) ?_
      refine zl_icmp_ge X dL_show_9 (tgt := 31) (by decide) (by first | decide | omega) (by first | decide | omega) (fun h_9 => ?_) (fun h_9 => ?_)
      · exact absurd h_9 (by first | decide | omega)
      · refine zl_ldc2 (v := lI 31) X dL_show_12 (List.mem_of_getElem? (i := 384) (by decide +kernel)) ?_
        refine zl_lload_n X dL_show_15 rfl ?_
        refine zl_lmul X dL_show_16 ?_
        refine zl_aload_n X dL_show_17 rfl ?_
        refine zl_iload_n X dL_show_18 rfl ?_
        refine zl_callHq (as2 := [_, _]) rfl X Y N zZs_K (L_value lo (d - 1) (by omega) ok (u := (k : Int)) (by omega) (by omega)) dL_show_19 wl_value iniL (by decide) (by decide) (List.mem_of_getElem? (i := 261) (by decide +kernel)) rfl (by show d - 1 + 1 ≤ d; omega) (by show 19 + 4 + 35 * (d - 1) ≤ 35 * d; omega) (by show _ ≤ 59; omega) (by show _ ≤ 354; omega) (Nat.le_of_ble_eq_true rfl) ?_
        refine zl_i2lR X dL_show_22 ?_
        refine zl_ladd X dL_show_23 ?_
        refine zl_lstore_n X dL_show_24 (by decide) rfl ?_
        refine zl_iinc X dL_show_25 rfl (by decide) rfl ?_
        refine zl_goto X dL_show_28 (tgt := 6) (by decide) ?_
        have h9 := ih (k + 1) (by omega)
        rw [shA_s] at h9
        exact zl_widen (by omega) (by omega) h9
  refine zl_ldc2 (v := lI 167) X dL_show_0 (List.mem_of_getElem? (i := 383) (by decide +kernel)) ?_
  refine zl_lstore_n X dL_show_3 (by decide) rfl ?_
  refine zl_iconst X dL_show_4 ?_
  refine zl_istore_n X dL_show_5 (by decide) rfl ?_
  have h9 := hc1 14 0 (by omega)
  rw [shA_0] at h9
  exact h9
