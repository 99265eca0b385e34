/-! the Model reads a text: numbers -/
def psOk (J : Nat → Nat → Int) : Prop := 0 ≤ J 50 8 ∧ J 50 8 ≤ J 50 6 ∧ J 50 6 ≤ 90 ∧ ∀ i, 0 ≤ J 54 i ∧ J 54 i ≤ 127
abbrev atP (J : Nat → Nat → Int) (a b : Int) : Prop := J 50 8 < J 50 6 ∧ a ≤ J 54 (J 50 8).toNat ∧ J 54 (J 50 8).toNat ≤ b
abbrev dgM (J : Nat → Nat → Int) (k : Nat) : Prop := J 50 8 + k < J 50 6 ∧ 48 ≤ J 54 (J 50 8 + k).toNat ∧ J 54 (J 50 8 + k).toNat ≤ 57
def tnK (J : Nat → Nat → Int) : Nat := if dgM J 0 then (if dgM J 1 then 2 else 1) else 0
def tnV (J : Nat → Nat → Int) : Nat → Int
  | 0 => 0
  | k + 1 => 10 * tnV J k + J 54 (J 50 8 + k).toNat - 48
def tnW (J : Nat → Nat → Int) (a b : Int) (c : Nat) : Nat → Nat → Int := if c = 0 ∨ dgM J c then zup J 50 8 (J 50 8 + c) else zup (zup J 50 9 (tnV J c)) 50 8 (if a ≤ tnV J c ∧ tnV J c ≤ b then J 50 8 + c else J 50 8)
def tnA (J : Nat → Nat → Int) (a b : Int) (c : Nat) : Int := if c = 0 ∨ dgM J c then 0 else if a ≤ tnV J c ∧ tnV J c ≤ b then 1 else 0
def tkS (J : Nat → Nat → Int) (u : Int) : Nat → Nat → Int := if atP J u u then zup J 50 8 (J 50 8 + 1) else J
theorem z3_89 {J : Nat → Nat → Int} {x v y : Int} : zup (zup (zup J 50 8 x) 50 9 v) 50 8 y = zup (zup J 50 9 v) 50 8 y := by
  funext a i
  by_cases h : a = 50 ∧ i = 8
  · simp [zup, h]
  · by_cases h2 : a = 50 ∧ i = 9
    · simp [zup, h2]
    · simp [zup, h, h2]
set_option maxHeartbeats 4000000 in
set_option maxRecDepth 100000 in
theorem k_X5_isAt (lo d : Nat) (hd : 1 ≤ d) (J : Nat → Nat → Int) (G : Nat → Nat → Int64) (F : Nat → Nat → Option Nat) (hF : zFk F) {sv n t a b : Int} (s0 : 0 ≤ sv) (s1 : sv ≤ 1000) (s2 : n ≤ 90) (hs : J 50 8 = sv) (hn : J 50 6 = n) (ht : sv < n → J 54 sv.toNat = t) (t0 : sv < n → 0 ≤ t) (t1 : sv < n → t ≤ 127) (ha : zr a) (hb : zr b) (hn0 : 0 ≤ n) : zCt lo yX5_isAt cX5_isAt 3 (some .boolean) d 0 0 [.ref (lo + 50), .int (zI a), .int (zI b)] 57 57 (zM J) G F (zD [.int (zI (if sv < n ∧ a ≤ t ∧ t ≤ b then 1 else 0))] J G F) := by
  refine zCt.mk (by decide) (mv_X5_isAt.2.2.2.1) (Nat.le_of_ble_eq_true rfl) ?_
  intro p l e s m args below meth c D cA X
  refine zG_aload_n X dX5_isAt_0 rfl ?_
  refine zj_getv (v := sv) X dX5_isAt_1 fl_X5_145 (by first | rfl | assumption) (by first | decide | omega) (by decide) rfl (hs) ?_
  refine zG_aload_n X dX5_isAt_4 rfl ?_
  refine zj_getv (v := n) X dX5_isAt_5 fl_X5_142 (by first | rfl | assumption) (by first | decide | omega) (by decide) rfl (hn) ?_
  refine zj_icmp_ge X dX5_isAt_8 (tgt := 32) (by decide) (by first | decide | omega) (by first | decide | omega) (fun h_8 => ?_) (fun h_8 => ?_)
  · refine zj_iconst X dX5_isAt_32 ?_
    refine zG_zret X dX5_isAt_33 rfl (by first | rfl | assumption) ?_
    first
      | exact zD.of (congrArg (fun z => [Value.int (zI z)]) (if_pos (by omega)).symm) rfl rfl rfl
      | exact zD.of (congrArg (fun z => [Value.int (zI z)]) (if_neg (by omega)).symm) rfl rfl rfl
  · refine zG_aload_n X dX5_isAt_11 rfl ?_
    refine zG_getR X dX5_isAt_12 fl_X5_19 (by first | rfl | assumption) (by first | decide | omega) (by decide) rfl (by first | exact zF_at hF rfl rfl | assumption) ?_
    refine zG_aload_n X dX5_isAt_15 rfl ?_
    refine zj_getv (v := sv) X dX5_isAt_16 fl_X5_145 (by first | rfl | assumption) (by first | decide | omega) (by decide) rfl (hs) ?_
    refine zj_ialoadv (v := t) X dX5_isAt_19 (by first | rfl | assumption) (by first | decide | omega) (sv.toNat) (by omega) (by omega) (ht (by omega)) ?_
    refine zG_iload_n X dX5_isAt_20 rfl ?_
    refine zG_iload_n X dX5_isAt_21 rfl ?_
    refine zj_callS1 (as2 := [_, _, _]) X (k_X5_in lo (d - 1) J G F (x := t) (a := a) (b := b) (by have := t0 (by omega); have := t1 (by omega); unfold zr; omega) ha hb) dX5_isAt_22 ms_X5_in ml_X5_41 rfl rfl (by show d - 1 + 1 ≤ d; omega) (by show 19 + 3 + 35 * (d - 1) ≤ 35 * (d); omega) (Nat.le_of_ble_eq_true rfl) (Nat.le_of_ble_eq_true rfl) (Nat.le_of_ble_eq_true rfl) ?_
    by_cases hq : a ≤ t ∧ t ≤ b
    · rw [if_pos hq]
      refine zj_if_eq X dX5_isAt_25 (tgt := 32) (by decide) (by first | decide | omega) (fun h_25 => ?_) (fun h_25 => ?_)
      · exact absurd h_25 (by first | decide | omega)
      · refine zj_iconst X dX5_isAt_28 ?_
        refine zG_goto X dX5_isAt_29 (tgt := 33) (by decide) ?_
        refine zG_zret X dX5_isAt_33 rfl (by first | rfl | assumption) ?_
        first
          | exact zD.of (congrArg (fun z => [Value.int (zI z)]) (if_pos (by omega)).symm) rfl rfl rfl
          | exact zD.of (congrArg (fun z => [Value.int (zI z)]) (if_neg (by omega)).symm) rfl rfl rfl
    · rw [if_neg hq]
      refine zj_if_eq X dX5_isAt_25 (tgt := 32) (by decide) (by first | decide | omega) (fun h_25 => ?_) (fun h_25 => ?_)
      · refine zj_iconst X dX5_isAt_32 ?_
        refine zG_zret X dX5_isAt_33 rfl (by first | rfl | assumption) ?_
        first
          | exact zD.of (congrArg (fun z => [Value.int (zI z)]) (if_pos (by omega)).symm) rfl rfl rfl
          | exact zD.of (congrArg (fun z => [Value.int (zI z)]) (if_neg (by omega)).symm) rfl rfl rfl
      · exact absurd h_25 (by first | decide | omega)
set_option maxHeartbeats 4000000 in
set_option maxRecDepth 100000 in
theorem k_X5_takes (lo d : Nat) (hd : 2 ≤ d) (J : Nat → Nat → Int) (G : Nat → Nat → Int64) (F : Nat → Nat → Option Nat) (hF : zFk F) (po : psOk J) {u : Int} (hu : zr u) : zCt lo yX5_takes cX5_takes 3 (some .boolean) d 0 0 [.ref (lo + 50), .int (zI u)] 57 57 (zM J) G F (zD [.int (zI (if atP J u u then 1 else 0))] (tkS J u) G F) := by
  refine zCt.mk (by decide) (mv_X5_takes.2.2.2.1) (Nat.le_of_ble_eq_true rfl) ?_
  intro p l e s m args below meth c D cA X
  obtain ⟨s0, s1, s2, hT⟩ := po
  refine zG_aload_n X dX5_takes_0 rfl ?_
  refine zG_iload_n X dX5_takes_1 rfl ?_
  refine zG_iload_n X dX5_takes_2 rfl ?_
  refine zj_callV1 (as2 := [_, _]) X (k_X5_isAt lo (d - 1) (by omega) J G F hF (sv := J 50 8) (n := J 50 6) (t := J 54 (J 50 8).toNat) (a := u) (b := u) s0 (by omega) s2 rfl rfl (fun _ => rfl) (fun _ => (hT _).1) (fun _ => (hT _).2) (by first | assumption | decide) (by first | assumption | decide) (by omega)) dX5_takes_3 mv_X5_isAt ml_X5_148 (by first | rfl | assumption) rfl (by first | decide | omega) rfl rfl (by show d - 1 + 1 ≤ d; omega) (by show 19 + 3 + 35 * (d - 1) ≤ 35 * (d); omega) (Nat.le_of_ble_eq_true rfl) (Nat.le_of_ble_eq_true rfl) (Nat.le_of_ble_eq_true rfl) ?_
  by_cases hq : atP J u u
  · rw [if_pos hq]
    refine zG_istore_n X dX5_takes_6 (by decide) rfl ?_
    refine zG_aload_n X dX5_takes_7 rfl ?_
    refine zG_dup X dX5_takes_8 rfl ?_
    refine zj_get X dX5_takes_9 fl_X5_145 (by first | rfl | assumption) (by first | decide | omega) (by decide) rfl ?_
    refine zG_iload_n X dX5_takes_12 rfl ?_
    refine zj_if_eq X dX5_takes_13 (tgt := 20) (by decide) (by first | decide | omega) (fun h_13 => ?_) (fun h_13 => ?_)
    · exact absurd h_13 (by first | decide | omega)
    · refine zj_iconst X dX5_takes_16 ?_
      refine zG_goto X dX5_takes_17 (tgt := 21) (by decide) ?_
      refine zj_iadd X dX5_takes_21 ?_
      refine zj_put X dX5_takes_22 fl_X5_145 (by first | rfl | assumption) (by first | decide | omega) (by decide) rfl rfl ?_
      refine zG_iload_n X dX5_takes_25 rfl ?_
      refine zG_zret X dX5_takes_26 rfl (by first | rfl | assumption) ?_
      first
        | exact zD.of rfl (by unfold tkS; rw [if_pos hq]) rfl rfl
        | exact zD.of rfl (by unfold tkS; rw [if_neg hq, Int.add_zero, zup_sf]) rfl rfl
  · rw [if_neg hq]
    refine zG_istore_n X dX5_takes_6 (by decide) rfl ?_
    refine zG_aload_n X dX5_takes_7 rfl ?_
    refine zG_dup X dX5_takes_8 rfl ?_
    refine zj_get X dX5_takes_9 fl_X5_145 (by first | rfl | assumption) (by first | decide | omega) (by decide) rfl ?_
    refine zG_iload_n X dX5_takes_12 rfl ?_
    refine zj_if_eq X dX5_takes_13 (tgt := 20) (by decide) (by first | decide | omega) (fun h_13 => ?_) (fun h_13 => ?_)
    · refine zj_iconst X dX5_takes_20 ?_
      refine zj_iadd X dX5_takes_21 ?_
      refine zj_put X dX5_takes_22 fl_X5_145 (by first | rfl | assumption) (by first | decide | omega) (by decide) rfl rfl ?_
      refine zG_iload_n X dX5_takes_25 rfl ?_
      refine zG_zret X dX5_takes_26 rfl (by first | rfl | assumption) ?_
      first
        | exact zD.of rfl (by unfold tkS; rw [if_pos hq]) rfl rfl
        | exact zD.of rfl (by unfold tkS; rw [if_neg hq, Int.add_zero, zup_sf]) rfl rfl
    · exact absurd h_13 (by first | decide | omega)
set_option maxHeartbeats 4000000 in
set_option maxRecDepth 100000 in
theorem k_X5_takesNumber (lo d : Nat) (hd : 2 ≤ d) (J : Nat → Nat → Int) (G : Nat → Nat → Int64) (F : Nat → Nat → Option Nat) (hF : zFk F) (po : psOk J) {a b : Int} (ha : zr a) (hb : zr b) : zCt lo yX5_takesNumber cX5_takesNumber 6 (some .boolean) d 0 0 [.ref (lo + 50), .int (zI a), .int (zI b)] 57 57 (zM J) G F (zD [.int (zI (tnA J a b (tnK J)))] (tnW J a b (tnK J)) G F) := by
  refine zCt.mk (by decide) (mv_X5_takesNumber.2.2.2.1) (Nat.le_of_ble_eq_true rfl) ?_
  intro p l e s m args below meth c D cA X
  obtain ⟨s0, s1, s2, hT⟩ := po
  have hT0 := hT (J 50 8 + ((0 : Nat) : Int)).toNat
  have hT1 := hT (J 50 8 + ((1 : Nat) : Int)).toNat
  have v1 : tnV J 1 = 10 * 0 + J 54 (J 50 8 + ((0 : Nat) : Int)).toNat - 48 := rfl
  have v2 : tnV J 2 = 10 * tnV J 1 + J 54 (J 50 8 + ((1 : Nat) : Int)).toNat - 48 := rfl
  have v0 : tnV J 0 = 0 := rfl
  refine zG_aload_n X dX5_takesNumber_0 rfl ?_
  refine zj_get X dX5_takesNumber_1 fl_X5_145 (by first | rfl | assumption) (by first | decide | omega) (by decide) rfl ?_
  refine zG_istore_n X dX5_takesNumber_4 (by decide) rfl ?_
  refine zj_iconst X dX5_takesNumber_5 ?_
  refine zG_istore X dX5_takesNumber_6 (by decide) rfl ?_
  refine zG_aload_n X dX5_takesNumber_8 rfl ?_
  refine zj_bipush X dX5_takesNumber_9 (by decide) ?_
  refine zj_bipush X dX5_takesNumber_11 (by decide) ?_
  refine zj_callV1 (as2 := [_, _]) X (k_X5_isAt lo (d - 1) (by omega) J G F hF (sv := (J 50 8 + ((0 : Nat) : Int))) (n := J 50 6) (t := J 54 (J 50 8 + ((0 : Nat) : Int)).toNat) (a := 48) (b := 57) (by omega) (by omega) s2 (by omega) (rfl) (fun _ => by first | rfl | simp [zup]) (fun _ => (hT _).1) (fun _ => (hT _).2) (by decide) (by decide) (by omega)) dX5_takesNumber_13 mv_X5_isAt ml_X5_148 (by first | rfl | assumption) rfl (by first | decide | omega) rfl rfl (by show d - 1 + 1 ≤ d; omega) (by show 19 + 3 + 35 * (d - 1) ≤ 35 * (d); omega) (Nat.le_of_ble_eq_true rfl) (Nat.le_of_ble_eq_true rfl) (Nat.le_of_ble_eq_true rfl) ?_
  by_cases hd0 : dgM J 0
  · rw [if_pos hd0]
    refine zj_if_eq X dX5_takesNumber_16 (tgt := 62) (by decide) (by first | decide | omega) (fun h_16 => ?_) (fun h_16 => ?_)
    · exact absurd h_16 (by first | decide | omega)
    · refine zG_aload_n X dX5_takesNumber_19 rfl ?_
      refine zj_getv (v := J 50 8) X dX5_takesNumber_20 fl_X5_145 (by first | rfl | assumption) (by first | decide | omega) (by decide) rfl (rfl) ?_
      refine zG_iload_n X dX5_takesNumber_23 rfl ?_
      refine zj_iconst X dX5_takesNumber_24 ?_
      refine zj_iadd X dX5_takesNumber_25 ?_
      refine zj_icmp_ge X dX5_takesNumber_26 (tgt := 62) (by decide) (by first | decide | omega) (by first | decide | omega) (fun h_26 => ?_) (fun h_26 => ?_)
      · exact absurd h_26 (by first | decide | omega)
      · refine zj_bipush X dX5_takesNumber_29 (by decide) ?_
        refine zG_iload X dX5_takesNumber_31 rfl ?_
        refine zj_imul X dX5_takesNumber_33 ?_
        refine zG_aload_n X dX5_takesNumber_34 rfl ?_
        refine zG_getR X dX5_takesNumber_35 fl_X5_19 (by first | rfl | assumption) (by first | decide | omega) (by decide) rfl (by first | exact zF_at hF rfl rfl | assumption) ?_
        refine zG_aload_n X dX5_takesNumber_38 rfl ?_
        refine zj_getv (v := J 50 8) X dX5_takesNumber_39 fl_X5_145 (by first | rfl | assumption) (by first | decide | omega) (by decide) rfl (rfl) ?_
        refine zj_ialoadv (v := J 54 (J 50 8 + ((0 : Nat) : Int)).toNat) X dX5_takesNumber_42 (by first | rfl | assumption) (by first | decide | omega) ((J 50 8 + ((0 : Nat) : Int)).toNat) (by omega) (by omega) (congrArg (J 54) (by omega)) ?_
        refine zj_iadd X dX5_takesNumber_43 ?_
        refine zj_bipush X dX5_takesNumber_44 (by decide) ?_
        refine zj_isub X dX5_takesNumber_46 ?_
        rw [show 10 * 0 + J 54 (J 50 8 + ((0 : Nat) : Int)).toNat - 48 = tnV J 1 from rfl]
        refine zG_istore X dX5_takesNumber_47 (by decide) rfl ?_
        refine zG_aload_n X dX5_takesNumber_49 rfl ?_
        refine zG_dup X dX5_takesNumber_50 rfl ?_
        refine zj_getv (v := J 50 8) X dX5_takesNumber_51 fl_X5_145 (by first | rfl | assumption) (by first | decide | omega) (by decide) rfl (rfl) ?_
        refine zj_iconst X dX5_takesNumber_54 ?_
        refine zj_iadd X dX5_takesNumber_55 ?_
        refine zj_put X dX5_takesNumber_56 fl_X5_145 (by first | rfl | assumption) (by first | decide | omega) (by decide) rfl rfl ?_
        refine zG_goto X dX5_takesNumber_59 (tgt := 8) (by decide) ?_
        refine zG_aload_n X dX5_takesNumber_8 rfl ?_
        refine zj_bipush X dX5_takesNumber_9 (by decide) ?_
        refine zj_bipush X dX5_takesNumber_11 (by decide) ?_
        refine zj_callV1 (as2 := [_, _]) X (k_X5_isAt lo (d - 1) (by omega) (zup J 50 8 (J 50 8 + 1)) G F hF (sv := (J 50 8 + ((1 : Nat) : Int))) (n := J 50 6) (t := J 54 (J 50 8 + ((1 : Nat) : Int)).toNat) (a := 48) (b := 57) (by omega) (by omega) s2 (by rw [zup_eq]; omega) (by simp [zup]) (fun _ => by first | rfl | simp [zup]) (fun _ => (hT _).1) (fun _ => (hT _).2) (by decide) (by decide) (by omega)) dX5_takesNumber_13 mv_X5_isAt ml_X5_148 (by first | rfl | assumption) rfl (by first | decide | omega) rfl rfl (by show d - 1 + 1 ≤ d; omega) (by show 19 + 3 + 35 * (d - 1) ≤ 35 * (d); omega) (Nat.le_of_ble_eq_true rfl) (Nat.le_of_ble_eq_true rfl) (Nat.le_of_ble_eq_true rfl) ?_
        by_cases hd1 : dgM J 1
        · rw [if_pos hd1]
          refine zj_if_eq X dX5_takesNumber_16 (tgt := 62) (by decide) (by first | decide | omega) (fun h_16 => ?_) (fun h_16 => ?_)
          · exact absurd h_16 (by first | decide | omega)
          · refine zG_aload_n X dX5_takesNumber_19 rfl ?_
            refine zj_getv (v := J 50 8 + 1) X dX5_takesNumber_20 fl_X5_145 (by first | rfl | assumption) (by first | decide | omega) (by decide) rfl (by exact zup_eq) ?_
            refine zG_iload_n X dX5_takesNumber_23 rfl ?_
            refine zj_iconst X dX5_takesNumber_24 ?_
            refine zj_iadd X dX5_takesNumber_25 ?_
            refine zj_icmp_ge X dX5_takesNumber_26 (tgt := 62) (by decide) (by first | decide | omega) (by first | decide | omega) (fun h_26 => ?_) (fun h_26 => ?_)
            · exact absurd h_26 (by first | decide | omega)
            · refine zj_bipush X dX5_takesNumber_29 (by decide) ?_
              refine zG_iload X dX5_takesNumber_31 rfl ?_
              refine zj_imul X dX5_takesNumber_33 ?_
              refine zG_aload_n X dX5_takesNumber_34 rfl ?_
              refine zG_getR X dX5_takesNumber_35 fl_X5_19 (by first | rfl | assumption) (by first | decide | omega) (by decide) rfl (by first | exact zF_at hF rfl rfl | assumption) ?_
              refine zG_aload_n X dX5_takesNumber_38 rfl ?_
              refine zj_getv (v := J 50 8 + 1) X dX5_takesNumber_39 fl_X5_145 (by first | rfl | assumption) (by first | decide | omega) (by decide) rfl (by exact zup_eq) ?_
              refine zj_ialoadv (v := J 54 (J 50 8 + ((1 : Nat) : Int)).toNat) X dX5_takesNumber_42 (by first | rfl | assumption) (by first | decide | omega) ((J 50 8 + ((1 : Nat) : Int)).toNat) (by omega) (by omega) (by exact (zup_ne (by omega)).trans (congrArg (J 54) (by omega))) ?_
              refine zj_iadd X dX5_takesNumber_43 ?_
              refine zj_bipush X dX5_takesNumber_44 (by decide) ?_
              refine zj_isub X dX5_takesNumber_46 ?_
              rw [show 10 * tnV J 1 + J 54 (J 50 8 + ((1 : Nat) : Int)).toNat - 48 = tnV J 2 from rfl]
              refine zG_istore X dX5_takesNumber_47 (by decide) rfl ?_
              refine zG_aload_n X dX5_takesNumber_49 rfl ?_
              refine zG_dup X dX5_takesNumber_50 rfl ?_
              refine zj_getv (v := J 50 8 + 1) X dX5_takesNumber_51 fl_X5_145 (by first | rfl | assumption) (by first | decide | omega) (by decide) rfl (by exact zup_eq) ?_
              refine zj_iconst X dX5_takesNumber_54 ?_
              refine zj_iadd X dX5_takesNumber_55 ?_
              refine zj_put X dX5_takesNumber_56 fl_X5_145 (by first | rfl | assumption) (by first | decide | omega) (by decide) rfl rfl ?_
              refine zG_goto X dX5_takesNumber_59 (tgt := 8) (by decide) ?_
              refine zG_aload_n X dX5_takesNumber_8 rfl ?_
              refine zj_bipush X dX5_takesNumber_9 (by decide) ?_
              refine zj_bipush X dX5_takesNumber_11 (by decide) ?_
              refine zj_callV1 (as2 := [_, _]) X (k_X5_isAt lo (d - 1) (by omega) (zup (zup J 50 8 (J 50 8 + 1)) 50 8 (J 50 8 + 1 + 1)) G F hF (sv := (J 50 8 + ((2 : Nat) : Int))) (n := J 50 6) (t := J 54 (J 50 8 + ((2 : Nat) : Int)).toNat) (a := 48) (b := 57) (by omega) (by omega) s2 (by rw [zup_eq]; omega) (by simp [zup]) (fun _ => by first | rfl | simp [zup]) (fun _ => (hT _).1) (fun _ => (hT _).2) (by decide) (by decide) (by omega)) dX5_takesNumber_13 mv_X5_isAt ml_X5_148 (by first | rfl | assumption) rfl (by first | decide | omega) rfl rfl (by show d - 1 + 1 ≤ d; omega) (by show 19 + 3 + 35 * (d - 1) ≤ 35 * (d); omega) (Nat.le_of_ble_eq_true rfl) (Nat.le_of_ble_eq_true rfl) (Nat.le_of_ble_eq_true rfl) ?_
              by_cases hd2 : dgM J 2
              · rw [if_pos hd2]
                refine zj_if_eq X dX5_takesNumber_16 (tgt := 62) (by decide) (by first | decide | omega) (fun h_16 => ?_) (fun h_16 => ?_)
                · exact absurd h_16 (by first | decide | omega)
                · refine zG_aload_n X dX5_takesNumber_19 rfl ?_
                  refine zj_getv (v := J 50 8 + 1 + 1) X dX5_takesNumber_20 fl_X5_145 (by first | rfl | assumption) (by first | decide | omega) (by decide) rfl (by exact zup_eq) ?_
                  refine zG_iload_n X dX5_takesNumber_23 rfl ?_
                  refine zj_iconst X dX5_takesNumber_24 ?_
                  refine zj_iadd X dX5_takesNumber_25 ?_
                  refine zj_icmp_ge X dX5_takesNumber_26 (tgt := 62) (by decide) (by first | decide | omega) (by first | decide | omega) (fun h_26 => ?_) (fun h_26 => ?_)
                  · refine zG_aload_n X dX5_takesNumber_62 rfl ?_
                    refine zj_getv (v := J 50 8 + 1 + 1) X dX5_takesNumber_63 fl_X5_145 (by first | rfl | assumption) (by first | decide | omega) (by decide) rfl (by exact zup_eq) ?_
                    refine zG_iload_n X dX5_takesNumber_66 rfl ?_
                    refine zj_icmp_eq X dX5_takesNumber_67 (tgt := 81) (by decide) (by first | decide | omega) (by first | decide | omega) (fun h_67 => ?_) (fun h_67 => ?_)
                    · exact absurd h_67 (by first | decide | omega)
                    · refine zG_aload_n X dX5_takesNumber_70 rfl ?_
                      refine zj_bipush X dX5_takesNumber_71 (by decide) ?_
                      refine zj_bipush X dX5_takesNumber_73 (by decide) ?_
                      refine zj_callV1 (as2 := [_, _]) X (k_X5_isAt lo (d - 1) (by omega) (zup (zup J 50 8 (J 50 8 + 1)) 50 8 (J 50 8 + 1 + 1)) G F hF (sv := (J 50 8 + ((2 : Nat) : Int))) (n := J 50 6) (t := J 54 (J 50 8 + ((2 : Nat) : Int)).toNat) (a := 48) (b := 57) (by omega) (by omega) s2 (by rw [zup_eq]; omega) (by simp [zup]) (fun _ => by first | rfl | simp [zup]) (fun _ => (hT _).1) (fun _ => (hT _).2) (by decide) (by decide) (by omega)) dX5_takesNumber_75 mv_X5_isAt ml_X5_148 (by first | rfl | assumption) rfl (by first | decide | omega) rfl rfl (by show d - 1 + 1 ≤ d; omega) (by show 19 + 3 + 35 * (d - 1) ≤ 35 * (d); omega) (Nat.le_of_ble_eq_true rfl) (Nat.le_of_ble_eq_true rfl) (Nat.le_of_ble_eq_true rfl) ?_
                      by_cases hx2 : dgM J 2
                      · rw [if_pos hx2]
                        refine zj_if_eq X dX5_takesNumber_78 (tgt := 83) (by decide) (by first | decide | omega) (fun h_78 => ?_) (fun h_78 => ?_)
                        · exact absurd h_78 (by first | decide | omega)
                        · refine zj_iconst X dX5_takesNumber_81 ?_
                          refine zG_zret X dX5_takesNumber_82 rfl (by first | rfl | assumption) ?_
                          have hc : tnK J = 2 := by unfold tnK; rw [if_pos hd0, if_pos hd1]
                          first
                            | (exfalso; omega)
                            | exact zD.of (congrArg (fun z => [Value.int (zI z)]) (by rw [hc]; exact (if_pos (by first | exact Or.inl rfl | exact Or.inr (by first | exact hd2 | exact hx2))).symm)) (by rw [hc]; unfold tnW; rw [if_pos (by first | exact Or.inl rfl | exact Or.inr (by first | exact hd2 | exact hx2))]; rw [zup_tw]; exact congrArg (zup J 50 8) (by omega)) rfl rfl
                      · rw [if_neg hx2]
                        refine zj_if_eq X dX5_takesNumber_78 (tgt := 83) (by decide) (by first | decide | omega) (fun h_78 => ?_) (fun h_78 => ?_)
                        · refine zG_aload_n X dX5_takesNumber_83 rfl ?_
                          refine zG_iload X dX5_takesNumber_84 rfl ?_
                          refine zj_put X dX5_takesNumber_86 fl_X5_151 (by first | rfl | assumption) (by first | decide | omega) (by decide) rfl rfl ?_
                          refine zG_iload X dX5_takesNumber_89 rfl ?_
                          refine zG_iload_n X dX5_takesNumber_91 rfl ?_
                          refine zG_iload_n X dX5_takesNumber_92 rfl ?_
                          refine zj_callS1 (as2 := [_, _, _]) X (k_X5_in lo (d - 1) _ G F (x := tnV J 2) (a := a) (b := b) (by unfold zr; omega) ha hb) dX5_takesNumber_93 ms_X5_in ml_X5_41 rfl rfl (by show d - 1 + 1 ≤ d; omega) (by show 19 + 3 + 35 * (d - 1) ≤ 35 * (d); omega) (Nat.le_of_ble_eq_true rfl) (Nat.le_of_ble_eq_true rfl) (Nat.le_of_ble_eq_true rfl) ?_
                          by_cases hv : a ≤ tnV J 2 ∧ tnV J 2 ≤ b
                          · rw [if_pos hv]
                            refine zG_istore X dX5_takesNumber_96 (by decide) rfl ?_
                            refine zG_aload_n X dX5_takesNumber_98 rfl ?_
                            refine zG_iload X dX5_takesNumber_99 rfl ?_
                            refine zj_if_eq X dX5_takesNumber_101 (tgt := 111) (by decide) (by first | decide | omega) (fun h_101 => ?_) (fun h_101 => ?_)
                            · exact absurd h_101 (by first | decide | omega)
                            · refine zG_aload_n X dX5_takesNumber_104 rfl ?_
                              refine zj_getv (v := J 50 8 + 1 + 1) X dX5_takesNumber_105 fl_X5_145 (by first | rfl | assumption) (by first | decide | omega) (by decide) rfl (by exact (zup_ne (by decide)).trans zup_eq) ?_
                              refine zG_goto X dX5_takesNumber_108 (tgt := 112) (by decide) ?_
                              refine zj_put X dX5_takesNumber_112 fl_X5_145 (by first | rfl | assumption) (by first | decide | omega) (by decide) rfl rfl ?_
                              refine zG_iload X dX5_takesNumber_115 rfl ?_
                              refine zG_zret X dX5_takesNumber_117 rfl (by first | rfl | assumption) ?_
                              have hc : tnK J = 2 := by unfold tnK; rw [if_pos hd0, if_pos hd1]
                              first
                                | (exfalso; omega)
                                | exact zD.of (congrArg (fun z => [Value.int (zI z)]) (by rw [hc]; unfold tnA; rw [if_neg (by rintro (z | z) <;> first | omega | exact hx2 z)]; first | (rw [if_pos hv]; done) | (rw [if_neg hv]; done))) (by rw [hc]; unfold tnW; rw [if_neg (by rintro (z | z) <;> first | omega | exact hx2 z)]; first | (rw [if_pos hv]; rw [zup_tw, z3_89]; exact congrArg (zup _ 50 8) (by omega)) | (rw [if_neg hv]; rw [zup_tw, z3_89])) rfl rfl
                          · rw [if_neg hv]
                            refine zG_istore X dX5_takesNumber_96 (by decide) rfl ?_
                            refine zG_aload_n X dX5_takesNumber_98 rfl ?_
                            refine zG_iload X dX5_takesNumber_99 rfl ?_
                            refine zj_if_eq X dX5_takesNumber_101 (tgt := 111) (by decide) (by first | decide | omega) (fun h_101 => ?_) (fun h_101 => ?_)
                            · refine zG_iload_n X dX5_takesNumber_111 rfl ?_
                              refine zj_put X dX5_takesNumber_112 fl_X5_145 (by first | rfl | assumption) (by first | decide | omega) (by decide) rfl rfl ?_
                              refine zG_iload X dX5_takesNumber_115 rfl ?_
                              refine zG_zret X dX5_takesNumber_117 rfl (by first | rfl | assumption) ?_
                              have hc : tnK J = 2 := by unfold tnK; rw [if_pos hd0, if_pos hd1]
                              first
                                | (exfalso; omega)
                                | exact zD.of (congrArg (fun z => [Value.int (zI z)]) (by rw [hc]; unfold tnA; rw [if_neg (by rintro (z | z) <;> first | omega | exact hx2 z)]; first | (rw [if_pos hv]; done) | (rw [if_neg hv]; done))) (by rw [hc]; unfold tnW; rw [if_neg (by rintro (z | z) <;> first | omega | exact hx2 z)]; first | (rw [if_pos hv]; rw [zup_tw, z3_89]; exact congrArg (zup _ 50 8) (by omega)) | (rw [if_neg hv]; rw [zup_tw, z3_89])) rfl rfl
                            · exact absurd h_101 (by first | decide | omega)
                        · exact absurd h_78 (by first | decide | omega)
                  · exact absurd h_26 (by first | decide | omega)
              · rw [if_neg hd2]
                refine zj_if_eq X dX5_takesNumber_16 (tgt := 62) (by decide) (by first | decide | omega) (fun h_16 => ?_) (fun h_16 => ?_)
                · refine zG_aload_n X dX5_takesNumber_62 rfl ?_
                  refine zj_getv (v := J 50 8 + 1 + 1) X dX5_takesNumber_63 fl_X5_145 (by first | rfl | assumption) (by first | decide | omega) (by decide) rfl (by exact zup_eq) ?_
                  refine zG_iload_n X dX5_takesNumber_66 rfl ?_
                  refine zj_icmp_eq X dX5_takesNumber_67 (tgt := 81) (by decide) (by first | decide | omega) (by first | decide | omega) (fun h_67 => ?_) (fun h_67 => ?_)
                  · exact absurd h_67 (by first | decide | omega)
                  · refine zG_aload_n X dX5_takesNumber_70 rfl ?_
                    refine zj_bipush X dX5_takesNumber_71 (by decide) ?_
                    refine zj_bipush X dX5_takesNumber_73 (by decide) ?_
                    refine zj_callV1 (as2 := [_, _]) X (k_X5_isAt lo (d - 1) (by omega) (zup (zup J 50 8 (J 50 8 + 1)) 50 8 (J 50 8 + 1 + 1)) G F hF (sv := (J 50 8 + ((2 : Nat) : Int))) (n := J 50 6) (t := J 54 (J 50 8 + ((2 : Nat) : Int)).toNat) (a := 48) (b := 57) (by omega) (by omega) s2 (by rw [zup_eq]; omega) (by simp [zup]) (fun _ => by first | rfl | simp [zup]) (fun _ => (hT _).1) (fun _ => (hT _).2) (by decide) (by decide) (by omega)) dX5_takesNumber_75 mv_X5_isAt ml_X5_148 (by first | rfl | assumption) rfl (by first | decide | omega) rfl rfl (by show d - 1 + 1 ≤ d; omega) (by show 19 + 3 + 35 * (d - 1) ≤ 35 * (d); omega) (Nat.le_of_ble_eq_true rfl) (Nat.le_of_ble_eq_true rfl) (Nat.le_of_ble_eq_true rfl) ?_
                    by_cases hx2 : dgM J 2
                    · rw [if_pos hx2]
                      refine zj_if_eq X dX5_takesNumber_78 (tgt := 83) (by decide) (by first | decide | omega) (fun h_78 => ?_) (fun h_78 => ?_)
                      · exact absurd h_78 (by first | decide | omega)
                      · refine zj_iconst X dX5_takesNumber_81 ?_
                        refine zG_zret X dX5_takesNumber_82 rfl (by first | rfl | assumption) ?_
                        have hc : tnK J = 2 := by unfold tnK; rw [if_pos hd0, if_pos hd1]
                        first
                          | (exfalso; omega)
                          | exact zD.of (congrArg (fun z => [Value.int (zI z)]) (by rw [hc]; exact (if_pos (by first | exact Or.inl rfl | exact Or.inr (by first | exact hd2 | exact hx2))).symm)) (by rw [hc]; unfold tnW; rw [if_pos (by first | exact Or.inl rfl | exact Or.inr (by first | exact hd2 | exact hx2))]; rw [zup_tw]; exact congrArg (zup J 50 8) (by omega)) rfl rfl
                    · rw [if_neg hx2]
                      refine zj_if_eq X dX5_takesNumber_78 (tgt := 83) (by decide) (by first | decide | omega) (fun h_78 => ?_) (fun h_78 => ?_)
                      · refine zG_aload_n X dX5_takesNumber_83 rfl ?_
                        refine zG_iload X dX5_takesNumber_84 rfl ?_
                        refine zj_put X dX5_takesNumber_86 fl_X5_151 (by first | rfl | assumption) (by first | decide | omega) (by decide) rfl rfl ?_
                        refine zG_iload X dX5_takesNumber_89 rfl ?_
                        refine zG_iload_n X dX5_takesNumber_91 rfl ?_
                        refine zG_iload_n X dX5_takesNumber_92 rfl ?_
                        refine zj_callS1 (as2 := [_, _, _]) X (k_X5_in lo (d - 1) _ G F (x := tnV J 2) (a := a) (b := b) (by unfold zr; omega) ha hb) dX5_takesNumber_93 ms_X5_in ml_X5_41 rfl rfl (by show d - 1 + 1 ≤ d; omega) (by show 19 + 3 + 35 * (d - 1) ≤ 35 * (d); omega) (Nat.le_of_ble_eq_true rfl) (Nat.le_of_ble_eq_true rfl) (Nat.le_of_ble_eq_true rfl) ?_
                        by_cases hv : a ≤ tnV J 2 ∧ tnV J 2 ≤ b
                        · rw [if_pos hv]
                          refine zG_istore X dX5_takesNumber_96 (by decide) rfl ?_
                          refine zG_aload_n X dX5_takesNumber_98 rfl ?_
                          refine zG_iload X dX5_takesNumber_99 rfl ?_
                          refine zj_if_eq X dX5_takesNumber_101 (tgt := 111) (by decide) (by first | decide | omega) (fun h_101 => ?_) (fun h_101 => ?_)
                          · exact absurd h_101 (by first | decide | omega)
                          · refine zG_aload_n X dX5_takesNumber_104 rfl ?_
                            refine zj_getv (v := J 50 8 + 1 + 1) X dX5_takesNumber_105 fl_X5_145 (by first | rfl | assumption) (by first | decide | omega) (by decide) rfl (by exact (zup_ne (by decide)).trans zup_eq) ?_
                            refine zG_goto X dX5_takesNumber_108 (tgt := 112) (by decide) ?_
                            refine zj_put X dX5_takesNumber_112 fl_X5_145 (by first | rfl | assumption) (by first | decide | omega) (by decide) rfl rfl ?_
                            refine zG_iload X dX5_takesNumber_115 rfl ?_
                            refine zG_zret X dX5_takesNumber_117 rfl (by first | rfl | assumption) ?_
                            have hc : tnK J = 2 := by unfold tnK; rw [if_pos hd0, if_pos hd1]
                            first
                              | (exfalso; omega)
                              | exact zD.of (congrArg (fun z => [Value.int (zI z)]) (by rw [hc]; unfold tnA; rw [if_neg (by rintro (z | z) <;> first | omega | exact hx2 z)]; first | (rw [if_pos hv]; done) | (rw [if_neg hv]; done))) (by rw [hc]; unfold tnW; rw [if_neg (by rintro (z | z) <;> first | omega | exact hx2 z)]; first | (rw [if_pos hv]; rw [zup_tw, z3_89]; exact congrArg (zup _ 50 8) (by omega)) | (rw [if_neg hv]; rw [zup_tw, z3_89])) rfl rfl
                        · rw [if_neg hv]
                          refine zG_istore X dX5_takesNumber_96 (by decide) rfl ?_
                          refine zG_aload_n X dX5_takesNumber_98 rfl ?_
                          refine zG_iload X dX5_takesNumber_99 rfl ?_
                          refine zj_if_eq X dX5_takesNumber_101 (tgt := 111) (by decide) (by first | decide | omega) (fun h_101 => ?_) (fun h_101 => ?_)
                          · refine zG_iload_n X dX5_takesNumber_111 rfl ?_
                            refine zj_put X dX5_takesNumber_112 fl_X5_145 (by first | rfl | assumption) (by first | decide | omega) (by decide) rfl rfl ?_
                            refine zG_iload X dX5_takesNumber_115 rfl ?_
                            refine zG_zret X dX5_takesNumber_117 rfl (by first | rfl | assumption) ?_
                            have hc : tnK J = 2 := by unfold tnK; rw [if_pos hd0, if_pos hd1]
                            first
                              | (exfalso; omega)
                              | exact zD.of (congrArg (fun z => [Value.int (zI z)]) (by rw [hc]; unfold tnA; rw [if_neg (by rintro (z | z) <;> first | omega | exact hx2 z)]; first | (rw [if_pos hv]; done) | (rw [if_neg hv]; done))) (by rw [hc]; unfold tnW; rw [if_neg (by rintro (z | z) <;> first | omega | exact hx2 z)]; first | (rw [if_pos hv]; rw [zup_tw, z3_89]; exact congrArg (zup _ 50 8) (by omega)) | (rw [if_neg hv]; rw [zup_tw, z3_89])) rfl rfl
                          · exact absurd h_101 (by first | decide | omega)
                      · exact absurd h_78 (by first | decide | omega)
                · exact absurd h_16 (by first | decide | omega)
        · rw [if_neg hd1]
          refine zj_if_eq X dX5_takesNumber_16 (tgt := 62) (by decide) (by first | decide | omega) (fun h_16 => ?_) (fun h_16 => ?_)
          · refine zG_aload_n X dX5_takesNumber_62 rfl ?_
            refine zj_getv (v := J 50 8 + 1) X dX5_takesNumber_63 fl_X5_145 (by first | rfl | assumption) (by first | decide | omega) (by decide) rfl (by exact zup_eq) ?_
            refine zG_iload_n X dX5_takesNumber_66 rfl ?_
            refine zj_icmp_eq X dX5_takesNumber_67 (tgt := 81) (by decide) (by first | decide | omega) (by first | decide | omega) (fun h_67 => ?_) (fun h_67 => ?_)
            · exact absurd h_67 (by first | decide | omega)
            · refine zG_aload_n X dX5_takesNumber_70 rfl ?_
              refine zj_bipush X dX5_takesNumber_71 (by decide) ?_
              refine zj_bipush X dX5_takesNumber_73 (by decide) ?_
              refine zj_callV1 (as2 := [_, _]) X (k_X5_isAt lo (d - 1) (by omega) (zup J 50 8 (J 50 8 + 1)) G F hF (sv := (J 50 8 + ((1 : Nat) : Int))) (n := J 50 6) (t := J 54 (J 50 8 + ((1 : Nat) : Int)).toNat) (a := 48) (b := 57) (by omega) (by omega) s2 (by rw [zup_eq]; omega) (by simp [zup]) (fun _ => by first | rfl | simp [zup]) (fun _ => (hT _).1) (fun _ => (hT _).2) (by decide) (by decide) (by omega)) dX5_takesNumber_75 mv_X5_isAt ml_X5_148 (by first | rfl | assumption) rfl (by first | decide | omega) rfl rfl (by show d - 1 + 1 ≤ d; omega) (by show 19 + 3 + 35 * (d - 1) ≤ 35 * (d); omega) (Nat.le_of_ble_eq_true rfl) (Nat.le_of_ble_eq_true rfl) (Nat.le_of_ble_eq_true rfl) ?_
              by_cases hx1 : dgM J 1
              · rw [if_pos hx1]
                refine zj_if_eq X dX5_takesNumber_78 (tgt := 83) (by decide) (by first | decide | omega) (fun h_78 => ?_) (fun h_78 => ?_)
                · exact absurd h_78 (by first | decide | omega)
                · refine zj_iconst X dX5_takesNumber_81 ?_
                  refine zG_zret X dX5_takesNumber_82 rfl (by first | rfl | assumption) ?_
                  have hc : tnK J = 1 := by unfold tnK; rw [if_pos hd0, if_neg hd1]
                  first
                    | (exfalso; omega)
                    | exact zD.of (congrArg (fun z => [Value.int (zI z)]) (by rw [hc]; exact (if_pos (by first | exact Or.inl rfl | exact Or.inr (by first | exact hd1 | exact hx1))).symm)) (by rw [hc]; unfold tnW; rw [if_pos (by first | exact Or.inl rfl | exact Or.inr (by first | exact hd1 | exact hx1))]; rfl) rfl rfl
              · rw [if_neg hx1]
                refine zj_if_eq X dX5_takesNumber_78 (tgt := 83) (by decide) (by first | decide | omega) (fun h_78 => ?_) (fun h_78 => ?_)
                · refine zG_aload_n X dX5_takesNumber_83 rfl ?_
                  refine zG_iload X dX5_takesNumber_84 rfl ?_
                  refine zj_put X dX5_takesNumber_86 fl_X5_151 (by first | rfl | assumption) (by first | decide | omega) (by decide) rfl rfl ?_
                  refine zG_iload X dX5_takesNumber_89 rfl ?_
                  refine zG_iload_n X dX5_takesNumber_91 rfl ?_
                  refine zG_iload_n X dX5_takesNumber_92 rfl ?_
                  refine zj_callS1 (as2 := [_, _, _]) X (k_X5_in lo (d - 1) _ G F (x := tnV J 1) (a := a) (b := b) (by unfold zr; omega) ha hb) dX5_takesNumber_93 ms_X5_in ml_X5_41 rfl rfl (by show d - 1 + 1 ≤ d; omega) (by show 19 + 3 + 35 * (d - 1) ≤ 35 * (d); omega) (Nat.le_of_ble_eq_true rfl) (Nat.le_of_ble_eq_true rfl) (Nat.le_of_ble_eq_true rfl) ?_
                  by_cases hv : a ≤ tnV J 1 ∧ tnV J 1 ≤ b
                  · rw [if_pos hv]
                    refine zG_istore X dX5_takesNumber_96 (by decide) rfl ?_
                    refine zG_aload_n X dX5_takesNumber_98 rfl ?_
                    refine zG_iload X dX5_takesNumber_99 rfl ?_
                    refine zj_if_eq X dX5_takesNumber_101 (tgt := 111) (by decide) (by first | decide | omega) (fun h_101 => ?_) (fun h_101 => ?_)
                    · exact absurd h_101 (by first | decide | omega)
                    · refine zG_aload_n X dX5_takesNumber_104 rfl ?_
                      refine zj_getv (v := J 50 8 + 1) X dX5_takesNumber_105 fl_X5_145 (by first | rfl | assumption) (by first | decide | omega) (by decide) rfl (by exact (zup_ne (by decide)).trans zup_eq) ?_
                      refine zG_goto X dX5_takesNumber_108 (tgt := 112) (by decide) ?_
                      refine zj_put X dX5_takesNumber_112 fl_X5_145 (by first | rfl | assumption) (by first | decide | omega) (by decide) rfl rfl ?_
                      refine zG_iload X dX5_takesNumber_115 rfl ?_
                      refine zG_zret X dX5_takesNumber_117 rfl (by first | rfl | assumption) ?_
                      have hc : tnK J = 1 := by unfold tnK; rw [if_pos hd0, if_neg hd1]
                      first
                        | (exfalso; omega)
                        | exact zD.of (congrArg (fun z => [Value.int (zI z)]) (by rw [hc]; unfold tnA; rw [if_neg (by rintro (z | z) <;> first | omega | exact hx1 z)]; first | (rw [if_pos hv]; done) | (rw [if_neg hv]; done))) (by rw [hc]; unfold tnW; rw [if_neg (by rintro (z | z) <;> first | omega | exact hx1 z)]; first | (rw [if_pos hv]; exact z3_89) | (rw [if_neg hv]; exact z3_89)) rfl rfl
                  · rw [if_neg hv]
                    refine zG_istore X dX5_takesNumber_96 (by decide) rfl ?_
                    refine zG_aload_n X dX5_takesNumber_98 rfl ?_
                    refine zG_iload X dX5_takesNumber_99 rfl ?_
                    refine zj_if_eq X dX5_takesNumber_101 (tgt := 111) (by decide) (by first | decide | omega) (fun h_101 => ?_) (fun h_101 => ?_)
                    · refine zG_iload_n X dX5_takesNumber_111 rfl ?_
                      refine zj_put X dX5_takesNumber_112 fl_X5_145 (by first | rfl | assumption) (by first | decide | omega) (by decide) rfl rfl ?_
                      refine zG_iload X dX5_takesNumber_115 rfl ?_
                      refine zG_zret X dX5_takesNumber_117 rfl (by first | rfl | assumption) ?_
                      have hc : tnK J = 1 := by unfold tnK; rw [if_pos hd0, if_neg hd1]
                      first
                        | (exfalso; omega)
                        | exact zD.of (congrArg (fun z => [Value.int (zI z)]) (by rw [hc]; unfold tnA; rw [if_neg (by rintro (z | z) <;> first | omega | exact hx1 z)]; first | (rw [if_pos hv]; done) | (rw [if_neg hv]; done))) (by rw [hc]; unfold tnW; rw [if_neg (by rintro (z | z) <;> first | omega | exact hx1 z)]; first | (rw [if_pos hv]; exact z3_89) | (rw [if_neg hv]; exact z3_89)) rfl rfl
                    · exact absurd h_101 (by first | decide | omega)
                · exact absurd h_78 (by first | decide | omega)
          · exact absurd h_16 (by first | decide | omega)
  · rw [if_neg hd0]
    refine zj_if_eq X dX5_takesNumber_16 (tgt := 62) (by decide) (by first | decide | omega) (fun h_16 => ?_) (fun h_16 => ?_)
    · refine zG_aload_n X dX5_takesNumber_62 rfl ?_
      refine zj_getv (v := J 50 8) X dX5_takesNumber_63 fl_X5_145 (by first | rfl | assumption) (by first | decide | omega) (by decide) rfl (rfl) ?_
      refine zG_iload_n X dX5_takesNumber_66 rfl ?_
      refine zj_icmp_eq X dX5_takesNumber_67 (tgt := 81) (by decide) (by first | decide | omega) (by first | decide | omega) (fun h_67 => ?_) (fun h_67 => ?_)
      · refine zj_iconst X dX5_takesNumber_81 ?_
        refine zG_zret X dX5_takesNumber_82 rfl (by first | rfl | assumption) ?_
        have hc : tnK J = 0 := by unfold tnK; rw [if_neg hd0]
        first
          | (exfalso; omega)
          | exact zD.of (congrArg (fun z => [Value.int (zI z)]) (by rw [hc]; exact (if_pos (by first | exact Or.inl rfl | exact Or.inr (by first | exact hd0 | exact hx0))).symm)) (by rw [hc]; unfold tnW; rw [if_pos (by first | exact Or.inl rfl | exact Or.inr (by first | exact hd0 | exact hx0))]; rw [show J 50 8 + ((0 : Nat) : Int) = J 50 8 by omega, zup_sf]) rfl rfl
      · exact absurd h_67 (by first | decide | omega)
    · exact absurd h_16 (by first | decide | omega)
