/-! the Model reads a text: skips and wheels -/
theorem psOk_8 {J : Nat → Nat → Int} {x : Int} (h : psOk J) (h1 : 0 ≤ x) (h2 : x ≤ J 50 6) : psOk (zup J 50 8 x) := by
  obtain ⟨s0, s1, s2, hT⟩ := h
  have e6 : zup J 50 8 x 50 6 = J 50 6 := zup_ne (by decide)
  refine ⟨by rw [zup_eq]; exact h1, by rw [zup_eq, e6]; exact h2, by rw [e6]; exact s2, fun i => ?_⟩
  rw [zup_ne (by omega)]
  exact hT i
theorem psOk_o {J : Nat → Nat → Int} {a j : Nat} {x : Int} (h : psOk J) (ha : a ≠ 54) (h2 : a ≠ 50 ∨ j ≠ 8 ∧ j ≠ 6) : psOk (zup J a j x) := by
  obtain ⟨s0, s1, s2, hT⟩ := h
  have e6 : zup J a j x 50 6 = J 50 6 := zup_ne (by omega)
  have e8 : zup J a j x 50 8 = J 50 8 := zup_ne (by omega)
  refine ⟨by rw [e8]; exact s0, by rw [e8, e6]; exact s1, by rw [e6]; exact s2, fun i => ?_⟩
  rw [zup_ne (by omega)]
  exact hT i
theorem tnK_in {J : Nat → Nat → Int} (h : psOk J) : tnK J ≤ 2 ∧ J 50 8 + (tnK J : Nat) ≤ J 50 6 ∧ 0 ≤ tnV J (tnK J) ∧ tnV J (tnK J) ≤ 99 := by
  obtain ⟨s0, s1, s2, hT⟩ := h
  have v0 : tnV J 0 = 0 := rfl
  have v1 : tnV J 1 = 10 * tnV J 0 + J 54 (J 50 8 + ((0 : Nat) : Int)).toNat - 48 := rfl
  have v2 : tnV J 2 = 10 * tnV J 1 + J 54 (J 50 8 + ((1 : Nat) : Int)).toNat - 48 := rfl
  unfold tnK
  by_cases h0 : dgM J 0
  · rw [if_pos h0]
    by_cases h1 : dgM J 1
    · rw [if_pos h1]
      obtain ⟨q1, q2, q3⟩ := h0
      obtain ⟨r1, r2, r3⟩ := h1
      omega
    · rw [if_neg h1]
      obtain ⟨q1, q2, q3⟩ := h0
      omega
  · rw [if_neg h0]
    omega
theorem tnA_01 {J : Nat → Nat → Int} {a b : Int} {c : Nat} : tnA J a b c = 0 ∨ tnA J a b c = 1 := by
  unfold tnA
  repeat' split
  all_goals simp
theorem psOk_tn {J : Nat → Nat → Int} {a b : Int} (h : psOk J) : psOk (tnW J a b (tnK J)) := by
  have hk := tnK_in h
  unfold tnW
  split
  · exact psOk_8 h (by have := h.1; omega) hk.2.1
  · refine psOk_8 (psOk_o h (by decide) (Or.inr (by decide))) ?_ ?_
    · have := h.1
      split <;> omega
    · rw [zup_ne (by decide)]
      have := h.2.1
      split <;> omega
theorem tnW_o {J : Nat → Nat → Int} {a b : Int} {c x i : Nat} (h : ¬ (x = 50 ∧ (i = 8 ∨ i = 9))) : tnW J a b c x i = J x i := by
  unfold tnW
  split
  · exact zup_ne (by omega)
  · rw [zup_ne (by omega), zup_ne (by omega)]
theorem tn_yes {J : Nat → Nat → Int} {a b : Int} {c : Nat} (h : tnA J a b c = 1) : ¬ (c = 0 ∨ dgM J c) ∧ (a ≤ tnV J c ∧ tnV J c ≤ b) ∧ tnW J a b c = zup (zup J 50 9 (tnV J c)) 50 8 (J 50 8 + c) := by
  unfold tnA at h
  by_cases h1 : c = 0 ∨ dgM J c
  · rw [if_pos h1] at h
    exact absurd h (by decide)
  · rw [if_neg h1] at h
    by_cases h2 : a ≤ tnV J c ∧ tnV J c ≤ b
    · refine ⟨h1, h2, ?_⟩
      unfold tnW
      rw [if_neg h1, if_pos h2]
    · rw [if_neg h2] at h
      exact absurd h (by decide)
theorem tn_num {J : Nat → Nat → Int} {a b : Int} {c : Nat} (h : tnA J a b c = 1) : tnW J a b c 50 9 = tnV J c := by
  rw [(tn_yes h).2.2, zup_ne (by decide), zup_eq]
def tsC (J : Nat → Nat → Int) (k : Nat) (dr to : Int) : (Nat → Nat → Int) × Int :=
  if atP J 43 43 then (sk3 (zup J 50 8 (J 50 8 + 1)) k dr to 1, 1) else if atP J 45 45 then (sk3 (zup J 50 8 (J 50 8 + 1)) k dr to (-1), 1) else (J, 0)
def tsB (J : Nat → Nat → Int) (k : Nat) (dr : Int) : (Nat → Nat → Int) × Int :=
  if tnA J 0 (J 51 (13 + 7 * dr.toNat + 0) - 1) (tnK J) = 1 then tsC (tnW J 0 (J 51 (13 + 7 * dr.toNat + 0) - 1) (tnK J)) k dr (tnW J 0 (J 51 (13 + 7 * dr.toNat + 0) - 1) (tnK J) 50 9) else (tnW J 0 (J 51 (13 + 7 * dr.toNat + 0) - 1) (tnK J), 0)
def tsA (J : Nat → Nat → Int) (k : Nat) (dr : Int) : (Nat → Nat → Int) × Int := if atP J 44 44 then tsB (zup J 50 8 (J 50 8 + 1)) k dr else (J, 0)
def tsR (J : Nat → Nat → Int) (k : Nat) : (Nat → Nat → Int) × Int := if atP J 48 52 ∧ J 54 (J 50 8).toNat - 48 < k then tsA (zup J 50 8 (J 50 8 + 1)) k (J 54 (J 50 8).toNat - 48) else (J, 0)
def tsH (J : Nat → Nat → Int) (k : Nat) : Prop := psOk J ∧ (∀ j, j < k → 2 ≤ J 51 (13 + 7 * j + 0) ∧ J 51 (13 + 7 * j + 0) ≤ 60) ∧ zr (J 51 (13 + 7 * k + 3))
theorem tsH_8 {J : Nat → Nat → Int} {k : Nat} (h : tsH J k) (h1 : J 50 8 < J 50 6) : tsH (zup J 50 8 (J 50 8 + 1)) k := by
  refine ⟨psOk_8 h.1 (by have := h.1.1; omega) (by omega), fun j hj => ?_, ?_⟩
  · rw [zup_ne (by omega)]
    exact h.2.1 j hj
  · rw [zup_ne (by omega)]
    exact h.2.2
theorem tsH_tn {J : Nat → Nat → Int} {k : Nat} {a b : Int} (h : tsH J k) : tsH (tnW J a b (tnK J)) k := by
  refine ⟨psOk_tn h.1, fun j hj => ?_, ?_⟩
  · rw [tnW_o (by omega)]
    exact h.2.1 j hj
  · rw [tnW_o (by omega)]
    exact h.2.2
set_option maxHeartbeats 4000000 in
set_option maxRecDepth 100000 in
theorem k_X5_takesSkip (lo d : Nat) (hd : 3 ≤ d) (J : Nat → Nat → Int) (G : Nat → Nat → Int64) (F : Nat → Nat → Option Nat) (hF : zFk F) {k : Nat} (hk : k < 5) (hH : tsH J k) : zCt lo yX5_takesSkip cX5_takesSkip 6 (some .boolean) d 0 0 [.ref (lo + 50), .int (zI (k : Int))] 57 57 (zM J) G F (zD [.int (zI (tsR J k).2)] (tsR J k).1 G F) := by
  refine zCt.mk (by decide) (mv_X5_takesSkip.2.2.2.1) (Nat.le_of_ble_eq_true rfl) ?_
  intro p l e s m args below meth c D cA X
  obtain ⟨s0, s1, s2, hT⟩ := hH.1
  have hT0 := hT (J 50 8).toNat
  have stC : ∀ (J1 : Nat → Nat → Int) (dr : Int) (to : Int), tsH J1 k → tsR J k = tsC J1 k dr to → zG p l e { frames := d, cells := 0, slots := 0, locals := 35 * d } s m args below meth c D cA lo 6 0 0 (MQ below (zQ D cA lo 57 (zD [.int (zI (tsR J k).2)] (tsR J k).1 G F)) args s 0 0 (fun q => lo ≤ q)) 57 (zM (J1)) G F [some (.ref (lo + 50)), some (.int (zI (k : Int))), some (.int (zI dr)), some (.int (zI to)), none, none] [] 84 := by
    intro J1 dr to hH hR
    refine zG_aload_n X dX5_takesSkip_84 rfl ?_
    refine zj_bipush X dX5_takesSkip_85 (by decide) ?_
    refine zj_callV1 (as2 := [_]) X (k_X5_takes lo (d - 1) (by omega) J1 G F hF hH.1 (u := 43) (by decide)) dX5_takesSkip_87 mv_X5_takes ml_X5_154 (by first | rfl | assumption) rfl (by first | decide | omega) rfl rfl (by show d - 1 + 1 ≤ d; omega) (by show 19 + 3 + 35 * (d - 1) ≤ 35 * (d); omega) (Nat.le_of_ble_eq_true rfl) (Nat.le_of_ble_eq_true rfl) (Nat.le_of_ble_eq_true rfl) ?_
    by_cases hp : atP J1 43 43
    · rw [if_pos hp, show tkS J1 43 = zup J1 50 8 (J1 50 8 + 1) from if_pos hp]
      refine zG_istore X dX5_takesSkip_90 (by decide) rfl ?_
      refine zG_iload X dX5_takesSkip_92 rfl ?_
      refine zj_if_ne X dX5_takesSkip_94 (tgt := 108) (by decide) (by first | decide | omega) (fun h_94 => ?_) (fun h_94 => ?_)
      · refine zG_aload_n X dX5_takesSkip_108 rfl ?_
        refine zG_iload_n X dX5_takesSkip_109 rfl ?_
        refine zG_iload_n X dX5_takesSkip_110 rfl ?_
        refine zG_iload_n X dX5_takesSkip_111 rfl ?_
        refine zG_iload X dX5_takesSkip_112 rfl ?_
        refine zj_if_eq X dX5_takesSkip_114 (tgt := 121) (by decide) (by first | decide | omega) (fun h_114 => ?_) (fun h_114 => ?_)
        · exact absurd h_114 (by first | decide | omega)
        · refine zj_iconst X dX5_takesSkip_117 ?_
          refine zG_goto X dX5_takesSkip_118 (tgt := 122) (by decide) ?_
          refine zj_callV1 (as2 := [_, _, _, _]) X (k_X5_skips lo (d - 1) (by omega) (zup J1 50 8 (J1 50 8 + 1)) G F hF (k := k) hk (a := dr) (b := to) (c := _) (by rw [zup_ne (by omega)]; exact hH.2.2)) dX5_takesSkip_122 mv_X5_skips ml_X5_68 (by first | rfl | assumption) rfl (by first | decide | omega) rfl rfl (by show d - 1 + 1 ≤ d; omega) (by show 19 + 7 + 35 * (d - 1) ≤ 35 * (d); omega) (Nat.le_of_ble_eq_true rfl) (Nat.le_of_ble_eq_true rfl) (Nat.le_of_ble_eq_true rfl) ?_
          refine zG_istore X dX5_takesSkip_125 (by decide) rfl ?_
          refine zj_iconst X dX5_takesSkip_127 ?_
          refine zG_zret X dX5_takesSkip_128 rfl (by first | rfl | assumption) ?_
          first
            | (exfalso; omega)
            | exact zD.of (by rw [hR, show tsC J1 k dr to = _ from if_pos hp]) (by rw [hR, show tsC J1 k dr to = _ from if_pos hp]) rfl rfl
            | exact zD.of (by rw [hR, show tsC J1 k dr to = _ from (if_neg hp).trans (if_pos hm)]) (by rw [hR, show tsC J1 k dr to = _ from (if_neg hp).trans (if_pos hm)]) rfl rfl
      · exact absurd h_94 (by first | decide | omega)
    · rw [if_neg hp, show tkS J1 43 = J1 from if_neg hp]
      refine zG_istore X dX5_takesSkip_90 (by decide) rfl ?_
      refine zG_iload X dX5_takesSkip_92 rfl ?_
      refine zj_if_ne X dX5_takesSkip_94 (tgt := 108) (by decide) (by first | decide | omega) (fun h_94 => ?_) (fun h_94 => ?_)
      · exact absurd h_94 (by first | decide | omega)
      · refine zG_aload_n X dX5_takesSkip_97 rfl ?_
        refine zj_bipush X dX5_takesSkip_98 (by decide) ?_
        refine zj_callV1 (as2 := [_]) X (k_X5_takes lo (d - 1) (by omega) J1 G F hF hH.1 (u := 45) (by decide)) dX5_takesSkip_100 mv_X5_takes ml_X5_154 (by first | rfl | assumption) rfl (by first | decide | omega) rfl rfl (by show d - 1 + 1 ≤ d; omega) (by show 19 + 3 + 35 * (d - 1) ≤ 35 * (d); omega) (Nat.le_of_ble_eq_true rfl) (Nat.le_of_ble_eq_true rfl) (Nat.le_of_ble_eq_true rfl) ?_
        by_cases hm : atP J1 45 45
        · rw [if_pos hm, show tkS J1 45 = zup J1 50 8 (J1 50 8 + 1) from if_pos hm]
          refine zj_if_ne X dX5_takesSkip_103 (tgt := 108) (by decide) (by first | decide | omega) (fun h_103 => ?_) (fun h_103 => ?_)
          · refine zG_aload_n X dX5_takesSkip_108 rfl ?_
            refine zG_iload_n X dX5_takesSkip_109 rfl ?_
            refine zG_iload_n X dX5_takesSkip_110 rfl ?_
            refine zG_iload_n X dX5_takesSkip_111 rfl ?_
            refine zG_iload X dX5_takesSkip_112 rfl ?_
            refine zj_if_eq X dX5_takesSkip_114 (tgt := 121) (by decide) (by first | decide | omega) (fun h_114 => ?_) (fun h_114 => ?_)
            · refine zj_iconst X dX5_takesSkip_121 ?_
              refine zj_callV1 (as2 := [_, _, _, _]) X (k_X5_skips lo (d - 1) (by omega) (zup J1 50 8 (J1 50 8 + 1)) G F hF (k := k) hk (a := dr) (b := to) (c := _) (by rw [zup_ne (by omega)]; exact hH.2.2)) dX5_takesSkip_122 mv_X5_skips ml_X5_68 (by first | rfl | assumption) rfl (by first | decide | omega) rfl rfl (by show d - 1 + 1 ≤ d; omega) (by show 19 + 7 + 35 * (d - 1) ≤ 35 * (d); omega) (Nat.le_of_ble_eq_true rfl) (Nat.le_of_ble_eq_true rfl) (Nat.le_of_ble_eq_true rfl) ?_
              refine zG_istore X dX5_takesSkip_125 (by decide) rfl ?_
              refine zj_iconst X dX5_takesSkip_127 ?_
              refine zG_zret X dX5_takesSkip_128 rfl (by first | rfl | assumption) ?_
              first
                | (exfalso; omega)
                | exact zD.of (by rw [hR, show tsC J1 k dr to = _ from if_pos hp]) (by rw [hR, show tsC J1 k dr to = _ from if_pos hp]) rfl rfl
                | exact zD.of (by rw [hR, show tsC J1 k dr to = _ from (if_neg hp).trans (if_pos hm)]) (by rw [hR, show tsC J1 k dr to = _ from (if_neg hp).trans (if_pos hm)]) rfl rfl
            · exact absurd h_114 (by first | decide | omega)
          · exact absurd h_103 (by first | decide | omega)
        · rw [if_neg hm, show tkS J1 45 = J1 from if_neg hm]
          refine zj_if_ne X dX5_takesSkip_103 (tgt := 108) (by decide) (by first | decide | omega) (fun h_103 => ?_) (fun h_103 => ?_)
          · exact absurd h_103 (by first | decide | omega)
          · refine zj_iconst X dX5_takesSkip_106 ?_
            refine zG_zret X dX5_takesSkip_107 rfl (by first | rfl | assumption) ?_
            first
              | (exfalso; omega)
              | exact zD.of (by rw [hR, show tsC J1 k dr to = (J1, 0) from (if_neg hp).trans (if_neg hm)]) (by rw [hR, show tsC J1 k dr to = (J1, 0) from (if_neg hp).trans (if_neg hm)]) rfl rfl
  have stB : ∀ (J1 : Nat → Nat → Int) (dr : Int) (d0 : 0 ≤ dr) (d1 : dr < k), tsH J1 k → tsR J k = tsB J1 k dr → zG p l e { frames := d, cells := 0, slots := 0, locals := 35 * d } s m args below meth c D cA lo 6 0 0 (MQ below (zQ D cA lo 57 (zD [.int (zI (tsR J k).2)] (tsR J k).1 G F)) args s 0 0 (fun q => lo ≤ q)) 57 (zM (J1)) G F [some (.ref (lo + 50)), some (.int (zI (k : Int))), some (.int (zI dr)), none, none, none] [] 61 := by
    intro J1 dr d0 d1 hH hR
    have hte := hH.2.1 dr.toNat (by omega)
    refine zG_aload_n X dX5_takesSkip_61 rfl ?_
    refine zj_iconst X dX5_takesSkip_62 ?_
    refine zG_aload_n X dX5_takesSkip_63 rfl ?_
    refine zG_iload_n X dX5_takesSkip_64 rfl ?_
    refine zj_iconst X dX5_takesSkip_65 ?_
    refine zj_callV1 (as2 := [_, _]) X (k_X5_ofv lo (d - 1) (by omega) J1 G F hF (u := dr) (v := 0) (x := (J1 51 (13 + 7 * dr.toNat + 0))) dr.toNat 0 (by omega) (by omega) (by omega) rfl rfl) dX5_takesSkip_66 mv_X5_of ml_X5_45 (by first | rfl | assumption) rfl (by first | decide | omega) rfl rfl (by show d - 1 + 1 ≤ d; omega) (by show 19 + 3 + 35 * (d - 1) ≤ 35 * (d); omega) (Nat.le_of_ble_eq_true rfl) (Nat.le_of_ble_eq_true rfl) (Nat.le_of_ble_eq_true rfl) ?_
    refine zj_iconst X dX5_takesSkip_69 ?_
    refine zj_isub X dX5_takesSkip_70 ?_
    refine zj_callV1 (as2 := [_, _]) X (k_X5_takesNumber lo (d - 1) (by omega) J1 G F hF hH.1 (a := 0) (b := (J1 51 (13 + 7 * dr.toNat + 0)) - 1) (by decide) (by unfold zr; omega)) dX5_takesSkip_71 mv_X5_takesNumber ml_X5_157 (by first | rfl | assumption) rfl (by first | decide | omega) rfl rfl (by show d - 1 + 1 ≤ d; omega) (by show 19 + 6 + 35 * (d - 1) ≤ 35 * (d); omega) (Nat.le_of_ble_eq_true rfl) (Nat.le_of_ble_eq_true rfl) (Nat.le_of_ble_eq_true rfl) ?_
    by_cases ho : tnA J1 0 ((J1 51 (13 + 7 * dr.toNat + 0)) - 1) (tnK J1) = 1
    · rw [ho]
      refine zj_if_ne X dX5_takesSkip_74 (tgt := 79) (by decide) (by first | decide | omega) (fun h_74 => ?_) (fun h_74 => ?_)
      · refine zG_aload_n X dX5_takesSkip_79 rfl ?_
        refine zj_get X dX5_takesSkip_80 fl_X5_151 (by first | rfl | assumption) (by first | decide | omega) (by decide) rfl ?_
        refine zG_istore_n X dX5_takesSkip_83 (by decide) rfl ?_
        exact stC _ dr _ (tsH_tn hH) (by rw [hR, show tsB J1 k dr = tsC (tnW J1 0 ((J1 51 (13 + 7 * dr.toNat + 0)) - 1) (tnK J1)) k dr ((tnW J1 0 ((J1 51 (13 + 7 * dr.toNat + 0)) - 1) (tnK J1)) 50 9) from if_pos ho])
      · exact absurd h_74 (by first | decide | omega)
    · rw [show tnA J1 0 ((J1 51 (13 + 7 * dr.toNat + 0)) - 1) (tnK J1) = 0 from by have := tnA_01 (J := J1) (a := 0) (b := (J1 51 (13 + 7 * dr.toNat + 0)) - 1) (c := tnK J1); omega]
      refine zj_if_ne X dX5_takesSkip_74 (tgt := 79) (by decide) (by first | decide | omega) (fun h_74 => ?_) (fun h_74 => ?_)
      · exact absurd h_74 (by first | decide | omega)
      · refine zj_iconst X dX5_takesSkip_77 ?_
        refine zG_zret X dX5_takesSkip_78 rfl (by first | rfl | assumption) ?_
        first
          | (exfalso; omega)
          | exact zD.of (by rw [hR, show tsB J1 k dr = ((tnW J1 0 ((J1 51 (13 + 7 * dr.toNat + 0)) - 1) (tnK J1)), 0) from if_neg ho]) (by rw [hR, show tsB J1 k dr = ((tnW J1 0 ((J1 51 (13 + 7 * dr.toNat + 0)) - 1) (tnK J1)), 0) from if_neg ho]) rfl rfl
  have stA : ∀ (J1 : Nat → Nat → Int) (dr : Int) (d0 : 0 ≤ dr) (d1 : dr < k), tsH J1 k → tsR J k = tsA J1 k dr → zG p l e { frames := d, cells := 0, slots := 0, locals := 35 * d } s m args below meth c D cA lo 6 0 0 (MQ below (zQ D cA lo 57 (zD [.int (zI (tsR J k).2)] (tsR J k).1 G F)) args s 0 0 (fun q => lo ≤ q)) 57 (zM (J1)) G F [some (.ref (lo + 50)), some (.int (zI (k : Int))), some (.int (zI dr)), none, none, none] [] 52 := by
    intro J1 dr d0 d1 hH hR
    refine zG_aload_n X dX5_takesSkip_52 rfl ?_
    refine zj_bipush X dX5_takesSkip_53 (by decide) ?_
    refine zj_callV1 (as2 := [_]) X (k_X5_takes lo (d - 1) (by omega) J1 G F hF hH.1 (u := 44) (by decide)) dX5_takesSkip_55 mv_X5_takes ml_X5_154 (by first | rfl | assumption) rfl (by first | decide | omega) rfl rfl (by show d - 1 + 1 ≤ d; omega) (by show 19 + 3 + 35 * (d - 1) ≤ 35 * (d); omega) (Nat.le_of_ble_eq_true rfl) (Nat.le_of_ble_eq_true rfl) (Nat.le_of_ble_eq_true rfl) ?_
    by_cases hp : atP J1 44 44
    · rw [if_pos hp, show tkS J1 44 = zup J1 50 8 (J1 50 8 + 1) from if_pos hp]
      refine zj_if_eq X dX5_takesSkip_58 (tgt := 77) (by decide) (by first | decide | omega) (fun h_58 => ?_) (fun h_58 => ?_)
      · exact absurd h_58 (by first | decide | omega)
      · exact stB _ dr d0 d1 (tsH_8 hH hp.1) (by rw [hR, show tsA J1 k dr = tsB (zup J1 50 8 (J1 50 8 + 1)) k dr from if_pos hp])
    · rw [if_neg hp, show tkS J1 44 = J1 from if_neg hp]
      refine zj_if_eq X dX5_takesSkip_58 (tgt := 77) (by decide) (by first | decide | omega) (fun h_58 => ?_) (fun h_58 => ?_)
      · refine zj_iconst X dX5_takesSkip_77 ?_
        refine zG_zret X dX5_takesSkip_78 rfl (by first | rfl | assumption) ?_
        first
          | (exfalso; omega)
          | exact zD.of (by rw [hR, show tsA J1 k dr = (J1, 0) from if_neg hp]) (by rw [hR, show tsA J1 k dr = (J1, 0) from if_neg hp]) rfl rfl
      · exact absurd h_58 (by first | decide | omega)
  refine zG_aload_n X dX5_takesSkip_0 rfl ?_
  refine zj_bipush X dX5_takesSkip_1 (by decide) ?_
  refine zj_bipush X dX5_takesSkip_3 (by decide) ?_
  refine zj_callV1 (as2 := [_, _]) X (k_X5_isAt lo (d - 1) (by omega) J G F hF (sv := J 50 8) (n := J 50 6) (t := J 54 (J 50 8).toNat) (a := 48) (b := 52) s0 (by omega) s2 rfl rfl (fun _ => rfl) (fun _ => (hT _).1) (fun _ => (hT _).2) (by decide) (by decide) (by omega)) dX5_takesSkip_5 mv_X5_isAt ml_X5_148 (by first | rfl | assumption) rfl (by first | decide | omega) rfl rfl (by show d - 1 + 1 ≤ d; omega) (by show 19 + 3 + 35 * (d - 1) ≤ 35 * (d); omega) (Nat.le_of_ble_eq_true rfl) (Nat.le_of_ble_eq_true rfl) (Nat.le_of_ble_eq_true rfl) ?_
  by_cases hp : atP J 48 52
  · rw [if_pos hp]
    obtain ⟨p1, p2, p3⟩ := hp
    refine zj_if_eq X dX5_takesSkip_8 (tgt := 27) (by decide) (by first | decide | omega) (fun h_8 => ?_) (fun h_8 => ?_)
    · exact absurd h_8 (by first | decide | omega)
    · refine zG_aload_n X dX5_takesSkip_11 rfl ?_
      refine zG_getR X dX5_takesSkip_12 fl_X5_19 (by first | rfl | assumption) (by first | decide | omega) (by decide) rfl (by first | exact zF_at hF rfl rfl | assumption) ?_
      refine zG_aload_n X dX5_takesSkip_15 rfl ?_
      refine zj_get X dX5_takesSkip_16 fl_X5_145 (by first | rfl | assumption) (by first | decide | omega) (by decide) rfl ?_
      refine zj_iaload X dX5_takesSkip_19 (by first | rfl | assumption) (by first | decide | omega) ((J 50 8).toNat) (by omega) (by omega) ?_
      refine zj_bipush X dX5_takesSkip_20 (by decide) ?_
      refine zj_isub X dX5_takesSkip_22 ?_
      refine zG_iload_n X dX5_takesSkip_23 rfl ?_
      refine zj_icmp_lt X dX5_takesSkip_24 (tgt := 29) (by decide) (by first | decide | omega) (by first | decide | omega) (fun h_24 => ?_) (fun h_24 => ?_)
      · refine zG_aload_n X dX5_takesSkip_29 rfl ?_
        refine zG_getR X dX5_takesSkip_30 fl_X5_19 (by first | rfl | assumption) (by first | decide | omega) (by decide) rfl (by first | exact zF_at hF rfl rfl | assumption) ?_
        refine zG_aload_n X dX5_takesSkip_33 rfl ?_
        refine zj_get X dX5_takesSkip_34 fl_X5_145 (by first | rfl | assumption) (by first | decide | omega) (by decide) rfl ?_
        refine zj_iaload X dX5_takesSkip_37 (by first | rfl | assumption) (by first | decide | omega) ((J 50 8).toNat) (by omega) (by omega) ?_
        refine zj_bipush X dX5_takesSkip_38 (by decide) ?_
        refine zj_isub X dX5_takesSkip_40 ?_
        refine zG_istore_n X dX5_takesSkip_41 (by decide) rfl ?_
        refine zG_aload_n X dX5_takesSkip_42 rfl ?_
        refine zG_dup X dX5_takesSkip_43 rfl ?_
        refine zj_get X dX5_takesSkip_44 fl_X5_145 (by first | rfl | assumption) (by first | decide | omega) (by decide) rfl ?_
        refine zj_iconst X dX5_takesSkip_47 ?_
        refine zj_iadd X dX5_takesSkip_48 ?_
        refine zj_put X dX5_takesSkip_49 fl_X5_145 (by first | rfl | assumption) (by first | decide | omega) (by decide) rfl rfl ?_
        exact stA _ _ (by omega) (by omega) (tsH_8 hH p1) (if_pos ⟨⟨p1, p2, p3⟩, by omega⟩)
      · refine zj_iconst X dX5_takesSkip_27 ?_
        refine zG_zret X dX5_takesSkip_28 rfl (by first | rfl | assumption) ?_
        first
          | exact zD.of (by rw [show tsR J k = (J, 0) from if_neg (fun z => hp z.1)]) (by rw [show tsR J k = (J, 0) from if_neg (fun z => hp z.1)]) rfl rfl
          | exact zD.of (by rw [show tsR J k = (J, 0) from if_neg (fun z => by have := z.2; omega)]) (by rw [show tsR J k = (J, 0) from if_neg (fun z => by have := z.2; omega)]) rfl rfl
  · rw [if_neg hp]
    refine zj_if_eq X dX5_takesSkip_8 (tgt := 27) (by decide) (by first | decide | omega) (fun h_8 => ?_) (fun h_8 => ?_)
    · refine zj_iconst X dX5_takesSkip_27 ?_
      refine zG_zret X dX5_takesSkip_28 rfl (by first | rfl | assumption) ?_
      first
        | exact zD.of (by rw [show tsR J k = (J, 0) from if_neg (fun z => hp z.1)]) (by rw [show tsR J k = (J, 0) from if_neg (fun z => hp z.1)]) rfl rfl
        | exact zD.of (by rw [show tsR J k = (J, 0) from if_neg (fun z => by have := z.2; omega)]) (by rw [show tsR J k = (J, 0) from if_neg (fun z => by have := z.2; omega)]) rfl rfl
    · exact absurd h_8 (by first | decide | omega)
