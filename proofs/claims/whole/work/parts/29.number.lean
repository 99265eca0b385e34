/-! a number of one or two digits -/
def atJ (J : Nat → Nat → Int) (k : Nat) : Nat → Nat → Int := zup J 41 4 (J 41 4 + (k : Int))
theorem atJ_4 {J : Nat → Nat → Int} {k : Nat} : atJ J k 41 4 = J 41 4 + (k : Int) := by simp [atJ, zup]
theorem atJ_o {J : Nat → Nat → Int} {k x i : Nat} (h : x ≠ 41 ∨ i ≠ 4) : atJ J k x i = J x i := by
  unfold atJ
  exact zup_ne (by omega)
theorem atJ_s {J : Nat → Nat → Int} {k : Nat} : zup (atJ J k) 41 4 (J 41 4 + (k : Int) + 1) = atJ J (k + 1) := by
  funext x i
  unfold atJ zup
  by_cases h : x = 41 ∧ i = 4
  · rw [if_pos h, if_pos h]
    omega
  · rw [if_neg h, if_neg h, if_neg h]
theorem atJ_0 {J : Nat → Nat → Int} : atJ J 0 = J := by
  funext x i
  unfold atJ zup
  by_cases h : x = 41 ∧ i = 4
  · rw [if_pos h, h.1, h.2]
    simp
  · rw [if_neg h]
theorem rdOk_at {J : Nat → Nat → Int} {F : Nat → Nat → Option Nat} {k : Nat} (h : rdOk J F) (hk : J 41 4 + (k : Int) ≤ 90) : rdOk (atJ J k) F := by
  obtain ⟨ht, htx, ha1, ha2, hl1, hl2, he1, he2⟩ := h
  refine ⟨ht, fun i => ?_, ?_, ?_, ?_, ?_, ?_, ?_⟩
  · rw [atJ_o (Or.inl (by decide))]; exact htx i
  · rw [atJ_4]; omega
  · rw [atJ_4]; exact hk
  · rw [atJ_o (Or.inr (by decide))]; exact hl1
  · rw [atJ_o (Or.inr (by decide))]; exact hl2
  · rw [atJ_o (Or.inr (by decide))]; exact he1
  · rw [atJ_o (Or.inr (by decide))]; exact he2
def nuG (J : Nat → Nat → Int) : Nat → Nat → Nat
  | 0, k => k
  | f + 1, k => if isDg (atJ J k) then nuG J f (k + 1) else k
theorem nuG_s {J : Nat → Nat → Int} {f k : Nat} : nuG J (f + 1) k = if isDg (atJ J k) then nuG J f (k + 1) else k := rfl
def nuV (J : Nat → Nat → Int) : Nat → Int
  | 0 => 0
  | k + 1 => 10 * nuV J k + dgV (atJ J k)
theorem nuV_s {J : Nat → Nat → Int} {k : Nat} : nuV J (k + 1) = 10 * nuV J k + dgV (atJ J k) := rfl
def nuJc (J : Nat → Nat → Int) (a b : Int) (c : Nat) : Nat → Nat → Int := if c = 0 ∨ isDg (atJ J c) then rdF (atJ J c) (J 41 4 + (c : Int)) else if nuV J c < a ∨ b < nuV J c then rdF (atJ J c) (J 41 4) else atJ J c
def nuJ (J : Nat → Nat → Int) (a b : Int) : Nat → Nat → Int := nuJc J a b (nuG J 2 0)
def nuR (J : Nat → Nat → Int) : Int := nuV J (nuG J 2 0)
set_option maxHeartbeats 4000000 in
set_option maxRecDepth 100000 in
theorem k_X1_readNumber (lo d : Nat) (hd : 1 ≤ d) (J : Nat → Nat → Int) (G : Nat → Nat → Int64) (F : Nat → Nat → Option Nat) (hF : zFk F) (hr : rdOk J F) {u v : Int} (hu : zr u) (hv : zr v) : zCt lo yX1_readNumber cX1_readNumber 6 (some .int) d 0 0 [.ref (lo + 41), .int (zI u), .int (zI v)] 57 57 (zM J) G F (zD [.int (zI (nuR J))] (nuJ J u v) G F) := by
  refine zCt.mk (by decide) (mv_X1_readNumber.2.2.2.1) (Nat.le_of_ble_eq_true rfl) ?_
  intro p l e s m args below meth c D cA X
  have hr0 := hr
  obtain ⟨ht, htx, ha1, ha2, hl1, hl2, he1, he2⟩ := hr
  have htx1 := htx (J 41 4).toNat
  unfold zr at hu hv
  have tail : ∀ (c9 : Nat), c9 ≤ 2 → rdOk (atJ J c9) F → nuG J 2 0 = c9 → (0 ≤ nuV J c9 ∧ nuV J c9 ≤ 99) → zG p l e { frames := d, cells := 0, slots := 0, locals := 35 * d } s m args below meth c D cA lo 6 0 0 (MQ below (zQ D cA lo 57 (zD [.int (zI (nuR J))] (nuJ J u v) G F)) args s 0 0 (fun q => lo ≤ q)) 57 (zM (atJ J c9)) G F [some (.ref (lo + 41)), some (.int (zI u)), some (.int (zI v)), some (.int (zI (J 41 4))), some (.int (zI (nuV J c9))), some (.int (zI (c9 : Int)))] [] 52 := by
    intro c9 hc2 hrk hc hv
    refine zG_aload_n X dX1_readNumber_52 rfl ?_
    refine zj_getv (v := J 41 4 + (c9 : Int)) X dX1_readNumber_53 fl_X1_33 (by first | rfl | assumption) (by first | decide | omega) (by decide) rfl (by exact atJ_4) ?_
    refine zG_iload_n X dX1_readNumber_56 rfl ?_
    refine zj_icmp_eq X dX1_readNumber_57 (tgt := 67) (by decide) (by first | decide | omega) (by first | decide | omega) (fun h_57 => ?_) (fun h_57 => ?_)
    · refine zG_aload_n X dX1_readNumber_67 rfl ?_
      refine zG_aload_n X dX1_readNumber_68 rfl ?_
      refine zj_getv (v := J 41 4 + (c9 : Int)) X dX1_readNumber_69 fl_X1_33 (by first | rfl | assumption) (by first | decide | omega) (by decide) rfl (by exact atJ_4) ?_
      refine zj_callV0 (as2 := [_]) X (k_X1_fail lo (d - 1) (atJ J c9) G F (by rw [atJ_o (Or.inr (by decide))]; unfold zr; omega)) dX1_readNumber_72 mv_X1_fail ml_X1_46 (by first | rfl | assumption) rfl (by first | decide | omega) rfl rfl (by show d - 1 + 1 ≤ d; omega) (by show 19 + 2 + 35 * (d - 1) ≤ 35 * (d); omega) (Nat.le_of_ble_eq_true rfl) (Nat.le_of_ble_eq_true rfl) (Nat.le_of_ble_eq_true rfl) ?_
      refine zG_goto X dX1_readNumber_75 (tgt := 95) (by decide) ?_
      refine zG_iload X dX1_readNumber_95 rfl ?_
      refine zG_iret X dX1_readNumber_97 rfl ?_
      have hR : nuR J = nuV J c9 := by unfold nuR; rw [hc]
      have hJ : nuJ J u v = nuJc J u v c9 := by unfold nuJ; rw [hc]
      unfold nuJc at hJ
      first
        | exact zD.of (by rw [hR]) (by rw [hJ, if_pos (Or.inl (by omega))]) rfl rfl
        | exact zD.of (by rw [hR]) (by rw [hJ, if_pos (Or.inr hb)]) rfl rfl
        | exact zD.of (by rw [hR]) (by rw [hJ, if_neg (fun z => z.elim (fun y => by omega) hb), if_pos (by omega)]) rfl rfl
        | exact zD.of (by rw [hR]) (by rw [hJ, if_neg (fun z => z.elim (fun y => by omega) hb), if_neg (by omega)]) rfl rfl
    · refine zG_aload_n X dX1_readNumber_60 rfl ?_
      refine zj_callV1 (as2 := []) X (k_X1_isDigitNext lo (d - 1) (atJ J c9) G F hF hrk) dX1_readNumber_61 mv_X1_isDigitNext ml_X1_81 (by first | rfl | assumption) rfl (by first | decide | omega) rfl rfl (by show d - 1 + 1 ≤ d; omega) (by show 19 + 1 + 35 * (d - 1) ≤ 35 * (d); omega) (Nat.le_of_ble_eq_true rfl) (Nat.le_of_ble_eq_true rfl) (Nat.le_of_ble_eq_true rfl) ?_
      by_cases hb : isDg (atJ J c9)
      · rw [if_pos hb]
        refine zj_if_eq X dX1_readNumber_64 (tgt := 78) (by decide) (by first | decide | omega) (fun h_64 => ?_) (fun h_64 => ?_)
        · exact absurd h_64 (by first | decide | omega)
        · refine zG_aload_n X dX1_readNumber_67 rfl ?_
          refine zG_aload_n X dX1_readNumber_68 rfl ?_
          refine zj_getv (v := J 41 4 + (c9 : Int)) X dX1_readNumber_69 fl_X1_33 (by first | rfl | assumption) (by first | decide | omega) (by decide) rfl (by exact atJ_4) ?_
          refine zj_callV0 (as2 := [_]) X (k_X1_fail lo (d - 1) (atJ J c9) G F (by rw [atJ_o (Or.inr (by decide))]; unfold zr; omega)) dX1_readNumber_72 mv_X1_fail ml_X1_46 (by first | rfl | assumption) rfl (by first | decide | omega) rfl rfl (by show d - 1 + 1 ≤ d; omega) (by show 19 + 2 + 35 * (d - 1) ≤ 35 * (d); omega) (Nat.le_of_ble_eq_true rfl) (Nat.le_of_ble_eq_true rfl) (Nat.le_of_ble_eq_true rfl) ?_
          refine zG_goto X dX1_readNumber_75 (tgt := 95) (by decide) ?_
          refine zG_iload X dX1_readNumber_95 rfl ?_
          refine zG_iret X dX1_readNumber_97 rfl ?_
          have hR : nuR J = nuV J c9 := by unfold nuR; rw [hc]
          have hJ : nuJ J u v = nuJc J u v c9 := by unfold nuJ; rw [hc]
          unfold nuJc at hJ
          first
            | exact zD.of (by rw [hR]) (by rw [hJ, if_pos (Or.inl (by omega))]) rfl rfl
            | exact zD.of (by rw [hR]) (by rw [hJ, if_pos (Or.inr hb)]) rfl rfl
            | exact zD.of (by rw [hR]) (by rw [hJ, if_neg (fun z => z.elim (fun y => by omega) hb), if_pos (by omega)]) rfl rfl
            | exact zD.of (by rw [hR]) (by rw [hJ, if_neg (fun z => z.elim (fun y => by omega) hb), if_neg (by omega)]) rfl rfl
      · rw [if_neg hb]
        refine zj_if_eq X dX1_readNumber_64 (tgt := 78) (by decide) (by first | decide | omega) (fun h_64 => ?_) (fun h_64 => ?_)
        · refine zG_iload X dX1_readNumber_78 rfl ?_
          refine zG_iload_n X dX1_readNumber_80 rfl ?_
          refine zj_icmp_lt X dX1_readNumber_81 (tgt := 90) (by decide) (by first | decide | omega) (by first | decide | omega) (fun h_81 => ?_) (fun h_81 => ?_)
          · refine zG_aload_n X dX1_readNumber_90 rfl ?_
            refine zG_iload_n X dX1_readNumber_91 rfl ?_
            refine zj_callV0 (as2 := [_]) X (k_X1_fail lo (d - 1) (atJ J c9) G F (by rw [atJ_o (Or.inr (by decide))]; unfold zr; omega)) dX1_readNumber_92 mv_X1_fail ml_X1_46 (by first | rfl | assumption) rfl (by first | decide | omega) rfl rfl (by show d - 1 + 1 ≤ d; omega) (by show 19 + 2 + 35 * (d - 1) ≤ 35 * (d); omega) (Nat.le_of_ble_eq_true rfl) (Nat.le_of_ble_eq_true rfl) (Nat.le_of_ble_eq_true rfl) ?_
            refine zG_iload X dX1_readNumber_95 rfl ?_
            refine zG_iret X dX1_readNumber_97 rfl ?_
            have hR : nuR J = nuV J c9 := by unfold nuR; rw [hc]
            have hJ : nuJ J u v = nuJc J u v c9 := by unfold nuJ; rw [hc]
            unfold nuJc at hJ
            first
              | exact zD.of (by rw [hR]) (by rw [hJ, if_pos (Or.inl (by omega))]) rfl rfl
              | exact zD.of (by rw [hR]) (by rw [hJ, if_pos (Or.inr hb)]) rfl rfl
              | exact zD.of (by rw [hR]) (by rw [hJ, if_neg (fun z => z.elim (fun y => by omega) hb), if_pos (by omega)]) rfl rfl
              | exact zD.of (by rw [hR]) (by rw [hJ, if_neg (fun z => z.elim (fun y => by omega) hb), if_neg (by omega)]) rfl rfl
          · refine zG_iload X dX1_readNumber_84 rfl ?_
            refine zG_iload_n X dX1_readNumber_86 rfl ?_
            refine zj_icmp_le X dX1_readNumber_87 (tgt := 95) (by decide) (by first | decide | omega) (by first | decide | omega) (fun h_87 => ?_) (fun h_87 => ?_)
            · refine zG_iload X dX1_readNumber_95 rfl ?_
              refine zG_iret X dX1_readNumber_97 rfl ?_
              have hR : nuR J = nuV J c9 := by unfold nuR; rw [hc]
              have hJ : nuJ J u v = nuJc J u v c9 := by unfold nuJ; rw [hc]
              unfold nuJc at hJ
              first
                | exact zD.of (by rw [hR]) (by rw [hJ, if_pos (Or.inl (by omega))]) rfl rfl
                | exact zD.of (by rw [hR]) (by rw [hJ, if_pos (Or.inr hb)]) rfl rfl
                | exact zD.of (by rw [hR]) (by rw [hJ, if_neg (fun z => z.elim (fun y => by omega) hb), if_pos (by omega)]) rfl rfl
                | exact zD.of (by rw [hR]) (by rw [hJ, if_neg (fun z => z.elim (fun y => by omega) hb), if_neg (by omega)]) rfl rfl
            · refine zG_aload_n X dX1_readNumber_90 rfl ?_
              refine zG_iload_n X dX1_readNumber_91 rfl ?_
              refine zj_callV0 (as2 := [_]) X (k_X1_fail lo (d - 1) (atJ J c9) G F (by rw [atJ_o (Or.inr (by decide))]; unfold zr; omega)) dX1_readNumber_92 mv_X1_fail ml_X1_46 (by first | rfl | assumption) rfl (by first | decide | omega) rfl rfl (by show d - 1 + 1 ≤ d; omega) (by show 19 + 2 + 35 * (d - 1) ≤ 35 * (d); omega) (Nat.le_of_ble_eq_true rfl) (Nat.le_of_ble_eq_true rfl) (Nat.le_of_ble_eq_true rfl) ?_
              refine zG_iload X dX1_readNumber_95 rfl ?_
              refine zG_iret X dX1_readNumber_97 rfl ?_
              have hR : nuR J = nuV J c9 := by unfold nuR; rw [hc]
              have hJ : nuJ J u v = nuJc J u v c9 := by unfold nuJ; rw [hc]
              unfold nuJc at hJ
              first
                | exact zD.of (by rw [hR]) (by rw [hJ, if_pos (Or.inl (by omega))]) rfl rfl
                | exact zD.of (by rw [hR]) (by rw [hJ, if_pos (Or.inr hb)]) rfl rfl
                | exact zD.of (by rw [hR]) (by rw [hJ, if_neg (fun z => z.elim (fun y => by omega) hb), if_pos (by omega)]) rfl rfl
                | exact zD.of (by rw [hR]) (by rw [hJ, if_neg (fun z => z.elim (fun y => by omega) hb), if_neg (by omega)]) rfl rfl
        · exact absurd h_64 (by first | decide | omega)
  have loop : ∀ (q k : Nat) (hall : nuG J 2 0 = nuG J q k) (hrk : rdOk (atJ J k) F) (hbn : (k = 0 → nuV J k ≤ 0) ∧ (k = 1 → nuV J k ≤ 9) ∧ (k = 2 → nuV J k ≤ 99) ∧ 0 ≤ nuV J k), k + q = 2 → zG p l e { frames := d, cells := 0, slots := 0, locals := 35 * d } s m args below meth c D cA lo 6 0 0 (MQ below (zQ D cA lo 57 (zD [.int (zI (nuR J))] (nuJ J u v) G F)) args s 0 0 (fun q => lo ≤ q)) 57 (zM (atJ J k)) G F [some (.ref (lo + 41)), some (.int (zI u)), some (.int (zI v)), some (.int (zI (J 41 4))), some (.int (zI (nuV J k))), some (.int (zI (k : Int)))] [] 11 := by
    intro q
    induction q with
    | zero =>
      intro k hall hrk hbn hk
      have hall : nuG J 2 0 = k := hall
      refine zG_iload X dX1_readNumber_11 rfl ?_
      refine zj_iconst X dX1_readNumber_13 ?_
      refine zj_icmp_ge X dX1_readNumber_14 (tgt := 52) (by decide) (by first | decide | omega) (by first | decide | omega) (fun h_14 => ?_) (fun h_14 => ?_)
      · obtain rfl : k = 2 := by omega
        exact tail 2 (by decide) hrk hall (by omega)
      · exact absurd h_14 (by first | decide | omega)
    | succ q ih =>
      intro k hall hrk hbn hk
      have hk4 := hrk.2.2.2.1
      rw [atJ_4] at hk4
      rw [nuG_s (f := q) (k := k)] at hall
      refine zG_iload X dX1_readNumber_11 rfl ?_
      refine zj_iconst X dX1_readNumber_13 ?_
      refine zj_icmp_ge X dX1_readNumber_14 (tgt := 52) (by decide) (by first | decide | omega) (by first | decide | omega) (fun h_14 => ?_) (fun h_14 => ?_)
      · exact absurd h_14 (by first | decide | omega)
      · refine zG_aload_n X dX1_readNumber_17 rfl ?_
        refine zj_callV1 (as2 := []) X (k_X1_isDigitNext lo (d - 1) (atJ J k) G F hF hrk) dX1_readNumber_18 mv_X1_isDigitNext ml_X1_81 (by first | rfl | assumption) rfl (by first | decide | omega) rfl rfl (by show d - 1 + 1 ≤ d; omega) (by show 19 + 1 + 35 * (d - 1) ≤ 35 * (d); omega) (Nat.le_of_ble_eq_true rfl) (Nat.le_of_ble_eq_true rfl) (Nat.le_of_ble_eq_true rfl) ?_
        by_cases hb : isDg (atJ J k)
        · rw [if_pos hb]
          have hlt : atJ J k 41 4 < atJ J k 41 3 := hb.1
          rw [atJ_4, atJ_o (Or.inr (by decide))] at hlt
          have hdv : dgV (atJ J k) = atJ J k 49 (atJ J k 41 4).toNat - 48 := if_pos hb.1
          have hdr := hb.2
          have hns := nuV_s (J := J) (k := k)
          refine zj_if_eq X dX1_readNumber_21 (tgt := 52) (by decide) (by first | decide | omega) (fun h_21 => ?_) (fun h_21 => ?_)
          · exact absurd h_21 (by first | decide | omega)
          · refine zj_bipush X dX1_readNumber_24 (by decide) ?_
            refine zG_iload X dX1_readNumber_26 rfl ?_
            refine zj_imul X dX1_readNumber_28 ?_
            refine zG_aload_n X dX1_readNumber_29 rfl ?_
            refine zj_callV1 (as2 := []) X (k_X1_digitNext lo (d - 1) (atJ J k) G F hF hrk) dX1_readNumber_30 mv_X1_digitNext ml_X1_85 (by first | rfl | assumption) rfl (by first | decide | omega) rfl rfl (by show d - 1 + 1 ≤ d; omega) (by show 19 + 1 + 35 * (d - 1) ≤ 35 * (d); omega) (Nat.le_of_ble_eq_true rfl) (Nat.le_of_ble_eq_true rfl) (Nat.le_of_ble_eq_true rfl) ?_
            refine zj_iadd X dX1_readNumber_33 ?_
            refine zG_istore X dX1_readNumber_34 (by decide) rfl ?_
            refine zG_aload_n X dX1_readNumber_36 rfl ?_
            refine zG_dup X dX1_readNumber_37 rfl ?_
            refine zj_getv (v := J 41 4 + (k : Int)) X dX1_readNumber_38 fl_X1_33 (by first | rfl | assumption) (by first | decide | omega) (by decide) rfl (by exact atJ_4) ?_
            refine zj_iconst X dX1_readNumber_41 ?_
            refine zj_iadd X dX1_readNumber_42 ?_
            refine zj_put X dX1_readNumber_43 fl_X1_33 (by first | rfl | assumption) (by first | decide | omega) (by decide) rfl rfl ?_
            refine zj_iinc X dX1_readNumber_46 rfl (by decide) rfl ?_
            refine zG_goto X dX1_readNumber_49 (tgt := 11) (by decide) ?_
            rw [if_pos hb] at hall
            rw [atJ_s]
            have hi := ih (k + 1) hall (rdOk_at hr0 (by push_cast; omega)) (by omega) (by omega)
            rw [nuV_s] at hi
            exact hi
        · rw [if_neg hb]
          refine zj_if_eq X dX1_readNumber_21 (tgt := 52) (by decide) (by first | decide | omega) (fun h_21 => ?_) (fun h_21 => ?_)
          · rw [if_neg hb] at hall
            exact tail k (by omega) hrk hall (by omega)
          · exact absurd h_21 (by first | decide | omega)
  refine zG_aload_n X dX1_readNumber_0 rfl ?_
  refine zj_get X dX1_readNumber_1 fl_X1_33 (by first | rfl | assumption) (by first | decide | omega) (by decide) rfl ?_
  refine zG_istore_n X dX1_readNumber_4 (by decide) rfl ?_
  refine zj_iconst X dX1_readNumber_5 ?_
  refine zG_istore X dX1_readNumber_6 (by decide) rfl ?_
  refine zj_iconst X dX1_readNumber_8 ?_
  refine zG_istore X dX1_readNumber_9 (by decide) rfl ?_
  have h0 := loop 2 0 rfl (by rw [atJ_0]; exact hr0) ⟨fun _ => Int.le_refl _, fun z => absurd z (by decide), fun z => absurd z (by decide), Int.le_refl _⟩ (by omega)
  rw [atJ_0] at h0
  exact h0
