/-! the law's methods: meets, isDry, isPassed -/
def meP (x : Hou) (u : Int) (k : Nat) : Prop := ∀ j, j < k → (u / 2 ^ j % 2 = 0 ∨ x.2.1 j 1 = x.2.1 j 2)
set_option maxHeartbeats 4000000 in
set_option maxRecDepth 100000 in
theorem N_meets (lo d : Nat) (hd : 8 ≤ d) {x : Hou} {R : List Hou} (ok : okH x) {u : Int} (h1 : 0 ≤ u) (h2 : u < 32) : zLN true lo yL_meets cL_meets 4 (some .boolean) d 30 180 [.ref (lo + 0), .int (zI u)] x R (fun a h2 R2 => ∃ i : Int, a = .int (zI i) ∧ (i = 1 ∧ meP x u (x.1 0).toNat ∨ i = 0 ∧ ¬ meP x u (x.1 0).toNat) ∧ h2 = x ∧ R2 = R) := by
  refine zLN.mk (by decide) wn_meets.2.1 (Nat.le_of_ble_eq_true rfl) ?_
  intro p l e s m args below meth c D cA J0 F0 X Y N
  have hh := okH_h ok
  have hl : ∀ (q k : Nat) (i : Int), k + q = (x.1 0).toNat → (i = 1 ∧ meP x u k ∨ i = 0 ∧ ¬ meP x u k) → zL p l e { frames := d, cells := 30, slots := 180, locals := 35 * d } s m args below meth c D cA lo 4 (1 + 3 * k) (6 + 18 * k) (vx_MQ below (zQ D cA lo 57 (zLP true J0 F0 (fun a h2 R2 => ∃ i : Int, a = .int (zI i) ∧ (i = 1 ∧ meP x u (x.1 0).toNat ∨ i = 0 ∧ ¬ meP x u (x.1 0).toNat) ∧ h2 = x ∧ R2 = R))) (fun _ _ _ => False) args s 30 180 (fun q => lo ≤ q)) x R (fun J F => zK J F J0 F0) [some (.ref (lo + 0)), some (.int (zI u)), some (.int (zI i)), some (.int (zI (k : Int)))] [] 4 := by
    intro q
    induction q with
    | zero =>
      intro k i hk hi
      have hr : zr i := by unfold zr; omega
      refine zl_iload_n X dL_meets_4 rfl ?_
      refine zl_aload_n X dL_meets_5 rfl ?_
      refine zl_iconst X dL_meets_6 ?_
      refine zl_callHq (as2 := [_, _]) rfl X Y N zZs_K (L_valueC lo (d - 1) (by omega) ok (u := 1) (A := x.1 0) (by decide) (by decide) rfl) dL_meets_7 wl_value iniL (by decide) (by decide) (List.mem_of_getElem? (i := 261) (by decide +kernel)) rfl (by show d - 1 + 1 ≤ d; omega) (by show 19 + 4 + 35 * (d - 1) ≤ 35 * d; omega) (by show _ ≤ 30; omega) (by show _ ≤ 180; omega) (Nat.le_of_ble_eq_true rfl) ?_
      refine zl_icmp_ge X dL_meets_10 (tgt := 52) (by decide) (by first | decide | assumption | omega) (by first | decide | assumption | omega) (fun h_10 => ?_) (fun h_10 => ?_)
      · refine zl_iload_n X dL_meets_52 rfl ?_
        refine zl_zret X dL_meets_53 rfl (by rcases hi with ⟨rfl, _⟩ | ⟨rfl, _⟩ <;> rfl) (by omega) (by omega) (fun _ J F z => z) ?_
        exact ⟨i, rfl, by rw [← show k = (x.1 0).toNat by omega]; exact hi, rfl, rfl⟩
      · exact absurd h_10 (by first | decide | omega)
    | succ q ih =>
      intro k i hk hi
      have hw := okH_w ok (k := k) (by omega)
      have hdiv : 0 ≤ u / 2 ^ k ∧ u / 2 ^ k ≤ u := ⟨Int.ediv_nonneg h1 (Int.pow_nonneg (by decide)), Int.ediv_le_self _ h1⟩
      rcases hi with ⟨rfl, hp⟩ | ⟨rfl, hp⟩
      · by_cases hb : u / 2 ^ k % 2 = 0
        · refine zl_iload_n X dL_meets_4 rfl ?_
          refine zl_aload_n X dL_meets_5 rfl ?_
          refine zl_iconst X dL_meets_6 ?_
          refine zl_callHq (as2 := [_, _]) rfl X Y N zZs_K (L_valueC lo (d - 1) (by omega) ok (u := 1) (A := x.1 0) (by decide) (by decide) rfl) dL_meets_7 wl_value iniL (by decide) (by decide) (List.mem_of_getElem? (i := 261) (by decide +kernel)) rfl (by show d - 1 + 1 ≤ d; omega) (by show 19 + 4 + 35 * (d - 1) ≤ 35 * d; omega) (by show _ ≤ 30; omega) (by show _ ≤ 180; omega) (Nat.le_of_ble_eq_true rfl) ?_
          refine zl_icmp_ge X dL_meets_10 (tgt := 52) (by decide) (by first | decide | assumption | omega) (by first | decide | assumption | omega) (fun h_10 => ?_) (fun h_10 => ?_)
          · exact absurd h_10 (by first | decide | omega)
          · refine zl_iload_n X dL_meets_13 rfl ?_
            refine zl_if_eq X dL_meets_14 (tgt := 44) (by decide) (by first | decide | assumption | omega) (fun h_14 => ?_) (fun h_14 => ?_)
            · exact absurd h_14 (by first | decide | omega)
            · refine zl_iload_n X dL_meets_17 rfl ?_
              refine zl_iload_n X dL_meets_18 rfl ?_
              refine zl_ishr X dL_meets_19 (by first | decide | assumption | omega) (by first | decide | assumption | omega) (by first | decide | assumption | omega) ?_
              refine zl_iconst X dL_meets_20 ?_
              refine zl_iand X dL_meets_21 (by first | decide | assumption | omega) (by first | decide | assumption | omega) ?_
              refine zl_if_eq X dL_meets_22 (tgt := 40) (by decide) (by first | decide | assumption | omega) (fun h_22 => ?_) (fun h_22 => ?_)
              · refine zl_iconst X dL_meets_40 ?_
                refine zl_goto X dL_meets_41 (tgt := 45) (by decide) ?_
                refine zl_istore_n X dL_meets_45 (by decide) rfl ?_
                refine zl_iinc X dL_meets_46 rfl (by decide) rfl ?_
                refine zl_goto X dL_meets_49 (tgt := 4) (by decide) ?_
                have h9 := ih (k + 1) 1 (by omega) (Or.inl ⟨rfl, fun j hj => (show j < k ∨ j = k by omega).elim (fun g => hp j g) (fun g => by subst g; exact Or.inl hb)⟩)
                exact zl_sub (by repeat (first | exact zle_nil | refine zle_some ?_ | refine zle_none ?_)) (zl_widen (by omega) (by omega) h9)
              · exact absurd h_22 (by first | decide | omega)
        · by_cases hq : x.2.1 k 1 = x.2.1 k 2
          · refine zl_iload_n X dL_meets_4 rfl ?_
            refine zl_aload_n X dL_meets_5 rfl ?_
            refine zl_iconst X dL_meets_6 ?_
            refine zl_callHq (as2 := [_, _]) rfl X Y N zZs_K (L_valueC lo (d - 1) (by omega) ok (u := 1) (A := x.1 0) (by decide) (by decide) rfl) dL_meets_7 wl_value iniL (by decide) (by decide) (List.mem_of_getElem? (i := 261) (by decide +kernel)) rfl (by show d - 1 + 1 ≤ d; omega) (by show 19 + 4 + 35 * (d - 1) ≤ 35 * d; omega) (by show _ ≤ 30; omega) (by show _ ≤ 180; omega) (Nat.le_of_ble_eq_true rfl) ?_
            refine zl_icmp_ge X dL_meets_10 (tgt := 52) (by decide) (by first | decide | assumption | omega) (by first | decide | assumption | omega) (fun h_10 => ?_) (fun h_10 => ?_)
            · exact absurd h_10 (by first | decide | omega)
            · refine zl_iload_n X dL_meets_13 rfl ?_
              refine zl_if_eq X dL_meets_14 (tgt := 44) (by decide) (by first | decide | assumption | omega) (fun h_14 => ?_) (fun h_14 => ?_)
              · exact absurd h_14 (by first | decide | omega)
              · refine zl_iload_n X dL_meets_17 rfl ?_
                refine zl_iload_n X dL_meets_18 rfl ?_
                refine zl_ishr X dL_meets_19 (by first | decide | assumption | omega) (by first | decide | assumption | omega) (by first | decide | assumption | omega) ?_
                refine zl_iconst X dL_meets_20 ?_
                refine zl_iand X dL_meets_21 (by first | decide | assumption | omega) (by first | decide | assumption | omega) ?_
                refine zl_if_eq X dL_meets_22 (tgt := 40) (by decide) (by first | decide | assumption | omega) (fun h_22 => ?_) (fun h_22 => ?_)
                · exact absurd h_22 (by first | decide | omega)
                · refine zl_aload_n X dL_meets_25 rfl ?_
                  refine zl_iload_n X dL_meets_26 rfl ?_
                  refine zl_iconst X dL_meets_27 ?_
                  refine zl_callHq (as2 := [_, _, _]) rfl X Y N zZs_K (L_wheelN lo (d - 1) (by omega) ok (k := k) (v := 1) (A := x.2.1 k 1) (by omega) (by decide) (by decide) rfl) dL_meets_28 wl_wheel iniL (by decide) (by decide) (List.mem_of_getElem? (i := 385) (by decide +kernel)) rfl (by show d - 1 + 1 ≤ d; omega) (by show 19 + 5 + 35 * (d - 1) ≤ 35 * d; omega) (by show _ ≤ 30; omega) (by show _ ≤ 180; omega) (Nat.le_of_ble_eq_true rfl) ?_
                  refine zl_aload_n X dL_meets_31 rfl ?_
                  refine zl_iload_n X dL_meets_32 rfl ?_
                  refine zl_iconst X dL_meets_33 ?_
                  refine zl_callHq (as2 := [_, _, _]) rfl X Y N zZs_K (L_wheelN lo (d - 1) (by omega) ok (k := k) (v := 2) (A := x.2.1 k 2) (by omega) (by decide) (by decide) rfl) dL_meets_34 wl_wheel iniL (by decide) (by decide) (List.mem_of_getElem? (i := 385) (by decide +kernel)) rfl (by show d - 1 + 1 ≤ d; omega) (by show 19 + 5 + 35 * (d - 1) ≤ 35 * d; omega) (by show _ ≤ 30; omega) (by show _ ≤ 180; omega) (Nat.le_of_ble_eq_true rfl) ?_
                  refine zl_icmp_ne X dL_meets_37 (tgt := 44) (by decide) (by first | decide | assumption | omega) (by first | decide | assumption | omega) (fun h_37 => ?_) (fun h_37 => ?_)
                  · exact absurd h_37 (by first | decide | omega)
                  · refine zl_iconst X dL_meets_40 ?_
                    refine zl_goto X dL_meets_41 (tgt := 45) (by decide) ?_
                    refine zl_istore_n X dL_meets_45 (by decide) rfl ?_
                    refine zl_iinc X dL_meets_46 rfl (by decide) rfl ?_
                    refine zl_goto X dL_meets_49 (tgt := 4) (by decide) ?_
                    have h9 := ih (k + 1) 1 (by omega) (Or.inl ⟨rfl, fun j hj => (show j < k ∨ j = k by omega).elim (fun g => hp j g) (fun g => by subst g; exact Or.inr hq)⟩)
                    exact zl_sub (by repeat (first | exact zle_nil | refine zle_some ?_ | refine zle_none ?_)) (zl_widen (by omega) (by omega) h9)
          · refine zl_iload_n X dL_meets_4 rfl ?_
            refine zl_aload_n X dL_meets_5 rfl ?_
            refine zl_iconst X dL_meets_6 ?_
            refine zl_callHq (as2 := [_, _]) rfl X Y N zZs_K (L_valueC lo (d - 1) (by omega) ok (u := 1) (A := x.1 0) (by decide) (by decide) rfl) dL_meets_7 wl_value iniL (by decide) (by decide) (List.mem_of_getElem? (i := 261) (by decide +kernel)) rfl (by show d - 1 + 1 ≤ d; omega) (by show 19 + 4 + 35 * (d - 1) ≤ 35 * d; omega) (by show _ ≤ 30; omega) (by show _ ≤ 180; omega) (Nat.le_of_ble_eq_true rfl) ?_
            refine zl_icmp_ge X dL_meets_10 (tgt := 52) (by decide) (by first | decide | assumption | omega) (by first | decide | assumption | omega) (fun h_10 => ?_) (fun h_10 => ?_)
            · exact absurd h_10 (by first | decide | omega)
            · refine zl_iload_n X dL_meets_13 rfl ?_
              refine zl_if_eq X dL_meets_14 (tgt := 44) (by decide) (by first | decide | assumption | omega) (fun h_14 => ?_) (fun h_14 => ?_)
              · exact absurd h_14 (by first | decide | omega)
              · refine zl_iload_n X dL_meets_17 rfl ?_
                refine zl_iload_n X dL_meets_18 rfl ?_
                refine zl_ishr X dL_meets_19 (by first | decide | assumption | omega) (by first | decide | assumption | omega) (by first | decide | assumption | omega) ?_
                refine zl_iconst X dL_meets_20 ?_
                refine zl_iand X dL_meets_21 (by first | decide | assumption | omega) (by first | decide | assumption | omega) ?_
                refine zl_if_eq X dL_meets_22 (tgt := 40) (by decide) (by first | decide | assumption | omega) (fun h_22 => ?_) (fun h_22 => ?_)
                · exact absurd h_22 (by first | decide | omega)
                · refine zl_aload_n X dL_meets_25 rfl ?_
                  refine zl_iload_n X dL_meets_26 rfl ?_
                  refine zl_iconst X dL_meets_27 ?_
                  refine zl_callHq (as2 := [_, _, _]) rfl X Y N zZs_K (L_wheelN lo (d - 1) (by omega) ok (k := k) (v := 1) (A := x.2.1 k 1) (by omega) (by decide) (by decide) rfl) dL_meets_28 wl_wheel iniL (by decide) (by decide) (List.mem_of_getElem? (i := 385) (by decide +kernel)) rfl (by show d - 1 + 1 ≤ d; omega) (by show 19 + 5 + 35 * (d - 1) ≤ 35 * d; omega) (by show _ ≤ 30; omega) (by show _ ≤ 180; omega) (Nat.le_of_ble_eq_true rfl) ?_
                  refine zl_aload_n X dL_meets_31 rfl ?_
                  refine zl_iload_n X dL_meets_32 rfl ?_
                  refine zl_iconst X dL_meets_33 ?_
                  refine zl_callHq (as2 := [_, _, _]) rfl X Y N zZs_K (L_wheelN lo (d - 1) (by omega) ok (k := k) (v := 2) (A := x.2.1 k 2) (by omega) (by decide) (by decide) rfl) dL_meets_34 wl_wheel iniL (by decide) (by decide) (List.mem_of_getElem? (i := 385) (by decide +kernel)) rfl (by show d - 1 + 1 ≤ d; omega) (by show 19 + 5 + 35 * (d - 1) ≤ 35 * d; omega) (by show _ ≤ 30; omega) (by show _ ≤ 180; omega) (Nat.le_of_ble_eq_true rfl) ?_
                  refine zl_icmp_ne X dL_meets_37 (tgt := 44) (by decide) (by first | decide | assumption | omega) (by first | decide | assumption | omega) (fun h_37 => ?_) (fun h_37 => ?_)
                  · refine zl_iconst X dL_meets_44 ?_
                    refine zl_istore_n X dL_meets_45 (by decide) rfl ?_
                    refine zl_iinc X dL_meets_46 rfl (by decide) rfl ?_
                    refine zl_goto X dL_meets_49 (tgt := 4) (by decide) ?_
                    have h9 := ih (k + 1) 0 (by omega) (Or.inr ⟨rfl, fun z => (z k (by omega)).elim hb hq⟩)
                    exact zl_sub (by repeat (first | exact zle_nil | refine zle_some ?_ | refine zle_none ?_)) (zl_widen (by omega) (by omega) h9)
                  · exact absurd h_37 (by first | decide | omega)
      · refine zl_iload_n X dL_meets_4 rfl ?_
        refine zl_aload_n X dL_meets_5 rfl ?_
        refine zl_iconst X dL_meets_6 ?_
        refine zl_callHq (as2 := [_, _]) rfl X Y N zZs_K (L_valueC lo (d - 1) (by omega) ok (u := 1) (A := x.1 0) (by decide) (by decide) rfl) dL_meets_7 wl_value iniL (by decide) (by decide) (List.mem_of_getElem? (i := 261) (by decide +kernel)) rfl (by show d - 1 + 1 ≤ d; omega) (by show 19 + 4 + 35 * (d - 1) ≤ 35 * d; omega) (by show _ ≤ 30; omega) (by show _ ≤ 180; omega) (Nat.le_of_ble_eq_true rfl) ?_
        refine zl_icmp_ge X dL_meets_10 (tgt := 52) (by decide) (by first | decide | assumption | omega) (by first | decide | assumption | omega) (fun h_10 => ?_) (fun h_10 => ?_)
        · exact absurd h_10 (by first | decide | omega)
        · refine zl_iload_n X dL_meets_13 rfl ?_
          refine zl_if_eq X dL_meets_14 (tgt := 44) (by decide) (by first | decide | assumption | omega) (fun h_14 => ?_) (fun h_14 => ?_)
          · refine zl_iconst X dL_meets_44 ?_
            refine zl_istore_n X dL_meets_45 (by decide) rfl ?_
            refine zl_iinc X dL_meets_46 rfl (by decide) rfl ?_
            refine zl_goto X dL_meets_49 (tgt := 4) (by decide) ?_
            have h9 := ih (k + 1) 0 (by omega) (Or.inr ⟨rfl, fun z => hp fun j hj => z j (by omega)⟩)
            exact zl_sub (by repeat (first | exact zle_nil | refine zle_some ?_ | refine zle_none ?_)) (zl_widen (by omega) (by omega) h9)
          · exact absurd h_14 (by first | decide | omega)
  refine zl_iconst X dL_meets_0 ?_
  refine zl_istore_n X dL_meets_1 (by decide) rfl ?_
  refine zl_iconst X dL_meets_2 ?_
  refine zl_istore_n X dL_meets_3 (by decide) rfl ?_
  have h9 := hl (x.1 0).toNat 0 1 (by omega) (Or.inl ⟨rfl, fun j hj => absurd hj (by omega)⟩)
  exact zl_sub (by repeat (first | exact zle_nil | refine zle_some ?_ | refine zle_none ?_)) (zl_widen (by omega) (by omega) h9)
set_option maxHeartbeats 4000000 in
set_option maxRecDepth 100000 in
theorem N_isDry (lo d : Nat) (hd : 8 ≤ d) {x : Hou} {R : List Hou} (ok : okH x) {k : Nat} (hk : k ≤ 1000) : zLN true lo yL_isDry cL_isDry 8 (some .boolean) d 12 72 [.ref (lo + 0), .int (zI (k : Int))] x R (zEq (.int (zI 1)) x R) := by
  refine zLN.mk (by decide) wn_isDry.2.1 (Nat.le_of_ble_eq_true rfl) ?_
  intro p l e s m args below meth c D cA J0 F0 X Y N
  have g5 : 0 ≤ x.1 5 ∧ x.1 5 ≤ 1439 ∧ 1 ≤ x.1 6 ∧ x.1 6 ≤ 600 := by
    have hh := okH_h ok
    omega
  have hm := mk_in (x := x) k
  have hi := hi_in (x := x) k
  by_cases h0 : mkF x k = 0
  · refine zl_aload_n X dL_isDry_0 rfl ?_
    refine zl_iload_n X dL_isDry_1 rfl ?_
    refine zl_callHq (as2 := [_, _]) rfl X Y N zZs_K (L_marketN lo (d - 1) (by omega) ok (k := k) (by omega)) dL_isDry_2 wl_market iniL (by decide) (by decide) (List.mem_of_getElem? (i := 455) (by decide +kernel)) rfl (by show d - 1 + 1 ≤ d; omega) (by show 19 + 4 + 35 * (d - 1) ≤ 35 * d; omega) (by show _ ≤ 12; omega) (by show _ ≤ 72; omega) (Nat.le_of_ble_eq_true rfl) ?_
    refine zl_istore_n X dL_isDry_5 (by decide) rfl ?_
    refine zl_iload_n X dL_isDry_6 rfl ?_
    refine zl_if_ne X dL_isDry_7 (tgt := 12) (by decide) (by first | decide | assumption | omega) (fun h_7 => ?_) (fun h_7 => ?_)
    · exact absurd h_7 (by first | decide | omega)
    · refine zl_iconst X dL_isDry_10 ?_
      refine zl_zret X dL_isDry_11 rfl (by first | rfl | assumption) (by omega) (by omega) (fun _ J F z => z) ?_
      exact ⟨rfl, rfl, rfl⟩
  have hE0 : mlast x.1 ≤ 1439 ∧ 0 ≤ mlast x.1 := by
    unfold mlast
    split <;> omega
  obtain ⟨f1, f2, f3, f4⟩ := mk_dry (x := x) k h0
  have h3 : ∀ wt : Int, (wt = 0 ∧ mkF x k = 1 ∨ (0 < wt ∧ wt ≤ 2) ∧ mkF x k ≠ 1) → zL p l e { frames := d, cells := 12, slots := 72, locals := 35 * d } s m args below meth c D cA lo 8 8 48 (vx_MQ below (zQ D cA lo 57 (zLP true J0 F0 (zEq (.int (zI 1)) x R))) (fun _ _ _ => False) args s 12 72 (fun q => lo ≤ q)) x R (fun J F => zK J F J0 F0) [some (.ref (lo + 0)), some (.int (zI (k : Int))), some (.int (zI (mkF x k))), some (.int (zI (x.1 5))), some (.int (zI (mlast x.1))), some (.int (zI wt)), some (.int (zI 2)), none] [] 111 := by
    clear f3 f4
    intro wt hwt
    rcases hwt with ⟨rfl, hm1⟩ | ⟨hwt, hm1⟩
    · refine zl_iload_n X dL_isDry_111 rfl ?_
      refine zl_iconst X dL_isDry_112 ?_
      refine zl_icmp_ne X dL_isDry_113 (tgt := 120) (by decide) (by first | decide | assumption | omega) (by first | decide | assumption | omega) (fun h_113 => ?_) (fun h_113 => ?_)
      · exact absurd h_113 (by first | decide | omega)
      · refine zl_iconst X dL_isDry_116 ?_
        refine zl_goto X dL_isDry_117 (tgt := 121) (by decide) ?_
        refine zl_iload X dL_isDry_121 rfl ?_
        refine zl_if_ne X dL_isDry_123 (tgt := 130) (by decide) (by first | decide | assumption | omega) (fun h_123 => ?_) (fun h_123 => ?_)
        · exact absurd h_123 (by first | decide | omega)
        · refine zl_iconst X dL_isDry_126 ?_
          refine zl_goto X dL_isDry_127 (tgt := 131) (by decide) ?_
          refine zl_icmp_ne X dL_isDry_131 (tgt := 157) (by decide) (by first | decide | assumption | omega) (by first | decide | assumption | omega) (fun h_131 => ?_) (fun h_131 => ?_)
          · exact absurd h_131 (by first | decide | omega)
          · refine zl_aload_n X dL_isDry_134 rfl ?_
            refine zl_iload_n X dL_isDry_135 rfl ?_
            refine zl_callHq (as2 := [_, _]) rfl X Y N zZs_K (L_highWaterN lo (d - 1) (by omega) ok (k := k) (by omega)) dL_isDry_136 wl_highWater iniL (by decide) (by decide) (List.mem_of_getElem? (i := 425) (by decide +kernel)) rfl (by show d - 1 + 1 ≤ d; omega) (by show 19 + 4 + 35 * (d - 1) ≤ 35 * d; omega) (by show _ ≤ 12; omega) (by show _ ≤ 72; omega) (Nat.le_of_ble_eq_true rfl) ?_
            refine zl_sipush X dL_isDry_139 (by decide) ?_
            refine zl_icmp_ge X dL_isDry_142 (tgt := 157) (by decide) (by first | decide | assumption | omega) (by first | decide | assumption | omega) (fun h_142 => ?_) (fun h_142 => ?_)
            · exact absurd h_142 (by first | decide | omega)
            · refine zl_aload_n X dL_isDry_145 rfl ?_
              refine zl_iload_n X dL_isDry_146 rfl ?_
              refine zl_callHq (as2 := [_, _]) rfl X Y N zZs_K (L_highWaterN lo (d - 1) (by omega) ok (k := k) (by omega)) dL_isDry_147 wl_highWater iniL (by decide) (by decide) (List.mem_of_getElem? (i := 425) (by decide +kernel)) rfl (by show d - 1 + 1 ≤ d; omega) (by show 19 + 4 + 35 * (d - 1) ≤ 35 * d; omega) (by show _ ≤ 12; omega) (by show _ ≤ 72; omega) (Nat.le_of_ble_eq_true rfl) ?_
              refine zl_if_lt X dL_isDry_150 (tgt := 157) (by decide) (by first | decide | assumption | omega) (fun h_150 => ?_) (fun h_150 => ?_)
              · exact absurd h_150 (by first | decide | omega)
              · refine zl_iconst X dL_isDry_153 ?_
                refine zl_goto X dL_isDry_154 (tgt := 158) (by decide) ?_
                refine zl_zret X dL_isDry_158 rfl (by first | rfl | assumption) (by omega) (by omega) (fun _ J F z => z) ?_
                exact ⟨rfl, rfl, rfl⟩
    · refine zl_iload_n X dL_isDry_111 rfl ?_
      refine zl_iconst X dL_isDry_112 ?_
      refine zl_icmp_ne X dL_isDry_113 (tgt := 120) (by decide) (by first | decide | assumption | omega) (by first | decide | assumption | omega) (fun h_113 => ?_) (fun h_113 => ?_)
      · refine zl_iconst X dL_isDry_120 ?_
        refine zl_iload X dL_isDry_121 rfl ?_
        refine zl_if_ne X dL_isDry_123 (tgt := 130) (by decide) (by first | decide | assumption | omega) (fun h_123 => ?_) (fun h_123 => ?_)
        · refine zl_iconst X dL_isDry_130 ?_
          refine zl_icmp_ne X dL_isDry_131 (tgt := 157) (by decide) (by first | decide | assumption | omega) (by first | decide | assumption | omega) (fun h_131 => ?_) (fun h_131 => ?_)
          · exact absurd h_131 (by first | decide | omega)
          · refine zl_aload_n X dL_isDry_134 rfl ?_
            refine zl_iload_n X dL_isDry_135 rfl ?_
            refine zl_callHq (as2 := [_, _]) rfl X Y N zZs_K (L_highWaterN lo (d - 1) (by omega) ok (k := k) (by omega)) dL_isDry_136 wl_highWater iniL (by decide) (by decide) (List.mem_of_getElem? (i := 425) (by decide +kernel)) rfl (by show d - 1 + 1 ≤ d; omega) (by show 19 + 4 + 35 * (d - 1) ≤ 35 * d; omega) (by show _ ≤ 12; omega) (by show _ ≤ 72; omega) (Nat.le_of_ble_eq_true rfl) ?_
            refine zl_sipush X dL_isDry_139 (by decide) ?_
            refine zl_icmp_ge X dL_isDry_142 (tgt := 157) (by decide) (by first | decide | assumption | omega) (by first | decide | assumption | omega) (fun h_142 => ?_) (fun h_142 => ?_)
            · exact absurd h_142 (by first | decide | omega)
            · refine zl_aload_n X dL_isDry_145 rfl ?_
              refine zl_iload_n X dL_isDry_146 rfl ?_
              refine zl_callHq (as2 := [_, _]) rfl X Y N zZs_K (L_highWaterN lo (d - 1) (by omega) ok (k := k) (by omega)) dL_isDry_147 wl_highWater iniL (by decide) (by decide) (List.mem_of_getElem? (i := 425) (by decide +kernel)) rfl (by show d - 1 + 1 ≤ d; omega) (by show 19 + 4 + 35 * (d - 1) ≤ 35 * d; omega) (by show _ ≤ 12; omega) (by show _ ≤ 72; omega) (Nat.le_of_ble_eq_true rfl) ?_
              refine zl_if_lt X dL_isDry_150 (tgt := 157) (by decide) (by first | decide | assumption | omega) (fun h_150 => ?_) (fun h_150 => ?_)
              · exact absurd h_150 (by first | decide | omega)
              · refine zl_iconst X dL_isDry_153 ?_
                refine zl_goto X dL_isDry_154 (tgt := 158) (by decide) ?_
                refine zl_zret X dL_isDry_158 rfl (by first | rfl | assumption) (by omega) (by omega) (fun _ J F z => z) ?_
                exact ⟨rfl, rfl, rfl⟩
        · exact absurd h_123 (by first | decide | omega)
      · exact absurd h_113 (by first | decide | omega)
  have h2 : ∀ wt : Int, (wt = 0 ∧ (mlast x.1 < hiF x k - 120 ∨ hiF x k + 120 < x.1 5) ∨ wt = 1 ∧ ¬ (mlast x.1 < hiF x k - 120 ∨ hiF x k + 120 < x.1 5)) → zL p l e { frames := d, cells := 12, slots := 72, locals := 35 * d } s m args below meth c D cA lo 8 6 36 (vx_MQ below (zQ D cA lo 57 (zLP true J0 F0 (zEq (.int (zI 1)) x R))) (fun _ _ _ => False) args s 12 72 (fun q => lo ≤ q)) x R (fun J F => zK J F J0 F0) [some (.ref (lo + 0)), some (.int (zI (k : Int))), some (.int (zI (mkF x k))), some (.int (zI (x.1 5))), some (.int (zI (mlast x.1))), some (.int (zI wt)), some (.int (zI 1)), none] [] 56 := by
    intro wt hwt
    refine zl_iload X dL_isDry_56 rfl ?_
    refine zl_iconst X dL_isDry_58 ?_
    refine zl_icmp_ge X dL_isDry_59 (tgt := 111) (by decide) (by first | decide | assumption | omega) (by first | decide | assumption | omega) (fun h_59 => ?_) (fun h_59 => ?_)
    · exact absurd h_59 (by first | decide | omega)
    · refine zl_aload_n X dL_isDry_62 rfl ?_
      refine zl_iload_n X dL_isDry_63 rfl ?_
      refine zl_callHq (as2 := [_, _]) rfl X Y N zZs_K (L_highWaterN lo (d - 1) (by omega) ok (k := k) (by omega)) dL_isDry_64 wl_highWater iniL (by decide) (by decide) (List.mem_of_getElem? (i := 425) (by decide +kernel)) rfl (by show d - 1 + 1 ≤ d; omega) (by show 19 + 4 + 35 * (d - 1) ≤ 35 * d; omega) (by show _ ≤ 12; omega) (by show _ ≤ 72; omega) (Nat.le_of_ble_eq_true rfl) ?_
      refine zl_sipush X dL_isDry_67 (by decide) ?_
      refine zl_iload X dL_isDry_70 rfl ?_
      refine zl_imul X dL_isDry_72 ?_
      refine zl_iadd X dL_isDry_73 ?_
      refine zl_istore X dL_isDry_74 (by decide) rfl ?_
      refine zl_iload X dL_isDry_76 rfl ?_
      refine zl_iload_n X dL_isDry_78 rfl ?_
      refine zl_iload X dL_isDry_79 rfl ?_
      refine zl_bipush X dL_isDry_81 (by decide) ?_
      refine zl_iadd X dL_isDry_83 ?_
      refine zl_icmp_gt X dL_isDry_84 (tgt := 97) (by decide) (by first | decide | assumption | omega) (by first | decide | assumption | omega) (fun h_84 => ?_) (fun h_84 => ?_)
      · refine zl_iconst X dL_isDry_97 ?_
        refine zl_goto X dL_isDry_98 (tgt := 102) (by decide) ?_
        refine zl_iadd X dL_isDry_102 ?_
        refine zl_istore X dL_isDry_103 (by decide) rfl ?_
        refine zl_iinc X dL_isDry_105 rfl (by decide) rfl ?_
        refine zl_goto X dL_isDry_108 (tgt := 56) (by decide) ?_
        refine zl_iload X dL_isDry_56 rfl ?_
        refine zl_iconst X dL_isDry_58 ?_
        refine zl_icmp_ge X dL_isDry_59 (tgt := 111) (by decide) (by first | decide | assumption | omega) (by first | decide | assumption | omega) (fun h_59 => ?_) (fun h_59 => ?_)
        · have h9 := h3 (wt + 0) (by omega)
          exact zl_sub (by repeat (first | exact zle_nil | refine zle_some ?_ | refine zle_none ?_)) (zl_widen (by omega) (by omega) h9)
        · exact absurd h_59 (by first | decide | omega)
      · refine zl_iload X dL_isDry_87 rfl ?_
        refine zl_iload X dL_isDry_89 rfl ?_
        refine zl_bipush X dL_isDry_91 (by decide) ?_
        refine zl_isub X dL_isDry_93 ?_
        refine zl_icmp_ge X dL_isDry_94 (tgt := 101) (by decide) (by first | decide | assumption | omega) (by first | decide | assumption | omega) (fun h_94 => ?_) (fun h_94 => ?_)
        · refine zl_iconst X dL_isDry_101 ?_
          refine zl_iadd X dL_isDry_102 ?_
          refine zl_istore X dL_isDry_103 (by decide) rfl ?_
          refine zl_iinc X dL_isDry_105 rfl (by decide) rfl ?_
          refine zl_goto X dL_isDry_108 (tgt := 56) (by decide) ?_
          refine zl_iload X dL_isDry_56 rfl ?_
          refine zl_iconst X dL_isDry_58 ?_
          refine zl_icmp_ge X dL_isDry_59 (tgt := 111) (by decide) (by first | decide | assumption | omega) (by first | decide | assumption | omega) (fun h_59 => ?_) (fun h_59 => ?_)
          · have h9 := h3 (wt + 1) (by omega)
            exact zl_sub (by repeat (first | exact zle_nil | refine zle_some ?_ | refine zle_none ?_)) (zl_widen (by omega) (by omega) h9)
          · exact absurd h_59 (by first | decide | omega)
        · refine zl_iconst X dL_isDry_97 ?_
          refine zl_goto X dL_isDry_98 (tgt := 102) (by decide) ?_
          refine zl_iadd X dL_isDry_102 ?_
          refine zl_istore X dL_isDry_103 (by decide) rfl ?_
          refine zl_iinc X dL_isDry_105 rfl (by decide) rfl ?_
          refine zl_goto X dL_isDry_108 (tgt := 56) (by decide) ?_
          refine zl_iload X dL_isDry_56 rfl ?_
          refine zl_iconst X dL_isDry_58 ?_
          refine zl_icmp_ge X dL_isDry_59 (tgt := 111) (by decide) (by first | decide | assumption | omega) (by first | decide | assumption | omega) (fun h_59 => ?_) (fun h_59 => ?_)
          · have h9 := h3 (wt + 0) (by omega)
            exact zl_sub (by repeat (first | exact zle_nil | refine zle_some ?_ | refine zle_none ?_)) (zl_widen (by omega) (by omega) h9)
          · exact absurd h_59 (by first | decide | omega)
  have h1 : zL p l e { frames := d, cells := 12, slots := 72, locals := 35 * d } s m args below meth c D cA lo 8 5 30 (vx_MQ below (zQ D cA lo 57 (zLP true J0 F0 (zEq (.int (zI 1)) x R))) (fun _ _ _ => False) args s 12 72 (fun q => lo ≤ q)) x R (fun J F => zK J F J0 F0) [some (.ref (lo + 0)), some (.int (zI (k : Int))), some (.int (zI (mkF x k))), some (.int (zI (x.1 5))), some (.int (zI (mlast x.1))), some (.int (zI 0)), some (.int (zI 0)), none] [] 56 := by
    refine zl_iload X dL_isDry_56 rfl ?_
    refine zl_iconst X dL_isDry_58 ?_
    refine zl_icmp_ge X dL_isDry_59 (tgt := 111) (by decide) (by first | decide | assumption | omega) (by first | decide | assumption | omega) (fun h_59 => ?_) (fun h_59 => ?_)
    · exact absurd h_59 (by first | decide | omega)
    · refine zl_aload_n X dL_isDry_62 rfl ?_
      refine zl_iload_n X dL_isDry_63 rfl ?_
      refine zl_callHq (as2 := [_, _]) rfl X Y N zZs_K (L_highWaterN lo (d - 1) (by omega) ok (k := k) (by omega)) dL_isDry_64 wl_highWater iniL (by decide) (by decide) (List.mem_of_getElem? (i := 425) (by decide +kernel)) rfl (by show d - 1 + 1 ≤ d; omega) (by show 19 + 4 + 35 * (d - 1) ≤ 35 * d; omega) (by show _ ≤ 12; omega) (by show _ ≤ 72; omega) (Nat.le_of_ble_eq_true rfl) ?_
      refine zl_sipush X dL_isDry_67 (by decide) ?_
      refine zl_iload X dL_isDry_70 rfl ?_
      refine zl_imul X dL_isDry_72 ?_
      refine zl_iadd X dL_isDry_73 ?_
      refine zl_istore X dL_isDry_74 (by decide) rfl ?_
      refine zl_iload X dL_isDry_76 rfl ?_
      refine zl_iload_n X dL_isDry_78 rfl ?_
      refine zl_iload X dL_isDry_79 rfl ?_
      refine zl_bipush X dL_isDry_81 (by decide) ?_
      refine zl_iadd X dL_isDry_83 ?_
      refine zl_icmp_gt X dL_isDry_84 (tgt := 97) (by decide) (by first | decide | assumption | omega) (by first | decide | assumption | omega) (fun h_84 => ?_) (fun h_84 => ?_)
      · refine zl_iconst X dL_isDry_97 ?_
        refine zl_goto X dL_isDry_98 (tgt := 102) (by decide) ?_
        refine zl_iadd X dL_isDry_102 ?_
        refine zl_istore X dL_isDry_103 (by decide) rfl ?_
        refine zl_iinc X dL_isDry_105 rfl (by decide) rfl ?_
        refine zl_goto X dL_isDry_108 (tgt := 56) (by decide) ?_
        have h9 := h2 (0) (by omega)
        exact zl_sub (by repeat (first | exact zle_nil | refine zle_some ?_ | refine zle_none ?_)) (zl_widen (by omega) (by omega) h9)
      · refine zl_iload X dL_isDry_87 rfl ?_
        refine zl_iload X dL_isDry_89 rfl ?_
        refine zl_bipush X dL_isDry_91 (by decide) ?_
        refine zl_isub X dL_isDry_93 ?_
        refine zl_icmp_ge X dL_isDry_94 (tgt := 101) (by decide) (by first | decide | assumption | omega) (by first | decide | assumption | omega) (fun h_94 => ?_) (fun h_94 => ?_)
        · refine zl_iconst X dL_isDry_101 ?_
          refine zl_iadd X dL_isDry_102 ?_
          refine zl_istore X dL_isDry_103 (by decide) rfl ?_
          refine zl_iinc X dL_isDry_105 rfl (by decide) rfl ?_
          refine zl_goto X dL_isDry_108 (tgt := 56) (by decide) ?_
          have h9 := h2 (1) (by omega)
          exact zl_sub (by repeat (first | exact zle_nil | refine zle_some ?_ | refine zle_none ?_)) (zl_widen (by omega) (by omega) h9)
        · refine zl_iconst X dL_isDry_97 ?_
          refine zl_goto X dL_isDry_98 (tgt := 102) (by decide) ?_
          refine zl_iadd X dL_isDry_102 ?_
          refine zl_istore X dL_isDry_103 (by decide) rfl ?_
          refine zl_iinc X dL_isDry_105 rfl (by decide) rfl ?_
          refine zl_goto X dL_isDry_108 (tgt := 56) (by decide) ?_
          have h9 := h2 (0) (by omega)
          exact zl_sub (by repeat (first | exact zle_nil | refine zle_some ?_ | refine zle_none ?_)) (zl_widen (by omega) (by omega) h9)
  have hE : (x.1 5 + x.1 6 - 1 ≤ 1439 ∧ mlast x.1 = x.1 5 + x.1 6 - 1) ∨ (¬ x.1 5 + x.1 6 - 1 ≤ 1439 ∧ mlast x.1 = 1439) := by
    unfold mlast
    split
    · exact Or.inl ⟨by assumption, rfl⟩
    · exact Or.inr ⟨by assumption, rfl⟩
  clear f3 f4
  refine zl_aload_n X dL_isDry_0 rfl ?_
  refine zl_iload_n X dL_isDry_1 rfl ?_
  refine zl_callHq (as2 := [_, _]) rfl X Y N zZs_K (L_marketN lo (d - 1) (by omega) ok (k := k) (by omega)) dL_isDry_2 wl_market iniL (by decide) (by decide) (List.mem_of_getElem? (i := 455) (by decide +kernel)) rfl (by show d - 1 + 1 ≤ d; omega) (by show 19 + 4 + 35 * (d - 1) ≤ 35 * d; omega) (by show _ ≤ 12; omega) (by show _ ≤ 72; omega) (Nat.le_of_ble_eq_true rfl) ?_
  refine zl_istore_n X dL_isDry_5 (by decide) rfl ?_
  refine zl_iload_n X dL_isDry_6 rfl ?_
  refine zl_if_ne X dL_isDry_7 (tgt := 12) (by decide) (by first | decide | assumption | omega) (fun h_7 => ?_) (fun h_7 => ?_)
  · refine zl_aload_n X dL_isDry_12 rfl ?_
    refine zl_iconst X dL_isDry_13 ?_
    refine zl_callHq (as2 := [_, _]) rfl X Y N zZs_K (L_valueC lo (d - 1) (by omega) ok (u := 5) (A := x.1 5) (by decide) (by decide) rfl) dL_isDry_14 wl_value iniL (by decide) (by decide) (List.mem_of_getElem? (i := 261) (by decide +kernel)) rfl (by show d - 1 + 1 ≤ d; omega) (by show 19 + 4 + 35 * (d - 1) ≤ 35 * d; omega) (by show _ ≤ 12; omega) (by show _ ≤ 72; omega) (Nat.le_of_ble_eq_true rfl) ?_
    refine zl_istore_n X dL_isDry_17 (by decide) rfl ?_
    refine zl_iload_n X dL_isDry_18 rfl ?_
    refine zl_aload_n X dL_isDry_19 rfl ?_
    refine zl_bipush X dL_isDry_20 (by decide) ?_
    refine zl_callHq (as2 := [_, _]) rfl X Y N zZs_K (L_valueC lo (d - 1) (by omega) ok (u := 6) (A := x.1 6) (by decide) (by decide) rfl) dL_isDry_22 wl_value iniL (by decide) (by decide) (List.mem_of_getElem? (i := 261) (by decide +kernel)) rfl (by show d - 1 + 1 ≤ d; omega) (by show 19 + 4 + 35 * (d - 1) ≤ 35 * d; omega) (by show _ ≤ 12; omega) (by show _ ≤ 72; omega) (Nat.le_of_ble_eq_true rfl) ?_
    refine zl_iadd X dL_isDry_25 ?_
    refine zl_sipush X dL_isDry_26 (by decide) ?_
    refine zl_icmp_le X dL_isDry_29 (tgt := 38) (by decide) (by first | decide | assumption | omega) (by first | decide | assumption | omega) (fun h_29 => ?_) (fun h_29 => ?_)
    · have e4 : x.1 5 + x.1 6 - 1 = mlast x.1 := by omega
      refine zl_iload_n X dL_isDry_38 rfl ?_
      refine zl_aload_n X dL_isDry_39 rfl ?_
      refine zl_bipush X dL_isDry_40 (by decide) ?_
      refine zl_callHq (as2 := [_, _]) rfl X Y N zZs_K (L_valueC lo (d - 1) (by omega) ok (u := 6) (A := x.1 6) (by decide) (by decide) rfl) dL_isDry_42 wl_value iniL (by decide) (by decide) (List.mem_of_getElem? (i := 261) (by decide +kernel)) rfl (by show d - 1 + 1 ≤ d; omega) (by show 19 + 4 + 35 * (d - 1) ≤ 35 * d; omega) (by show _ ≤ 12; omega) (by show _ ≤ 72; omega) (Nat.le_of_ble_eq_true rfl) ?_
      refine zl_iadd X dL_isDry_45 ?_
      refine zl_iconst X dL_isDry_46 ?_
      refine zl_isub X dL_isDry_47 ?_
      refine zl_istore X dL_isDry_48 (by decide) rfl ?_
      rw [e4]
      refine zl_iconst X dL_isDry_50 ?_
      refine zl_istore X dL_isDry_51 (by decide) rfl ?_
      refine zl_iconst X dL_isDry_53 ?_
      refine zl_istore X dL_isDry_54 (by decide) rfl ?_
      have h9 := h1
      exact zl_sub (by repeat (first | exact zle_nil | refine zle_some ?_ | refine zle_none ?_)) (zl_widen (by omega) (by omega) h9)
    · have e4 : (1439 : Int) = mlast x.1 := by omega
      refine zl_sipush X dL_isDry_32 (by decide) ?_
      refine zl_goto X dL_isDry_35 (tgt := 48) (by decide) ?_
      refine zl_istore X dL_isDry_48 (by decide) rfl ?_
      rw [e4]
      refine zl_iconst X dL_isDry_50 ?_
      refine zl_istore X dL_isDry_51 (by decide) rfl ?_
      refine zl_iconst X dL_isDry_53 ?_
      refine zl_istore X dL_isDry_54 (by decide) rfl ?_
      have h9 := h1
      exact zl_sub (by repeat (first | exact zle_nil | refine zle_some ?_ | refine zle_none ?_)) (zl_widen (by omega) (by omega) h9)
  · exact absurd h_7 h0
