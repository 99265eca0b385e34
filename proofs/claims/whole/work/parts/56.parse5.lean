/-! the Model: parse -/
def paL : Nat → (Nat → Nat → Int) → Nat → (Nat → Nat → Int) × Int
  | 0, J, _ => (J, 1)
  | f + 1, J, c => if J 50 8 < J 50 6 then (if (weR J c).2 = 1 then paL f (weR J c).1 (c + 1) else ((weR J c).1, 0)) else (J, 1)
theorem paL_s {f c : Nat} {J : Nat → Nat → Int} : paL (f + 1) J c = if J 50 8 < J 50 6 then (if (weR J c).2 = 1 then paL f (weR J c).1 (c + 1) else ((weR J c).1, 0)) else (J, 1) := rfl
def pa0 (J : Nat → Nat → Int) : Nat → Nat → Int := zup (zup (kpJ (zup J 50 4 0)) 51 0 0) 50 8 0
/-- the row behind a text that was read -/
def nwJ5 (J : Nat → Nat → Int) : Nat → Nat → Int := prM (upr (zup (zup (zup J 51 2 0) 51 4 0) 51 11 0) 51 (emR (zup (zup (zup J 51 2 0) 51 4 0) 51 11 0 51) 60))
def sameP (J2 J : Nat → Nat → Int) : Prop := ∀ x i, x ≠ 53 → x ≠ 55 → ¬ (x = 50 ∧ (i = 4 ∨ 8 ≤ i)) → ¬ (x = 51 ∧ 108 ≤ i) → J2 x i = J x i
def paM (R : (Nat → Nat → Int) × Int) (J : Nat → Nat → Int) (G : Nat → Nat → Int64) (F : Nat → Nat → Option Nat) : List Value → (Nat → Nat → Int32) → (Nat → Nat → Int64) → (Nat → Nat → Option Nat) → Prop := fun v I2 G2 F2 =>
  G2 = G ∧ F2 = F ∧ ∃ (a : Int) (J2 : Nat → Nat → Int), v = [.int (zI a)] ∧ I2 = zM J2 ∧ J2 50 4 = 0 ∧ ((R.2 = 1 ∧ a = R.1 51 0 ∧ sameP J2 (upr (msJ J) 51 (nwJ5 R.1 51))) ∨ (R.2 ≠ 1 ∧ a = -10 - R.1 50 8 ∧ sameP J2 J))
/-- what the reading keeps of the world that it began with -/
def keepA (J2 J : Nat → Nat → Int) : Prop := psOk J2 ∧ ∀ x i, (x ≠ 50 ∨ i ≠ 8 ∧ i ≠ 9) → (x ≠ 51 ∨ i ≠ 0 ∧ ¬ (13 ≤ i ∧ i < 48)) → J2 x i = J x i
theorem keepA_k {J2 J : Nat → Nat → Int} {k : Nat} (h : keepK J2 J k) (hk : k < 5) : keepA J2 J := ⟨h.1, fun x i a b => h.2 x i a (by omega)⟩
theorem keepA_tr {J J2 J3 : Nat → Nat → Int} (h : keepA J3 J2) (h2 : keepA J2 J) : keepA J3 J := ⟨h.1, fun x i a b => (h.2 x i a b).trans (h2.2 x i a b)⟩
theorem we_5 {J : Nat → Nat → Int} : weR J 5 = (J, 0) := if_pos rfl
theorem keepA_we {J : Nat → Nat → Int} {k : Nat} (h : pwH J k) : keepA (weR J k).1 J := by
  by_cases hk : k = 5
  · subst hk
    rw [we_5]
    exact ⟨h.1, fun _ _ _ _ => rfl⟩
  · exact keepA_k (weR_k h.1) (by have := h.2.2.1; omega)
theorem pa0_H {J : Nat → Nat → Int} (hT : ∀ i, 0 ≤ J 54 i ∧ J 54 i ≤ 127) (n0 : 0 ≤ J 50 6) (n1 : J 50 6 ≤ 90) (d1 : 0 ≤ J 51 1) (d2 : J 51 1 ≤ 1000000) (p1 : 0 ≤ J 51 12) (p2 : J 51 12 ≤ 1000000) : pwH (pa0 J) 0 := by
  have e : ∀ x i, x ≠ 53 → ¬ (x = 50 ∧ i = 4) → ¬ (x = 51 ∧ i = 0) → ¬ (x = 50 ∧ i = 8) → pa0 J x i = J x i := fun x i a b c d => by
    unfold pa0
    rw [zup_ne d, zup_ne c]
    exact (upr_ne a).trans (zup_ne b)
  have e6 := e 50 6 (by decide) (by decide) (by decide) (by decide)
  have e8 : pa0 J 50 8 = 0 := zup_eq
  refine ⟨⟨by omega, by omega, by omega, fun i => ?_⟩, ?_, by decide, fun j hj => absurd hj (Nat.not_lt_zero j), ?_⟩
  · rw [e 54 i (by decide) (by omega) (by omega) (by omega)]
    exact hT i
  · exact (zup_ne (by decide)).trans zup_eq
  · rw [e 51 1 (by decide) (by decide) (by decide) (by decide), e 51 12 (by decide) (by decide) (by decide) (by decide)]
    exact ⟨d1, d2, p1, p2⟩
theorem pa0_o {J : Nat → Nat → Int} {x i : Nat} (a : x ≠ 53) (b : ¬ (x = 50 ∧ (i = 4 ∨ i = 8))) (c : ¬ (x = 51 ∧ i = 0)) : pa0 J x i = J x i := by
  unfold pa0
  rw [zup_ne (by omega), zup_ne c]
  exact (upr_ne a).trans (zup_ne (by omega))
theorem pa0_53 {J : Nat → Nat → Int} {i : Nat} (h : i < 108) : pa0 J 53 i = J 51 i := by
  unfold pa0
  rw [zup_ne (by omega), zup_ne (by omega)]
  exact (upr_eq.trans (if_pos h)).trans z51
theorem tb_same {K J : Nat → Nat → Int} (h53 : ∀ i, i < 108 → K 53 i = J 51 i) (h : ∀ x i, x ≠ 53 → x ≠ 55 → ¬ (x = 50 ∧ (i = 4 ∨ 8 ≤ i)) → x ≠ 51 → K x i = J x i) : sameP (upr K 51 (cpR (K 51) (K 53) 108)) J := by
  intro x i a b c d
  by_cases hx : x = 51
  · subst hx
    rw [upr_eq]
    unfold cpR
    rw [if_pos (by omega)]
    exact h53 i (by omega)
  · rw [upr_ne hx]
    exact h x i a b c hx
/-- the new row saved behind the old one -/
def swJ (J : Nat → Nat → Int) : Nat → Nat → Int := upr (upr J 51 (cpR (J 51) (J 53) 108)) 53 (cpR (J 53) (J 51) 108)
theorem swJ_51 {J : Nat → Nat → Int} {i : Nat} (h : i < 108) : swJ J 51 i = J 53 i := (upr_ne (by decide)).trans (upr_eq.trans (if_pos h))
theorem swJ_53 {J : Nat → Nat → Int} {i : Nat} (h : i < 108) : swJ J 53 i = J 51 i := upr_eq.trans (if_pos h)
theorem swJ_o {J : Nat → Nat → Int} {x i : Nat} (h : x ≠ 51) (h2 : x ≠ 53) : swJ J x i = J x i := (upr_ne h2).trans (upr_ne h)
theorem msJ_o {J : Nat → Nat → Int} {x i : Nat} (h : x ≠ 52) (h2 : ¬ (x = 50 ∧ i = 3)) : msJ J x i = J x i := (zup_ne h2).trans (upr_ne h)
theorem msJ_52 {J J2 : Nat → Nat → Int} (h3 : J2 50 3 = J 50 3) (h52 : ∀ i, J2 52 i = J 52 i) (h51 : ∀ i, i < 108 → J2 51 i = J 51 i) (i : Nat) : msJ J2 52 i = msJ J 52 i := by
  have e : ∀ K : Nat → Nat → Int, msJ K 52 i = ptR (msR K) (K 51) (svT (K 50 3)) 108 i := fun K => (zup_ne (by omega)).trans upr_eq
  have em : msR J2 i = msR J i := by
    unfold msR
    rw [h3]
    split
    · unfold shR
      split <;> exact h52 _
    · exact h52 i
  rw [e, e, h3]
  unfold ptR
  split
  · exact h51 _ (by omega)
  · exact em
theorem msJ_503 {J J2 : Nat → Nat → Int} (h3 : J2 50 3 = J 50 3) : msJ J2 50 3 = msJ J 50 3 := by
  have e : ∀ K : Nat → Nat → Int, msJ K 50 3 = (svT (K 50 3) : Nat) + 1 := fun K => zup_eq
  rw [e, e, h3]
theorem nwJ5_o {J : Nat → Nat → Int} {x i : Nat} (h : x ≠ 51) : nwJ5 J x i = J x i := by
  unfold nwJ5 prM
  rw [upr_ne h, upr_ne h, zup_ne (by omega), zup_ne (by omega), zup_ne (by omega)]
theorem nwJ5_0 {J : Nat → Nat → Int} : nwJ5 J 51 0 = J 51 0 := by
  unfold nwJ5 prM
  rw [upr_eq, prR_ne (by omega), if_neg (by decide), upr_eq]
  unfold emR
  rw [if_neg (by omega), zup_ne (by decide), zup_ne (by decide), zup_ne (by decide)]
theorem pa_yes {J1 J : Nat → Nat → Int} (h53 : ∀ i, i < 108 → J1 53 i = J 51 i) (h : ∀ x i, x ≠ 53 → x ≠ 55 → ¬ (x = 50 ∧ (i = 4 ∨ 8 ≤ i)) → x ≠ 51 → J1 x i = J x i) : sameP (swJ (msJ (swJ (nwJ5 J1)))) (upr (msJ J) 51 (nwJ5 J1 51)) := by
  intro x i a b c d
  have e51 : ∀ i, i < 108 → swJ (nwJ5 J1) 51 i = J 51 i := fun i hi => (swJ_51 hi).trans ((nwJ5_o (by decide)).trans (h53 i hi))
  have eo : ∀ x i, x ≠ 53 → x ≠ 55 → ¬ (x = 50 ∧ (i = 4 ∨ 8 ≤ i)) → x ≠ 51 → swJ (nwJ5 J1) x i = J x i := fun x i a b c d => (swJ_o d a).trans ((nwJ5_o d).trans (h x i a b c d))
  have e3 : swJ (nwJ5 J1) 50 3 = J 50 3 := eo 50 3 (by decide) (by decide) (by decide) (by decide)
  by_cases hx : x = 51
  · subst hx
    have hi : i < 108 := by omega
    rw [swJ_51 hi, msJ_o (by decide) (by omega), swJ_53 hi, upr_eq]
  · rw [swJ_o hx a, upr_ne hx]
    by_cases h2 : x = 52
    · subst h2
      exact msJ_52 e3 (fun i => eo 52 i (by decide) (by decide) (by omega) (by decide)) e51 i
    · by_cases h4 : x = 50 ∧ i = 3
      · obtain ⟨rfl, rfl⟩ := h4
        exact msJ_503 e3
      · rw [msJ_o h2 h4, msJ_o h2 h4]
        exact eo x i a b c hx
set_option maxHeartbeats 4000000 in
set_option maxRecDepth 100000 in
theorem k_X5_parse (lo d : Nat) (hd : 5 ≤ d) (J : Nat → Nat → Int) (G : Nat → Nat → Int64) (F : Nat → Nat → Option Nat) (hF : zFk F) (hT : ∀ i, 0 ≤ J 54 i ∧ J 54 i ≤ 127) (n0 : 0 ≤ J 50 6) (n1 : J 50 6 ≤ 90) (d1 : 0 ≤ J 51 1) (d2 : J 51 1 ≤ 1000000) (p1 : 0 ≤ J 51 12) (p2 : J 51 12 ≤ 1000000) (t1 : 0 ≤ J 50 3) (t2 : J 50 3 ≤ 4) : zCt lo yX5_parse cX5_parse 3 (some .int) d 0 0 [.ref (lo + 50)] 57 57 (zM J) G F (paM (paL 6 (pa0 J) 0) J G F) := by
  refine zCt.mk (by decide) (mv_X5_parse.2.2.2.1) (Nat.le_of_ble_eq_true rfl) ?_
  intro p l e s m args below meth c D cA X
  have hp0 := pa0_H hT n0 n1 d1 d2 p1 p2
  have stY : ∀ (J1 : Nat → Nat → Int) (cn : Nat), keepA J1 (pa0 J) → pwH J1 cn → (paL 6 (pa0 J) 0) = (J1, 1) → zG p l e { frames := d, cells := 0, slots := 0, locals := 35 * d } s m args below meth c D cA lo 3 0 0 (MQ below (zQ D cA lo 57 (paM (paL 6 (pa0 J) 0) J G F)) args s 0 0 (fun q => lo ≤ q)) 57 (zM (J1)) G F [some (.ref (lo + 50)), some (.int (zI 1)), none] [] 46 := by
    intro J1 cn hA hw hR
    have hJ0 : (upr (zup (zup (zup J1 51 2 0) 51 4 0) 51 11 0) 51 (emR ((zup (zup (zup J1 51 2 0) 51 4 0) 51 11 0) 51) 60)) 51 0 = J1 51 0 := upr_eq.trans ((if_neg (by omega)).trans ((zup_ne (by decide)).trans ((zup_ne (by decide)).trans (zup_ne (by decide)))))
    have hc0 : 0 ≤ J1 51 0 ∧ J1 51 0 ≤ 5 := by have := hw.2.1; have := hw.2.2.1; omega
    have hJ7 : swJ (msJ (swJ (nwJ5 J1))) 51 0 = J1 51 0 := (swJ_51 (by decide)).trans ((msJ_o (by decide) (by decide)).trans ((swJ_53 (by decide)).trans nwJ5_0))
    have h4 : swJ (msJ (swJ (nwJ5 J1))) 50 4 = 0 := by
      rw [swJ_o (by decide) (by decide), msJ_o (by decide) (by decide), swJ_o (by decide) (by decide), nwJ5_o (by decide)]
      exact (hA.2 50 4 (Or.inr (by decide)) (Or.inl (by decide))).trans ((zup_ne (by decide)).trans ((zup_ne (by decide)).trans ((upr_ne (by decide)).trans zup_eq)))
    have hsw := hA.2 50 3 (Or.inr (by decide)) (Or.inl (by decide))
    have hs2 : J1 50 3 = J 50 3 := hsw.trans (pa0_o (by decide) (by decide) (by decide))
    have h53 : ∀ i, i < 108 → J1 53 i = J 51 i := fun i hi => (hA.2 53 i (Or.inl (by decide)) (Or.inl (by decide))).trans (pa0_53 hi)
    have hoo : ∀ x i, x ≠ 53 → x ≠ 55 → ¬ (x = 50 ∧ (i = 4 ∨ 8 ≤ i)) → x ≠ 51 → J1 x i = J x i := fun x i a b c d => (hA.2 x i (by omega) (Or.inl d)).trans (pa0_o a (by omega) (by omega))
    have h504 : J1 50 4 = 0 := (hA.2 50 4 (Or.inr (by decide)) (Or.inl (by decide))).trans ((zup_ne (by decide)).trans ((zup_ne (by decide)).trans ((upr_ne (by decide)).trans zup_eq)))
    refine zG_iload_n X dX5_parse_46 rfl ?_
    refine zj_if_ne X dX5_parse_47 (tgt := 62) (by decide) (by first | decide | omega) (fun h_47 => ?_) (fun h_47 => ?_)
    · refine zG_aload_n X dX5_parse_62 rfl ?_
      refine zG_getR X dX5_parse_63 fl_X5_7 (by first | rfl | assumption) (by first | decide | omega) (by decide) rfl (by first | exact zF_at hF rfl rfl | assumption) ?_
      refine zj_iconst X dX5_parse_66 ?_
      refine zj_iconst X dX5_parse_67 ?_
      refine zj_iastore X dX5_parse_68 (by first | rfl | assumption) (by first | decide | omega) (2) (by decide) (by decide) ?_
      refine zG_aload_n X dX5_parse_69 rfl ?_
      refine zG_getR X dX5_parse_70 fl_X5_7 (by first | rfl | assumption) (by first | decide | omega) (by decide) rfl (by first | exact zF_at hF rfl rfl | assumption) ?_
      refine zj_iconst X dX5_parse_73 ?_
      refine zj_iconst X dX5_parse_74 ?_
      refine zj_iastore X dX5_parse_75 (by first | rfl | assumption) (by first | decide | omega) (4) (by decide) (by decide) ?_
      refine zG_aload_n X dX5_parse_76 rfl ?_
      refine zG_getR X dX5_parse_77 fl_X5_7 (by first | rfl | assumption) (by first | decide | omega) (by decide) rfl (by first | exact zF_at hF rfl rfl | assumption) ?_
      refine zj_bipush X dX5_parse_80 (by decide) ?_
      refine zj_iconst X dX5_parse_82 ?_
      refine zj_iastore X dX5_parse_83 (by first | rfl | assumption) (by first | decide | omega) (11) (by decide) (by decide) ?_
      refine zG_aload_n X dX5_parse_84 rfl ?_
      refine zj_callV0 (as2 := []) X (k_X5_emptiesSet lo (d - 1) (zup (zup (zup J1 51 2 0) 51 4 0) 51 11 0) G F hF) dX5_parse_85 mv_X5_emptiesSet ml_X5_72 (by first | rfl | assumption) rfl (by first | decide | omega) rfl rfl (by show d - 1 + 1 ≤ d; omega) (by show 19 + 2 + 35 * (d - 1) ≤ 35 * (d); omega) (Nat.le_of_ble_eq_true rfl) (Nat.le_of_ble_eq_true rfl) (Nat.le_of_ble_eq_true rfl) ?_
      refine zG_aload_n X dX5_parse_88 rfl ?_
      refine zj_callV1 (as2 := []) X (k_X5_prints lo (d - 1) (by omega) (upr (zup (zup (zup J1 51 2 0) 51 4 0) 51 11 0) 51 (emR ((zup (zup (zup J1 51 2 0) 51 4 0) 51 11 0) 51) 60)) G F hF (by rw [hJ0]; omega) (by rw [hJ0]; omega)) dX5_parse_89 mv_X5_prints ml_X5_99 (by first | rfl | assumption) rfl (by first | decide | omega) rfl rfl (by show d - 1 + 1 ≤ d; omega) (by show 19 + 3 + 35 * (d - 1) ≤ 35 * (d); omega) (Nat.le_of_ble_eq_true rfl) (Nat.le_of_ble_eq_true rfl) (Nat.le_of_ble_eq_true rfl) ?_
      rw [show prM (upr (zup (zup (zup J1 51 2 0) 51 4 0) 51 11 0) 51 (emR ((zup (zup (zup J1 51 2 0) 51 4 0) 51 11 0) 51) 60)) = nwJ5 J1 from rfl]
      refine zG_istore_n X dX5_parse_92 (by decide) rfl ?_
      refine zG_aload_n X dX5_parse_93 rfl ?_
      refine zj_callV0 (as2 := []) X (k_X5_swapsAside lo (d - 1) (nwJ5 J1) G F hF) dX5_parse_94 mv_X5_swapsAside ml_X5_166 (by first | rfl | assumption) rfl (by first | decide | omega) rfl rfl (by show d - 1 + 1 ≤ d; omega) (by show 19 + 3 + 35 * (d - 1) ≤ 35 * (d); omega) (Nat.le_of_ble_eq_true rfl) (Nat.le_of_ble_eq_true rfl) (Nat.le_of_ble_eq_true rfl) ?_
      rw [show upr (upr (nwJ5 J1) 51 (cpR (nwJ5 J1 51) (nwJ5 J1 53) 108)) 53 (cpR (nwJ5 J1 53) (nwJ5 J1 51) 108) = swJ (nwJ5 J1) from rfl]
      refine zG_aload_n X dX5_parse_97 rfl ?_
      refine zj_callV0 (as2 := []) X (k_X5_saves lo (d - 1) (swJ (nwJ5 J1)) G F hF (by rw [swJ_o (by decide) (by decide), nwJ5_o (by decide), hs2]; omega) (by rw [swJ_o (by decide) (by decide), nwJ5_o (by decide), hs2]; omega)) dX5_parse_98 mv_X5_saves ml_X5_55 (by first | rfl | assumption) rfl (by first | decide | omega) rfl rfl (by show d - 1 + 1 ≤ d; omega) (by show 19 + 2 + 35 * (d - 1) ≤ 35 * (d); omega) (Nat.le_of_ble_eq_true rfl) (Nat.le_of_ble_eq_true rfl) (Nat.le_of_ble_eq_true rfl) ?_
      refine zG_aload_n X dX5_parse_101 rfl ?_
      refine zj_callV0 (as2 := []) X (k_X5_swapsAside lo (d - 1) (msJ (swJ (nwJ5 J1))) G F hF) dX5_parse_102 mv_X5_swapsAside ml_X5_166 (by first | rfl | assumption) rfl (by first | decide | omega) rfl rfl (by show d - 1 + 1 ≤ d; omega) (by show 19 + 3 + 35 * (d - 1) ≤ 35 * (d); omega) (Nat.le_of_ble_eq_true rfl) (Nat.le_of_ble_eq_true rfl) (Nat.le_of_ble_eq_true rfl) ?_
      rw [show upr (upr (msJ (swJ (nwJ5 J1))) 51 (cpR (msJ (swJ (nwJ5 J1)) 51) (msJ (swJ (nwJ5 J1)) 53) 108)) 53 (cpR (msJ (swJ (nwJ5 J1)) 53) (msJ (swJ (nwJ5 J1)) 51) 108) = swJ (msJ (swJ (nwJ5 J1))) from rfl]
      refine zG_aload_n X dX5_parse_105 rfl ?_
      refine zG_getR X dX5_parse_106 fl_X5_7 (by first | rfl | assumption) (by first | decide | omega) (by decide) rfl (by first | exact zF_at hF rfl rfl | assumption) ?_
      refine zj_iconst X dX5_parse_109 ?_
      refine zj_ialoadv (v := J1 51 0) X dX5_parse_110 (by first | rfl | assumption) (by first | decide | omega) (0) (by decide) (by decide) (hJ7) ?_
      refine zG_iret X dX5_parse_111 rfl ?_
      exact ⟨rfl, rfl, _, _, rfl, rfl, h4, Or.inl ⟨by rw [hR], by rw [hR], by rw [hR]; exact pa_yes h53 hoo⟩⟩
    · exact absurd h_47 (by first | decide | omega)
  have stN : ∀ (J1 : Nat → Nat → Int), keepA J1 (pa0 J) → (paL 6 (pa0 J) 0) = (J1, 0) → zG p l e { frames := d, cells := 0, slots := 0, locals := 35 * d } s m args below meth c D cA lo 3 0 0 (MQ below (zQ D cA lo 57 (paM (paL 6 (pa0 J) 0) J G F)) args s 0 0 (fun q => lo ≤ q)) 57 (zM (J1)) G F [some (.ref (lo + 50)), some (.int (zI 0)), none] [] 23 := by
    intro J1 hA hR
    have hsw := hA.2 50 3 (Or.inr (by decide)) (Or.inl (by decide))
    have hs2 : J1 50 3 = J 50 3 := hsw.trans (pa0_o (by decide) (by decide) (by decide))
    have h53 : ∀ i, i < 108 → J1 53 i = J 51 i := fun i hi => (hA.2 53 i (Or.inl (by decide)) (Or.inl (by decide))).trans (pa0_53 hi)
    have hoo : ∀ x i, x ≠ 53 → x ≠ 55 → ¬ (x = 50 ∧ (i = 4 ∨ 8 ≤ i)) → x ≠ 51 → J1 x i = J x i := fun x i a b c d => (hA.2 x i (by omega) (Or.inl d)).trans (pa0_o a (by omega) (by omega))
    have h504 : J1 50 4 = 0 := (hA.2 50 4 (Or.inr (by decide)) (Or.inl (by decide))).trans ((zup_ne (by decide)).trans ((zup_ne (by decide)).trans ((upr_ne (by decide)).trans zup_eq)))
    refine zG_iload_n X dX5_parse_23 rfl ?_
    refine zj_if_eq X dX5_parse_24 (tgt := 46) (by decide) (by first | decide | omega) (fun h_24 => ?_) (fun h_24 => ?_)
    · refine zG_iload_n X dX5_parse_46 rfl ?_
      refine zj_if_ne X dX5_parse_47 (tgt := 62) (by decide) (by first | decide | omega) (fun h_47 => ?_) (fun h_47 => ?_)
      · exact absurd h_47 (by first | decide | omega)
      · refine zG_aload_n X dX5_parse_50 rfl ?_
        refine zj_callV0 (as2 := []) X (k_X5_takesBack lo (d - 1) J1 G F hF) dX5_parse_51 mv_X5_takesBack ml_X5_111 (by first | rfl | assumption) rfl (by first | decide | omega) rfl rfl (by show d - 1 + 1 ≤ d; omega) (by show 19 + 2 + 35 * (d - 1) ≤ 35 * (d); omega) (Nat.le_of_ble_eq_true rfl) (Nat.le_of_ble_eq_true rfl) (Nat.le_of_ble_eq_true rfl) ?_
        refine zj_bipush X dX5_parse_54 (by decide) ?_
        refine zG_aload_n X dX5_parse_56 rfl ?_
        refine zj_getv (v := J1 50 8) X dX5_parse_57 fl_X5_145 (by first | rfl | assumption) (by first | decide | omega) (by decide) rfl (by exact upr_ne (by decide)) ?_
        refine zj_isub X dX5_parse_60 ?_
        refine zG_iret X dX5_parse_61 rfl ?_
        exact ⟨rfl, rfl, _, _, rfl, rfl, (upr_ne (by decide)).trans h504, Or.inr ⟨by rw [hR]; show (0 : Int) ≠ 1; decide, by rw [hR], tb_same h53 hoo⟩⟩
    · exact absurd h_24 (by first | decide | omega)
  have loop : ∀ (f cn : Nat) (J1 : Nat → Nat → Int), keepA J1 (pa0 J) → pwH J1 cn → (paL 6 (pa0 J) 0) = paL f J1 cn → cn + f = 6 → zG p l e { frames := d, cells := 0, slots := 0, locals := 35 * d } s m args below meth c D cA lo 3 0 0 (MQ below (zQ D cA lo 57 (paM (paL 6 (pa0 J) 0) J G F)) args s 0 0 (fun q => lo ≤ q)) 57 (zM (J1)) G F [some (.ref (lo + 50)), some (.int (zI 1)), none] [] 23 := by
    intro f
    induction f with
    | zero =>
      intro cn J1 hA hw hR hc
      have := hw.2.2.1
      omega
    | succ f ih =>
      intro cn J1 hA hw hR hc
      obtain ⟨r0, r1, r2, rT⟩ := hw.1
      refine zG_iload_n X dX5_parse_23 rfl ?_
      refine zj_if_eq X dX5_parse_24 (tgt := 46) (by decide) (by first | decide | omega) (fun h_24 => ?_) (fun h_24 => ?_)
      · exact absurd h_24 (by first | decide | omega)
      · refine zG_aload_n X dX5_parse_27 rfl ?_
        refine zj_get X dX5_parse_28 fl_X5_145 (by first | rfl | assumption) (by first | decide | omega) (by decide) rfl ?_
        refine zG_aload_n X dX5_parse_31 rfl ?_
        refine zj_get X dX5_parse_32 fl_X5_142 (by first | rfl | assumption) (by first | decide | omega) (by decide) rfl ?_
        refine zj_icmp_ge X dX5_parse_35 (tgt := 46) (by decide) (by first | decide | omega) (by first | decide | omega) (fun h_35 => ?_) (fun h_35 => ?_)
        · exact stY J1 cn hA hw (by rw [hR, paL_s, if_neg (by omega)])
        · refine zG_aload_n X dX5_parse_38 rfl ?_
          refine zj_callV1 (as2 := []) X (k_X5_takesWheel lo (d - 1) (by omega) J1 G F hF hw) dX5_parse_39 mv_X5_takesWheel ml_X5_163 (by first | rfl | assumption) rfl (by first | decide | omega) rfl rfl (by show d - 1 + 1 ≤ d; omega) (by show 19 + 3 + 35 * (d - 1) ≤ 35 * (d); omega) (Nat.le_of_ble_eq_true rfl) (Nat.le_of_ble_eq_true rfl) (Nat.le_of_ble_eq_true rfl) ?_
          by_cases hy : (weR J1 cn).2 = 1
          · rw [hy]
            refine zG_istore_n X dX5_parse_42 (by decide) rfl ?_
            refine zG_goto X dX5_parse_43 (tgt := 23) (by decide) ?_
            first
              | exact ih (cn + 1) _ (keepA_tr (keepA_we hw) hA) (weR_y hw hy) (by rw [hR, paL_s, if_pos (by omega), if_pos hy]) (by omega)
              | exact stN _ (keepA_tr (keepA_we hw) hA) (by rw [hR, paL_s, if_pos (by omega), if_neg hy])
          · rw [show (weR J1 cn).2 = 0 from by have := weR_01 (J := J1) (k := cn); omega]
            refine zG_istore_n X dX5_parse_42 (by decide) rfl ?_
            refine zG_goto X dX5_parse_43 (tgt := 23) (by decide) ?_
            first
              | exact ih (cn + 1) _ (keepA_tr (keepA_we hw) hA) (weR_y hw hy) (by rw [hR, paL_s, if_pos (by omega), if_pos hy]) (by omega)
              | exact stN _ (keepA_tr (keepA_we hw) hA) (by rw [hR, paL_s, if_pos (by omega), if_neg hy])
  refine zG_aload_n X dX5_parse_0 rfl ?_
  refine zj_iconst X dX5_parse_1 ?_
  refine zj_put X dX5_parse_2 fl_X5_26 (by first | rfl | assumption) (by first | decide | omega) (by decide) rfl rfl ?_
  refine zG_aload_n X dX5_parse_5 rfl ?_
  refine zj_callV0 (as2 := []) X (k_X5_keeps lo (d - 1) (zup J 50 4 0) G F hF) dX5_parse_6 mv_X5_keeps ml_X5_108 (by first | rfl | assumption) rfl (by first | decide | omega) rfl rfl (by show d - 1 + 1 ≤ d; omega) (by show 19 + 2 + 35 * (d - 1) ≤ 35 * (d); omega) (Nat.le_of_ble_eq_true rfl) (Nat.le_of_ble_eq_true rfl) (Nat.le_of_ble_eq_true rfl) ?_
  refine zG_aload_n X dX5_parse_9 rfl ?_
  refine zG_getR X dX5_parse_10 fl_X5_7 (by first | rfl | assumption) (by first | decide | omega) (by decide) rfl (by first | exact zF_at hF rfl rfl | assumption) ?_
  refine zj_iconst X dX5_parse_13 ?_
  refine zj_iconst X dX5_parse_14 ?_
  refine zj_iastore X dX5_parse_15 (by first | rfl | assumption) (by first | decide | omega) (0) (by decide) (by decide) ?_
  refine zG_aload_n X dX5_parse_16 rfl ?_
  refine zj_iconst X dX5_parse_17 ?_
  refine zj_put X dX5_parse_18 fl_X5_145 (by first | rfl | assumption) (by first | decide | omega) (by decide) rfl rfl ?_
  refine zj_iconst X dX5_parse_21 ?_
  refine zG_istore_n X dX5_parse_22 (by decide) rfl ?_
  exact loop 6 0 (pa0 J) ⟨hp0.1, fun _ _ _ _ => rfl⟩ hp0 rfl rfl
