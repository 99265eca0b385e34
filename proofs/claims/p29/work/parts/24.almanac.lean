/-! the almanac read up to today -/
def alS (hs : Nat → Int) : Int := if hs 12 < hs 1 - 60 then hs 1 - 60 else hs 12
def alJ (hs : Nat → Int) (wd : Nat → Nat → Int) (J : Nat → Nat → Int) : Nat → Int := fun i => if i < 5 then (wd i 6 + (alS hs - hs 12)) % wd i 0 else J 40 i
def alT (hs : Nat → Int) (wd : Nat → Nat → Int) : Nat → Int := fun i => if i < 5 then (wd i 6 + (alS hs - hs 12)) % wd i 0 else 0
def alR (hs : Nat → Int) (wd : Nat → Nat → Int) (sb : Nat → Bool) (p : Nat → Int) : (Nat → Int) × Int := dayN hs wd sb (hs 3) false (hs 1 - alS hs).toNat (p, 0)
theorem alT_ok {hs : Nat → Int} {wd : Nat → Nat → Int} (ok : hwOk hs wd) : pOk wd (alT hs wd) := fun k hk => by
  have h := hwOk_w ok hk
  unfold alT
  rw [if_pos hk]
  exact ⟨Int.emod_nonneg _ (by omega), Int.emod_lt_of_pos _ (by omega)⟩
theorem alJ_5 {hs : Nat → Int} {wd : Nat → Nat → Int} {J : Nat → Nat → Int} : eq5 (alJ hs wd J) (alT hs wd) := fun i hi => by
  unfold alJ alT
  rw [if_pos hi, if_pos hi]
theorem alJ_ok {hs : Nat → Int} {wd : Nat → Nat → Int} {J : Nat → Nat → Int} (ok : hwOk hs wd) : pOk wd (alJ hs wd J) := pOk_congr (fun _ _ => rfl) (fun k hk => alJ_5 k hk) (alT_ok ok)
theorem wk_bs {J : Nat → Nat → Int} {ps : Nat → Int} {x y : Int} : zup (zup (zup (upr J 40 ps) 39 2 0) 39 3 x) 39 4 y = wkJ (bsJ J 39 x y) 39 ps 0 := by
  funext a i
  by_cases h1 : a = 39
  · subst h1
    by_cases h2 : i = 2
    · subst h2; simp [wkJ, bsJ, zup, upr]
    · by_cases h3 : i = 3
      · subst h3; simp [wkJ, bsJ, zup, upr]
      · by_cases h4 : i = 4
        · subst h4; simp [wkJ, bsJ, zup, upr]
        · simp [wkJ, bsJ, zup, upr, h2, h3, h4]
  · by_cases h5 : a = 40
    · subst h5; simp [wkJ, bsJ, zup, upr]
    · simp [wkJ, bsJ, zup, upr, h1, h5]
theorem bs_wk {J : Nat → Nat → Int} {ps : Nat → Int} {wt x y : Int} : bsJ (wkJ J 37 ps wt) 39 x y = wkJ (bsJ J 39 x y) 37 ps wt := by
  funext a i
  by_cases h1 : a = 39
  · subst h1; simp [wkJ, bsJ, zup, upr]
  · by_cases h2 : a = 37
    · subst h2; simp [wkJ, bsJ, zup, upr]
    · simp [wkJ, bsJ, zup, upr, h1, h2]
theorem wk_comm {J : Nat → Nat → Int} {p q : Nat → Int} {x y : Int} : wkJ (wkJ J 39 q y) 37 p x = wkJ (wkJ J 37 p x) 39 q y := by
  funext a i
  by_cases h1 : a = 39
  · subst h1; simp [wkJ, zup, upr]
  · by_cases h2 : a = 37
    · subst h2; simp [wkJ, zup, upr]
    · by_cases h3 : a = 38
      · subst h3; simp [wkJ, zup, upr]
      · by_cases h4 : a = 40
        · subst h4; simp [wkJ, zup, upr]
        · simp [wkJ, zup, upr, h1, h2, h3, h4]
theorem k_live39 (lo d : Nat) (hd : 4 ≤ d) (B : Nat → Nat → Int) (G : Nat → Nat → Int64) (F : Nat → Nat → Option Nat) (hF : zFk F) {hs : Nat → Int} {wd : Nat → Nat → Int} {ps : Nat → Int} {wt : Int} (vh : vH B hs wd) (ok : hwOk hs wd) (po : pOk wd ps) (e3 : B 39 3 = hs 3) (e4 : B 39 4 = 0) (w1 : 0 ≤ wt) (w2 : wt ≤ 100) : zCt lo yX2_liveDay cX2_liveDay 2 (some .int) d 0 0 [.ref (lo + 39)] 57 57 (zM (wkJ B 39 ps wt)) G F (zD [.int (zI (mfate hs wd (sbC G 1) ps (hs 3) wt))] (wkJ B 39 (dayS hs wd (sbC G 1) (hs 3) false (ps, wt)).1 (dayS hs wd (sbC G 1) (hs 3) false (ps, wt)).2) G F) := by
  have hcf := ok.1
  unfold hOk at hcf
  have h := k_live lo d hd B G F hF (Or.inr rfl) vh ok po (by rw [e3]; omega) (by rw [e3]; omega) (Or.inl e4) w1 w2
  rw [e3, e4] at h
  exact h
theorem k_live37 (lo d : Nat) (hd : 4 ≤ d) (B : Nat → Nat → Int) (G : Nat → Nat → Int64) (F : Nat → Nat → Option Nat) (hF : zFk F) {hs : Nat → Int} {wd : Nat → Nat → Int} {ps q : Nat → Int} {wt v : Int} (vh : vH B hs wd) (ok : hwOk hs wd) (po : pOk wd ps) (e3 : B 37 3 = hs 3) (e4 : B 37 4 = 1) (w1 : 0 ≤ wt) (w2 : wt ≤ 100) : zCt lo yX2_liveDay cX2_liveDay 2 (some .int) d 0 0 [.ref (lo + 37)] 57 57 (zM (wkJ (wkJ B 37 ps wt) 39 q v)) G F (zD [.int (zI (mfate hs wd (sbC G 1) ps (hs 3) wt))] (wkJ (wkJ B 37 (dayS hs wd (sbC G 1) (hs 3) true (ps, wt)).1 (dayS hs wd (sbC G 1) (hs 3) true (ps, wt)).2) 39 q v) G F) := by
  have hcf := ok.1
  unfold hOk at hcf
  have e3' : wkJ B 39 q v 37 3 = hs 3 := (wkJ_o (by decide) (Or.inl (by decide))).trans e3
  have e4' : wkJ B 39 q v 37 4 = 1 := (wkJ_o (by decide) (Or.inl (by decide))).trans e4
  have h := k_live lo d hd (wkJ B 39 q v) G F hF (Or.inl rfl) (vH_wk vh (by decide)) ok po (by rw [e3']; omega) (by rw [e3']; omega) (Or.inr e4') w1 w2
  rw [e3', e4', wk_comm, wk_comm] at h
  exact h
set_option maxHeartbeats 4000000 in
set_option maxRecDepth 100000 in
theorem k_X2_readAlmanac (lo d : Nat) (hd : 5 ≤ d) (J : Nat → Nat → Int) (G : Nat → Nat → Int64) (F : Nat → Nat → Option Nat) (hF : zFk F) {hs : Nat → Int} {wd : Nat → Nat → Int} (vh : vH J hs wd) (ok : hwOk hs wd) : zCt lo yX2_readAlmanacUntilToday cX2_readAlmanacUntilToday 3 none d 0 0 [.ref (lo + 39)] 57 57 (zM J) G F (zD [] (wkJ (bsJ J 39 (hs 3) 0) 39 (alR hs wd (sbC G 1) (alJ hs wd J)).1 (alR hs wd (sbC G 1) (alJ hs wd J)).2) G F) := by
  refine zCt.mk (by decide) (mv_X2_readAlmanacUntilToday.2.2.2.1) (Nat.le_of_ble_eq_true rfl) ?_
  intro p l e s m args below meth c D cA X
  have hcf := ok.1
  unfold hOk at hcf
  have hJ3 : J 1 4 = hs 3 := vh.1 3 (by decide)
  have hJ0 : J 1 1 = hs 0 := vh.1 0 (by decide)
  have hJd : J 1 2 = hs 1 := vh.1 1 (by decide)
  have hJp : J 1 14 = hs 12 := vh.1 12 (by decide)
  have vb : vH (bsJ J 39 (hs 3) 0) hs wd := vH_bs vh (Or.inr rfl)
  have hal : alS hs = hs 12 ∨ alS hs = hs 1 - 60 ∧ hs 12 < hs 1 - 60 := by unfold alS; split <;> omega
  have hal2 : hs 12 ≤ alS hs ∧ hs 1 - 60 ≤ alS hs ∧ alS hs ≤ hs 1 := by unfold alS; split <;> omega
  have pk0 := alJ_ok (J := J) ok
  have loop2 : ∀ (q k : Nat), k + q = (hs 1 - alS hs).toNat → zG p l e { frames := d, cells := 0, slots := 0, locals := 35 * d } s m args below meth c D cA lo 3 0 0 (MQ below (zQ D cA lo 57 (zD [] (wkJ (bsJ J 39 (hs 3) 0) 39 (alR hs wd (sbC G 1) (alJ hs wd J)).1 (alR hs wd (sbC G 1) (alJ hs wd J)).2) G F)) args s 0 0 (fun q => lo ≤ q)) 57 (zM (wkJ (bsJ J 39 (hs 3) 0) 39 (dayN hs wd (sbC G 1) (hs 3) false k (alJ hs wd J, 0)).1 (dayN hs wd (sbC G 1) (hs 3) false k (alJ hs wd J, 0)).2)) G F [some (.ref (lo + 39)), some (.int (zI (alS hs))), some (.int (zI (alS hs + (k : Int))))] [] 80 := by
    intro q
    induction q with
    | zero =>
      intro k  hk
      have hJd9 : wkJ (bsJ J 39 (hs 3) 0) 39 (dayN hs wd (sbC G 1) (hs 3) false k (alJ hs wd J, 0)).1 (dayN hs wd (sbC G 1) (hs 3) false k (alJ hs wd J, 0)).2 1 2 = hs 1 := (wkJ_o (by decide) (Or.inl (by decide))).trans ((sameB_bs (Or.inr rfl) 1 2 (by omega)).trans hJd)
      refine zG_iload_n X dX2_readAlmanacUntilToday_80 rfl ?_
      refine zG_aload_n X dX2_readAlmanacUntilToday_81 rfl ?_
      refine zG_getR X dX2_readAlmanacUntilToday_82 fl_X2_9 (by first | rfl | assumption) (by first | decide | omega) (by decide) rfl (by first | exact zF_at hF rfl rfl | assumption) ?_
      refine zj_getv (v := hs 1) X dX2_readAlmanacUntilToday_85 fl_X2_46 (by first | rfl | assumption) (by first | decide | omega) (by decide) rfl (by exact hJd9) ?_
      refine zj_icmp_ge X dX2_readAlmanacUntilToday_88 (tgt := 102) (by decide) (by first | decide | omega) (by first | decide | omega) (fun h_88 => ?_) (fun h_88 => ?_)
      · refine zG_vret X dX2_readAlmanacUntilToday_102 rfl ?_
        obtain rfl : k = (hs 1 - alS hs).toNat := by omega
        exact zD.rf
      · exact absurd h_88 (by first | decide | omega)
    | succ q ih =>
      intro k  hk
      have hJd9 : wkJ (bsJ J 39 (hs 3) 0) 39 (dayN hs wd (sbC G 1) (hs 3) false k (alJ hs wd J, 0)).1 (dayN hs wd (sbC G 1) (hs 3) false k (alJ hs wd J, 0)).2 1 2 = hs 1 := (wkJ_o (by decide) (Or.inl (by decide))).trans ((sameB_bs (Or.inr rfl) 1 2 (by omega)).trans hJd)
      have hdn := dayN_ok (sb := sbC G 1) (lag := hs 3) (sk := false) (r := (alJ hs wd J, 0)) ok pk0 ⟨Int.le_refl _, (by show (0 : Int) ≤ 100; decide)⟩ k
      refine zG_iload_n X dX2_readAlmanacUntilToday_80 rfl ?_
      refine zG_aload_n X dX2_readAlmanacUntilToday_81 rfl ?_
      refine zG_getR X dX2_readAlmanacUntilToday_82 fl_X2_9 (by first | rfl | assumption) (by first | decide | omega) (by decide) rfl (by first | exact zF_at hF rfl rfl | assumption) ?_
      refine zj_getv (v := hs 1) X dX2_readAlmanacUntilToday_85 fl_X2_46 (by first | rfl | assumption) (by first | decide | omega) (by decide) rfl (by exact hJd9) ?_
      refine zj_icmp_ge X dX2_readAlmanacUntilToday_88 (tgt := 102) (by decide) (by first | decide | omega) (by first | decide | omega) (fun h_88 => ?_) (fun h_88 => ?_)
      · exact absurd h_88 (by first | decide | omega)
      · refine zG_aload_n X dX2_readAlmanacUntilToday_91 rfl ?_
        refine zj_callV1 (as2 := []) X (k_live39 lo (d - 1) (by omega) (bsJ J 39 (hs 3) 0) G F hF vb ok hdn.1 (by simp [bsJ, zup]) (by simp [bsJ, zup]) hdn.2.1 hdn.2.2) dX2_readAlmanacUntilToday_92 mv_X2_liveDay ml_X2_59 (by first | rfl | assumption) rfl (by first | decide | omega) rfl rfl (by show d - 1 + 1 ≤ d; omega) (by show 19 + 2 + 35 * (d - 1) ≤ 35 * (d); omega) (Nat.le_of_ble_eq_true rfl) (Nat.le_of_ble_eq_true rfl) (Nat.le_of_ble_eq_true rfl) ?_
        refine zG_pop X dX2_readAlmanacUntilToday_95 rfl ?_
        refine zj_iinc X dX2_readAlmanacUntilToday_96 rfl (by decide) rfl ?_
        refine zG_goto X dX2_readAlmanacUntilToday_99 (tgt := 80) (by decide) ?_
        have hi := ih (k + 1) (by omega)
        rw [show alS hs + ((k + 1 : Nat) : Int) = alS hs + (k : Int) + 1 by omega] at hi
        exact hi
  have loop1 : ∀ (q k : Nat), k + q = 5 → zG p l e { frames := d, cells := 0, slots := 0, locals := 35 * d } s m args below meth c D cA lo 3 0 0 (MQ below (zQ D cA lo 57 (zD [] (wkJ (bsJ J 39 (hs 3) 0) 39 (alR hs wd (sbC G 1) (alJ hs wd J)).1 (alR hs wd (sbC G 1) (alJ hs wd J)).2) G F)) args s 0 0 (fun q => lo ≤ q)) 57 (zM (upr J 40 (fun i => if i < k then alJ hs wd J i else J 40 i))) G F [some (.ref (lo + 39)), some (.int (zI (alS hs))), some (.int (zI (k : Int)))] [] 23 := by
    intro q
    induction q with
    | zero =>
      intro k  hk
      have hu40 : ∀ x i, x ≠ 40 → (upr J 40 (fun i => if i < k then alJ hs wd J i else J 40 i)) x i = J x i := fun x i h => upr_ne h
      refine zG_iload_n X dX2_readAlmanacUntilToday_23 rfl ?_
      refine zj_iconst X dX2_readAlmanacUntilToday_24 ?_
      refine zj_icmp_ge X dX2_readAlmanacUntilToday_25 (tgt := 57) (by decide) (by first | decide | omega) (by first | decide | omega) (fun h_25 => ?_) (fun h_25 => ?_)
      · refine zG_aload_n X dX2_readAlmanacUntilToday_57 rfl ?_
        refine zj_iconst X dX2_readAlmanacUntilToday_58 ?_
        refine zj_put X dX2_readAlmanacUntilToday_59 fl_X2_34 (by first | rfl | assumption) (by first | decide | omega) (by decide) rfl rfl ?_
        refine zG_aload_n X dX2_readAlmanacUntilToday_62 rfl ?_
        refine zG_aload_n X dX2_readAlmanacUntilToday_63 rfl ?_
        refine zG_getR X dX2_readAlmanacUntilToday_64 fl_X2_9 (by first | rfl | assumption) (by first | decide | omega) (by decide) rfl (by first | exact zF_at hF rfl rfl | assumption) ?_
        refine zj_getv (v := hs 3) X dX2_readAlmanacUntilToday_67 fl_X2_35 (by first | rfl | assumption) (by first | decide | omega) (by decide) rfl (by exact (zup_ot (by decide)).trans ((hu40 1 4 (by decide)).trans hJ3)) ?_
        refine zj_put X dX2_readAlmanacUntilToday_70 fl_X2_38 (by first | rfl | assumption) (by first | decide | omega) (by decide) rfl rfl ?_
        refine zG_aload_n X dX2_readAlmanacUntilToday_73 rfl ?_
        refine zj_iconst X dX2_readAlmanacUntilToday_74 ?_
        refine zj_putZ X dX2_readAlmanacUntilToday_75 fl_X2_39 (by first | rfl | assumption) (by first | decide | omega) (by decide) rfl rfl (by first | exact Or.inl rfl | exact Or.inr rfl | assumption) ?_
        obtain rfl : k = 5 := by omega
        have hW : zup (zup (zup (upr J 40 (fun i => if i < 5 then alJ hs wd J i else J 40 i)) 39 2 0) 39 3 (hs 3)) 39 4 0 = wkJ (bsJ J 39 (hs 3) 0) 39 (alJ hs wd J) 0 := by
          rw [show (upr J 40 (fun i => if i < 5 then alJ hs wd J i else J 40 i)) = upr J 40 (alJ hs wd J) from upr_congr (fun i => by by_cases h : i < 5 <;> simp [h, alJ])]
          exact wk_bs
        rw [hW]
        have h0 := loop2 (hs 1 - alS hs).toNat 0 (by omega)
        rw [show alS hs + ((0 : Nat) : Int) = alS hs by omega] at h0
        refine zG_iload_n X dX2_readAlmanacUntilToday_78 rfl ?_
        refine zG_istore_n X dX2_readAlmanacUntilToday_79 (by decide) rfl ?_
        exact h0
      · exact absurd h_25 (by first | decide | omega)
    | succ q ih =>
      intro k  hk
      have hu40 : ∀ x i, x ≠ 40 → (upr J 40 (fun i => if i < k then alJ hs wd J i else J 40 i)) x i = J x i := fun x i h => upr_ne h
      have hk5 : k < 5 := by omega
      have hw1 := hwOk_w ok hk5
      have hsw := zSh_w hk5
      have hnw : 3 + k < 57 := by omega
      have hfw := zF_w1 hF hk5
      have hw6 : (upr J 40 (fun i => if i < k then alJ hs wd J i else J 40 i)) (3 + k) 6 = wd k 6 := (hu40 _ _ (by omega)).trans (vh.2 k 6 hk5)
      have hw0 : (upr J 40 (fun i => if i < k then alJ hs wd J i else J 40 i)) (3 + k) 0 = wd k 0 := (hu40 _ _ (by omega)).trans (vh.2 k 0 hk5)
      have hp9 : (upr J 40 (fun i => if i < k then alJ hs wd J i else J 40 i)) 1 14 = hs 12 := (hu40 _ _ (by decide)).trans hJp
      refine zG_iload_n X dX2_readAlmanacUntilToday_23 rfl ?_
      refine zj_iconst X dX2_readAlmanacUntilToday_24 ?_
      refine zj_icmp_ge X dX2_readAlmanacUntilToday_25 (tgt := 57) (by decide) (by first | decide | omega) (by first | decide | omega) (fun h_25 => ?_) (fun h_25 => ?_)
      · exact absurd h_25 (by first | decide | omega)
      · refine zG_aload_n X dX2_readAlmanacUntilToday_28 rfl ?_
        refine zG_getR X dX2_readAlmanacUntilToday_29 fl_X2_15 (by first | rfl | assumption) (by first | decide | omega) (by decide) rfl (by first | exact zF_at hF rfl rfl | assumption) ?_
        refine zG_iload_n X dX2_readAlmanacUntilToday_32 rfl ?_
        refine zG_aload_n X dX2_readAlmanacUntilToday_33 rfl ?_
        refine zG_getR X dX2_readAlmanacUntilToday_34 fl_X2_9 (by first | rfl | assumption) (by first | decide | omega) (by decide) rfl (by first | exact zF_at hF rfl rfl | assumption) ?_
        refine zG_aload_n X dX2_readAlmanacUntilToday_37 rfl ?_
        refine zG_getR X dX2_readAlmanacUntilToday_38 fl_X2_9 (by first | rfl | assumption) (by first | decide | omega) (by decide) rfl (by first | exact zF_at hF rfl rfl | assumption) ?_
        refine zG_getR X dX2_readAlmanacUntilToday_41 fl_X2_19 (by first | rfl | assumption) (by first | decide | omega) (by decide) rfl (by first | exact zF_at hF rfl rfl | assumption) ?_
        refine zG_iload_n X dX2_readAlmanacUntilToday_44 rfl ?_
        refine zj_aaload5 X dX2_readAlmanacUntilToday_45 (by first | rfl | assumption) (by first | decide | omega) (k) (by omega) (by omega) (hfw) ?_
        refine zG_iload_n X dX2_readAlmanacUntilToday_46 rfl ?_
        refine zj_callV1 (as2 := [_, _]) X (by have h7 := k_X0_almanacPosition lo (d - 1) (by omega) (upr J 40 (fun i => if i < k then alJ hs wd J i else J 40 i)) G F hsw hnw (o := alS hs) (by rw [hw6, hp9]; unfold zr; omega) (by rw [hw0]; omega) (by rw [hw0]; unfold zr; omega); rw [hw6, hp9, hw0] at h7; exact h7) dX2_readAlmanacUntilToday_47 mv_X0_almanacPosition ml_X2_55 (by first | rfl | assumption) rfl (by first | decide | omega) rfl rfl (by show d - 1 + 1 ≤ d; omega) (by show 19 + 3 + 35 * (d - 1) ≤ 35 * (d); omega) (Nat.le_of_ble_eq_true rfl) (Nat.le_of_ble_eq_true rfl) (Nat.le_of_ble_eq_true rfl) ?_
        refine zj_iastore X dX2_readAlmanacUntilToday_50 (by first | rfl | assumption) (by first | decide | omega) (k) (by omega) (by omega) ?_
        refine zj_iinc X dX2_readAlmanacUntilToday_51 rfl (by decide) rfl ?_
        refine zG_goto X dX2_readAlmanacUntilToday_54 (tgt := 23) (by decide) ?_
        have hi := ih (k + 1) (by omega)
        rw [zup_upr]
        rw [show (upr J 40 (fun i => if i < k + 1 then alJ hs wd J i else J 40 i)) = upr J 40 (fun i => if i = k then (wd k 6 + (alS hs - hs 12)) % wd k 0 else if i < k then alJ hs wd J i else J 40 i) from upr_congr (fun i => by
          by_cases h1 : i = k
          · subst h1
            simp [alJ, hk5]
          · by_cases h2 : i < k
            · simp [h1, h2, show i < k + 1 by omega]
            · simp [h1, h2, show ¬ i < k + 1 by omega])] at hi
        exact hi
  refine zG_aload_n X dX2_readAlmanacUntilToday_0 rfl ?_
  refine zG_getR X dX2_readAlmanacUntilToday_1 fl_X2_9 (by first | rfl | assumption) (by first | decide | omega) (by decide) rfl (by first | exact zF_at hF rfl rfl | assumption) ?_
  refine zj_getv (v := hs 12) X dX2_readAlmanacUntilToday_4 fl_X2_43 (by first | rfl | assumption) (by first | decide | omega) (by decide) rfl (hJp) ?_
  refine zG_aload_n X dX2_readAlmanacUntilToday_7 rfl ?_
  refine zG_getR X dX2_readAlmanacUntilToday_8 fl_X2_9 (by first | rfl | assumption) (by first | decide | omega) (by decide) rfl (by first | exact zF_at hF rfl rfl | assumption) ?_
  refine zj_getv (v := hs 1) X dX2_readAlmanacUntilToday_11 fl_X2_46 (by first | rfl | assumption) (by first | decide | omega) (by decide) rfl (hJd) ?_
  refine zj_bipush X dX2_readAlmanacUntilToday_14 (by decide) ?_
  refine zj_isub X dX2_readAlmanacUntilToday_16 ?_
  refine zj_max X dX2_readAlmanacUntilToday_17 (by decide +kernel) (by omega) (by omega) (by show 1 ≤ d; omega) (by show 21 ≤ 35 * (d); omega) (Nat.le_of_ble_eq_true rfl) (Nat.le_refl _) (Nat.le_refl _) ?_
  rw [show (if hs 12 < hs 1 - 60 then hs 1 - 60 else hs 12) = alS hs from rfl]
  refine zG_istore_n X dX2_readAlmanacUntilToday_20 (by decide) rfl ?_
  refine zj_iconst X dX2_readAlmanacUntilToday_21 ?_
  refine zG_istore_n X dX2_readAlmanacUntilToday_22 (by decide) rfl ?_
  have h0 := loop1 5 0 (by omega)
  rw [show (upr J 40 (fun i => if i < 0 then alJ hs wd J i else J 40 i)) = J from (upr_congr (fun i => if_neg (Nat.not_lt_zero i))).trans upr_self] at h0
  exact h0
set_option maxHeartbeats 4000000 in
set_option maxRecDepth 100000 in
theorem k_X4_print (lo d : Nat) (hd : 3 ≤ d) (J : Nat → Nat → Int) (G : Nat → Nat → Int64) (F : Nat → Nat → Option Nat) (hF : zFk F) {b : Nat → Nat} (hb : bOk F b) (hs1 : 0 ≤ J 0 2) (hs2 : J 0 2 ≤ 4) (hc : cOk J 1) : zCt lo yX4_print cX4_print 2 (some .int) d 0 0 [.ref (lo + 0)] 57 57 (zM J) G F (svP J G F b prA [.int (zI (J 1 14))]) := by
  refine zCt.mk (by decide) (mv_X4_print.2.2.2.1) (Nat.le_of_ble_eq_true rfl) ?_
  intro p l e s m args below meth c D cA X
  have hcf := cOk_f hc
  refine zG_aload_n X dX4_print_0 rfl ?_
  refine zG_callV (as2 := []) rfl X (k_X4_save lo (d - 1) (by omega) J G F hF hb hs1 hs2) dX4_print_1 mv_X4_save ml_X4_59 (by first | rfl | assumption) rfl (by first | decide | omega) rfl (by show d - 1 + 1 ≤ d; omega) (by show 19 + 1 + 35 * (d - 1) ≤ 35 * (d); omega) (Nat.le_of_ble_eq_true rfl) (Nat.le_of_ble_eq_true rfl) (Nat.le_of_ble_eq_true rfl) ?_
  rintro v9 I3 G1 F1 ⟨rfl, J1, b1, rfl, hF1, hb1, h41, hsv⟩
  have hq := hsv.2.2.2.1
  have hqg := hsv.2.2.2.2
  have hc1 : J1 1 1 = J 1 1 := hq 1 1 (by decide) (Or.inl (by decide))
  refine zG_aload_n X dX4_print_4 rfl ?_
  refine zG_getR X dX4_print_5 fl_X4_10 (by first | rfl | assumption) (by first | decide | omega) (by decide) rfl (by exact zF_at hF1 rfl rfl) ?_
  refine zj_getv (v := J 1 14) X dX4_print_8 fl_X4_75 (by first | rfl | assumption) (by first | decide | omega) (by decide) rfl (by exact hq 1 14 (by decide) (Or.inl (by decide))) ?_
  refine zG_istore_n X dX4_print_11 (by decide) rfl ?_
  refine zG_aload_n X dX4_print_12 rfl ?_
  refine zG_getR X dX4_print_13 fl_X4_10 (by first | rfl | assumption) (by first | decide | omega) (by decide) rfl (by exact zF_at hF1 rfl rfl) ?_
  refine zj_callV0 (as2 := []) X (k_X0_printAlmanac lo (d - 1) J1 G1 F1 hF1 (by omega) (by omega)) dX4_print_16 mv_X0_printAlmanac ml_X4_177 (by first | rfl | assumption) rfl (by first | decide | omega) rfl rfl (by show d - 1 + 1 ≤ d; omega) (by show 19 + 2 + 35 * (d - 1) ≤ 35 * (d); omega) (Nat.le_of_ble_eq_true rfl) (Nat.le_of_ble_eq_true rfl) (Nat.le_of_ble_eq_true rfl) ?_
  refine zG_iload_n X dX4_print_19 rfl ?_
  refine zG_iret X dX4_print_20 rfl ?_
  exact ⟨rfl, J1, b1, rfl, hF1, hb1, h41, hsv⟩
