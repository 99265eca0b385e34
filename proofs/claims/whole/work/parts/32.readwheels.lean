theorem zFk41 {F : Nat → Nat → Option Nat} (hF : zFk F) {x : Option Nat} : zFk (zup F 41 2 x) := by
  intro a i h
  have h8 : ¬ (a = 41 ∧ i = 2) := by
    rintro ⟨rfl, rfl⟩
    simp [zFf] at h
  rw [zup_ne h8]
  exact hF a i h
def rw0 (J : Nat → Nat → Int) (n : Int) : Nat → Nat → Int := zup (zup (zup (zup J 41 3 n) 41 4 0) 41 5 (-1)) 41 1 0
def rwL : Nat → Nat → (Nat → Nat → Int) → (Nat → Nat → Int)
  | 0, _, J => J
  | f + 1, k, J => if J 41 5 = -1 ∧ J 41 4 < J 41 3 then rwL f (k + 1) (zup (rwhJ J k) 41 1 ((k : Int) + 1)) else J
theorem rwL_s {f k : Nat} {J : Nat → Nat → Int} : rwL (f + 1) k J = if J 41 5 = -1 ∧ J 41 4 < J 41 3 then rwL f (k + 1) (zup (rwhJ J k) 41 1 ((k : Int) + 1)) else J := rfl
def rwE (J : Nat → Nat → Int) : Nat → Nat → Int := if J 41 4 < J 41 3 then rdF J (J 41 4) else J
def rwR (J : Nat → Nat → Int) (n : Int) : Nat → Nat → Int := rwE (rwL 5 0 (rw0 J n))
theorem rdOk_1 {J : Nat → Nat → Int} {F : Nat → Nat → Option Nat} {v : Int} (h : rdOk J F) : rdOk (zup J 41 1 v) F := by
  obtain ⟨ht, htx, ha1, ha2, hl1, hl2, he1, he2⟩ := h
  refine ⟨ht, fun j => by rw [zup_ot (by decide)]; exact htx j, ?_⟩
  rw [zup_oi (show 3 ≠ 1 by decide), zup_oi (show 4 ≠ 1 by decide), zup_oi (show 5 ≠ 1 by decide)]
  exact ⟨ha1, ha2, hl1, hl2, he1, he2⟩
theorem rw0_ok {J : Nat → Nat → Int} {F : Nat → Nat → Option Nat} {n : Int} (ht : F 41 2 = some 49) (htx : ∀ i, 0 ≤ J 49 i ∧ J 49 i ≤ 127) (h1 : 0 ≤ n) (h2 : n ≤ 90) : rdOk (rw0 J n) F := by
  have e3 : rw0 J n 41 3 = n := by simp [rw0, zup]
  have e4 : rw0 J n 41 4 = 0 := by simp [rw0, zup]
  have e5 : rw0 J n 41 5 = -1 := by simp [rw0, zup]
  have e9 : ∀ i, rw0 J n 49 i = J 49 i := fun i => by simp [rw0, zup]
  refine ⟨ht, fun i => by rw [e9]; exact htx i, ?_⟩
  rw [e3, e4, e5]
  omega
theorem rw0_o {J : Nat → Nat → Int} {n : Int} {x i : Nat} (h : x ≠ 41) : rw0 J n x i = J x i := by
  unfold rw0
  rw [zup_ot h, zup_ot h, zup_ot h, zup_ot h]
theorem rwStep_ok {J : Nat → Nat → Int} {F : Nat → Nat → Option Nat} {k : Nat} {v : Int} (h : rdOk J F) (hk : k < 5) (hw : rwOk J) : rdOk (zup (rwhJ J k) 41 1 v) F ∧ rwOk (zup (rwhJ J k) 41 1 v) := by
  have hn := rwhJ_ok h hk hw
  exact ⟨rdOk_1 hn.1, fun j hj => by rw [zup_ot (by omega)]; exact hn.2 j hj⟩
theorem rwL_o {x i : Nat} (h : x ≠ 41) (h2 : ¬ (43 ≤ x ∧ x ≤ 47)) : ∀ (f k : Nat) (J : Nat → Nat → Int), k + f ≤ 5 → rwL f k J x i = J x i
  | 0, _, _, _ => rfl
  | f + 1, k, J, hk => by
    rw [rwL_s]
    split
    · rw [rwL_o h h2 f (k + 1) _ (by omega), zup_ot h, rwhJ_o h (by omega)]
    · rfl
theorem rwL_c : ∀ (f k : Nat) (J : Nat → Nat → Int), k + f ≤ 5 → 0 ≤ J 41 1 → J 41 1 ≤ 5 → 0 ≤ rwL f k J 41 1 ∧ rwL f k J 41 1 ≤ 5
  | 0, _, _, _, h1, h2 => ⟨h1, h2⟩
  | f + 1, k, J, hk, h1, h2 => by
    rw [rwL_s]
    split
    · have e : zup (rwhJ J k) 41 1 ((k : Int) + 1) 41 1 = (k : Int) + 1 := by simp [zup]
      exact rwL_c f (k + 1) _ (by omega) (by rw [e]; omega) (by rw [e]; omega)
    · exact ⟨h1, h2⟩
theorem rwE_o {J : Nat → Nat → Int} {x i : Nat} (h : x ≠ 41 ∨ i ≠ 5) : rwE J x i = J x i := by
  unfold rwE rdF
  split
  · split
    · exact zup_ne (by omega)
    · rfl
  · rfl
theorem rwR_o {J : Nat → Nat → Int} {n : Int} {x i : Nat} (h : x ≠ 41) (h2 : ¬ (43 ≤ x ∧ x ≤ 47)) : rwR J n x i = J x i := by
  unfold rwR
  rw [rwE_o (Or.inl h), rwL_o h h2 5 0 _ (by decide), rw0_o h]
theorem rwR_c {J : Nat → Nat → Int} {n : Int} : 0 ≤ rwR J n 41 1 ∧ rwR J n 41 1 ≤ 5 := by
  unfold rwR
  rw [rwE_o (Or.inr (by decide))]
  have e : rw0 J n 41 1 = 0 := by simp [rw0, zup]
  exact rwL_c 5 0 _ (by decide) (by rw [e]; decide) (by rw [e]; decide)
set_option maxHeartbeats 4000000 in
set_option maxRecDepth 100000 in
theorem k_X1_readWheels (lo d : Nat) (hd : 5 ≤ d) (J : Nat → Nat → Int) (G : Nat → Nat → Int64) (F : Nat → Nat → Option Nat) (hFo : zFk F) (htx : ∀ i, 0 ≤ J 49 i ∧ J 49 i ≤ 127) {n : Int} (h1 : 0 ≤ n) (h2 : n ≤ 90) (hrw : rwOk J) : zCt lo yX1_readWheels cX1_readWheels 4 (some .int) d 0 0 [.ref (lo + 41), .ref (lo + 49), .int (zI n)] 57 57 (zM J) G F (zD [.int (zI (rwR J n 41 5))] (rwR J n) G (zup F 41 2 (some 49))) := by
  refine zCt.mk (by decide) (mv_X1_readWheels.2.2.2.1) (Nat.le_of_ble_eq_true rfl) ?_
  intro p l e s m args below meth c D cA X
  have hF : zFk (zup F 41 2 (some 49)) := zFk41 hFo
  have tail : ∀ (Jc : Nat → Nat → Int) (k : Nat), rdOk Jc (zup F 41 2 (some 49)) → rwR J n = rwE Jc → zG p l e { frames := d, cells := 0, slots := 0, locals := 35 * d } s m args below meth c D cA lo 4 0 0 (MQ below (zQ D cA lo 57 (zD [.int (zI (rwR J n 41 5))] (rwR J n) G (zup F 41 2 (some 49)))) args s 0 0 (fun q => lo ≤ q)) 57 (zM (Jc)) G (zup F 41 2 (some 49)) [some (.ref (lo + 41)), some (.ref (lo + 49)), some (.int (zI n)), some (.int (zI (k : Int)))] [] 80 := by
    intro Jc k hrc hE
    unfold rwE at hE
    obtain ⟨ht, htx9, ha1, ha2, hl1, hl2, he1, he2⟩ := hrc
    refine zG_aload_n X dX1_readWheels_80 rfl ?_
    refine zj_get X dX1_readWheels_81 fl_X1_33 (by first | rfl | assumption) (by first | decide | omega) (by decide) rfl ?_
    refine zG_aload_n X dX1_readWheels_84 rfl ?_
    refine zj_get X dX1_readWheels_85 fl_X1_29 (by first | rfl | assumption) (by first | decide | omega) (by decide) rfl ?_
    refine zj_icmp_ge X dX1_readWheels_88 (tgt := 99) (by decide) (by first | decide | omega) (by first | decide | omega) (fun h_88 => ?_) (fun h_88 => ?_)
    · refine zG_aload_n X dX1_readWheels_99 rfl ?_
      refine zj_getv (v := rwR J n 41 5) X dX1_readWheels_100 fl_X1_36 (by first | rfl | assumption) (by first | decide | omega) (by decide) rfl (by rw [hE]; first | exact congrFun (congrFun (if_pos (by omega)) 41) 5 |>.symm | exact congrFun (congrFun (if_neg (by omega)) 41) 5 |>.symm) ?_
      refine zG_iret X dX1_readWheels_103 rfl ?_
      first
        | exact zD.of rfl (hE.trans (if_pos (by omega))).symm rfl rfl
        | exact zD.of rfl (hE.trans (if_neg (by omega))).symm rfl rfl
    · refine zG_aload_n X dX1_readWheels_91 rfl ?_
      refine zG_aload_n X dX1_readWheels_92 rfl ?_
      refine zj_get X dX1_readWheels_93 fl_X1_33 (by first | rfl | assumption) (by first | decide | omega) (by decide) rfl ?_
      refine zj_callV0 (as2 := [_]) X (k_X1_fail lo (d - 1) Jc G (zup F 41 2 (some 49)) (by unfold zr; omega)) dX1_readWheels_96 mv_X1_fail ml_X1_46 (by first | rfl | assumption) rfl (by first | decide | omega) rfl rfl (by show d - 1 + 1 ≤ d; omega) (by show 19 + 2 + 35 * (d - 1) ≤ 35 * (d); omega) (Nat.le_of_ble_eq_true rfl) (Nat.le_of_ble_eq_true rfl) (Nat.le_of_ble_eq_true rfl) ?_
      refine zG_aload_n X dX1_readWheels_99 rfl ?_
      refine zj_getv (v := rwR J n 41 5) X dX1_readWheels_100 fl_X1_36 (by first | rfl | assumption) (by first | decide | omega) (by decide) rfl (by rw [hE]; first | exact congrFun (congrFun (if_pos (by omega)) 41) 5 |>.symm | exact congrFun (congrFun (if_neg (by omega)) 41) 5 |>.symm) ?_
      refine zG_iret X dX1_readWheels_103 rfl ?_
      first
        | exact zD.of rfl (hE.trans (if_pos (by omega))).symm rfl rfl
        | exact zD.of rfl (hE.trans (if_neg (by omega))).symm rfl rfl
  have loop : ∀ (q : Nat) (Jc : Nat → Nat → Int) (k : Nat), rdOk Jc (zup F 41 2 (some 49)) → rwOk Jc → rwL 5 0 (rw0 J n) = rwL q k Jc → k + q = 5 → zG p l e { frames := d, cells := 0, slots := 0, locals := 35 * d } s m args below meth c D cA lo 4 0 0 (MQ below (zQ D cA lo 57 (zD [.int (zI (rwR J n 41 5))] (rwR J n) G (zup F 41 2 (some 49)))) args s 0 0 (fun q => lo ≤ q)) 57 (zM (Jc)) G (zup F 41 2 (some 49)) [some (.ref (lo + 41)), some (.ref (lo + 49)), some (.int (zI n)), some (.int (zI (k : Int)))] [] 32 := by
    intro q
    induction q with
    | zero =>
      intro Jc k hrc hwc hall hk
      refine zG_iload_n X dX1_readWheels_32 rfl ?_
      refine zj_iconst X dX1_readWheels_33 ?_
      refine zj_icmp_ge X dX1_readWheels_34 (tgt := 80) (by decide) (by first | decide | omega) (by first | decide | omega) (fun h_34 => ?_) (fun h_34 => ?_)
      · exact tail Jc k hrc (by unfold rwR; rw [hall]; rfl)
      · exact absurd h_34 (by first | decide | omega)
    | succ q ih =>
      intro Jc k hrc hwc hall hk
      have hk5 : k < 5 := by omega
      have hfk := zF_rw hF hk5
      have hrc2 := hrc
      obtain ⟨ht, htx9, ha1, ha2, hl1, hl2, he1, he2⟩ := hrc2
      refine zG_iload_n X dX1_readWheels_32 rfl ?_
      refine zj_iconst X dX1_readWheels_33 ?_
      refine zj_icmp_ge X dX1_readWheels_34 (tgt := 80) (by decide) (by first | decide | omega) (by first | decide | omega) (fun h_34 => ?_) (fun h_34 => ?_)
      · exact absurd h_34 (by first | decide | omega)
      · refine zG_aload_n X dX1_readWheels_37 rfl ?_
        refine zj_get X dX1_readWheels_38 fl_X1_36 (by first | rfl | assumption) (by first | decide | omega) (by decide) rfl ?_
        refine zj_iconst X dX1_readWheels_41 ?_
        refine zj_icmp_ne X dX1_readWheels_42 (tgt := 80) (by decide) (by first | decide | omega) (by first | decide | omega) (fun h_42 => ?_) (fun h_42 => ?_)
        · exact tail Jc k hrc (by unfold rwR; rw [hall, rwL_s (f := q) (k := k), if_neg (by omega)])
        · refine zG_aload_n X dX1_readWheels_45 rfl ?_
          refine zj_get X dX1_readWheels_46 fl_X1_33 (by first | rfl | assumption) (by first | decide | omega) (by decide) rfl ?_
          refine zG_aload_n X dX1_readWheels_49 rfl ?_
          refine zj_get X dX1_readWheels_50 fl_X1_29 (by first | rfl | assumption) (by first | decide | omega) (by decide) rfl ?_
          refine zj_icmp_ge X dX1_readWheels_53 (tgt := 80) (by decide) (by first | decide | omega) (by first | decide | omega) (fun h_53 => ?_) (fun h_53 => ?_)
          · exact tail Jc k hrc (by unfold rwR; rw [hall, rwL_s (f := q) (k := k), if_neg (by omega)])
          · refine zG_aload_n X dX1_readWheels_56 rfl ?_
            refine zG_aload_n X dX1_readWheels_57 rfl ?_
            refine zG_getR X dX1_readWheels_58 fl_X1_13 (by first | rfl | assumption) (by first | decide | omega) (by decide) rfl (by first | exact zF_at hF rfl rfl | assumption) ?_
            refine zG_iload_n X dX1_readWheels_61 rfl ?_
            refine zj_aaload5 X dX1_readWheels_62 (by first | rfl | assumption) (by first | decide | omega) (k) (by omega) (by omega) (hfk) ?_
            refine zG_iload_n X dX1_readWheels_63 rfl ?_
            refine zj_callV0 (as2 := [_, _]) X (k_X1_readWheel lo (d - 1) (by omega) Jc G (zup F 41 2 (some 49)) hF hrc hwc (k := k) hk5) dX1_readWheels_64 mv_X1_readWheel ml_X1_42 (by first | rfl | assumption) rfl (by first | decide | omega) rfl rfl (by show d - 1 + 1 ≤ d; omega) (by show 19 + 5 + 35 * (d - 1) ≤ 35 * (d); omega) (Nat.le_of_ble_eq_true rfl) (Nat.le_of_ble_eq_true rfl) (Nat.le_of_ble_eq_true rfl) ?_
            refine zG_aload_n X dX1_readWheels_67 rfl ?_
            refine zG_iload_n X dX1_readWheels_68 rfl ?_
            refine zj_iconst X dX1_readWheels_69 ?_
            refine zj_iadd X dX1_readWheels_70 ?_
            refine zj_put X dX1_readWheels_71 fl_X1_39 (by first | rfl | assumption) (by first | decide | omega) (by decide) rfl rfl ?_
            refine zj_iinc X dX1_readWheels_74 rfl (by decide) rfl ?_
            refine zG_goto X dX1_readWheels_77 (tgt := 32) (by decide) ?_
            have hst := rwStep_ok (v := (k : Int) + 1) hrc hk5 hwc
            exact ih _ (k + 1) hst.1 hst.2 (by rw [hall, rwL_s (f := q) (k := k), if_pos (by omega)]) (by omega)
  refine zG_aload_n X dX1_readWheels_0 rfl ?_
  refine zG_aload_n X dX1_readWheels_1 rfl ?_
  refine zG_putR X dX1_readWheels_2 fl_X1_19 (by first | rfl | assumption) (by first | decide | omega) (by decide) rfl rfl rfl rfl ?_
  refine zG_aload_n X dX1_readWheels_5 rfl ?_
  refine zG_iload_n X dX1_readWheels_6 rfl ?_
  refine zG_aload_n X dX1_readWheels_7 rfl ?_
  refine zj_alen X dX1_readWheels_8 (by first | rfl | assumption) (by first | decide | omega) ?_
  refine zj_min X dX1_readWheels_9 (by decide +kernel) (by omega) (by omega) (by show 1 ≤ d; omega) (by show 21 ≤ 35 * (d); omega) (Nat.le_of_ble_eq_true rfl) (Nat.le_refl _) (Nat.le_refl _) ?_
  rw [show (if ((90 : Nat) : Int) < n then ((90 : Nat) : Int) else n) = n from if_neg (by omega)]
  refine zj_put X dX1_readWheels_12 fl_X1_29 (by first | rfl | assumption) (by first | decide | omega) (by decide) rfl rfl ?_
  refine zG_aload_n X dX1_readWheels_15 rfl ?_
  refine zj_iconst X dX1_readWheels_16 ?_
  refine zj_put X dX1_readWheels_17 fl_X1_33 (by first | rfl | assumption) (by first | decide | omega) (by decide) rfl rfl ?_
  refine zG_aload_n X dX1_readWheels_20 rfl ?_
  refine zj_iconst X dX1_readWheels_21 ?_
  refine zj_put X dX1_readWheels_22 fl_X1_36 (by first | rfl | assumption) (by first | decide | omega) (by decide) rfl rfl ?_
  refine zG_aload_n X dX1_readWheels_25 rfl ?_
  refine zj_iconst X dX1_readWheels_26 ?_
  refine zj_put X dX1_readWheels_27 fl_X1_39 (by first | rfl | assumption) (by first | decide | omega) (by decide) rfl rfl ?_
  refine zj_iconst X dX1_readWheels_30 ?_
  refine zG_istore_n X dX1_readWheels_31 (by decide) rfl ?_
  exact loop 5 _ 0 (rw0_ok rfl htx h1 h2) (fun j hj => by rw [show (zup (zup (zup (zup J 41 3 n) 41 4 0) 41 5 (-1)) 41 1 0) = rw0 J n from rfl, rw0_o (by omega)]; exact hrw j hj) rfl (by omega)
