
theorem ts_bit {w : Int64} {s : UInt64} {j : Nat} (hj : j < 64) (hs : s.toNat = j) : ((w.toUInt64 >>> s).toInt64 &&& 1) = 0 ↔ w.toBitVec.getLsbD j = false := by
  have e : (w.toUInt64 >>> s).toInt64.toBitVec = w.toBitVec >>> j := by
    apply BitVec.eq_of_toNat_eq
    show (w.toUInt64 >>> s).toNat = _
    rw [UInt64.toNat_shiftRight, hs, Nat.mod_eq_of_lt hj, BitVec.toNat_ushiftRight]
    rfl
  rw [← Int64.toBitVec_inj, Int64.toBitVec_and, e]
  show w.toBitVec >>> j &&& 1#64 = 0#64 ↔ _
  constructor
  · intro h
    have t := congrArg (fun x => x.getLsbD 0) h
    simpa using t
  · intro h
    apply BitVec.eq_of_getLsbD_eq
    intro i hi
    cases i with
    | zero => simp [h]
    | succ i => simp
theorem wb_cu : ∀ k, k < 64 → ((nI k).toInt64.toUInt64 &&& Int64.toUInt64 63) = UInt64.ofNat k := by decide +kernel
def sbC (G : Nat → Nat → Int64) (h : Nat) : Nat → Bool := fun t => (G h 9).toBitVec.getLsbD t
theorem sb_bit {x : Int64} {a : Int} (h : 0 ≤ a) (h2 : a < 64) : ((x.toUInt64 >>> ((zI a).toInt64.toUInt64 &&& Int64.toUInt64 63)).toInt64 &&& lI 1) = lI 0 ↔ x.toBitVec.getLsbD a.toNat = false := by
  obtain ⟨k, rfl⟩ := Int.eq_ofNat_of_zero_le h
  rw [show zI (k : Int) = nI k from Int32.ofInt_eq_ofNat, wb_cu k (by omega)]
  exact ts_bit (w := x) (s := UInt64.ofNat k) (j := k) (by omega) (by rw [UInt64.toNat_ofNat_of_lt' (by show k < 18446744073709551616; omega)])
/-! a house and a walk, seen as numbers -/
def vH (J : Nat → Nat → Int) (hs : Nat → Int) (wd : Nat → Nat → Int) : Prop := (∀ j, j < 13 → hsC J 1 j = hs j) ∧ ∀ k i, k < 5 → J (3 + k) i = wd k i
def vW (J : Nat → Nat → Int) (w : Nat) (p : Nat → Int) (lag wt : Int) : Prop := (∀ i, J (w + 1) i = p i) ∧ J w 3 = lag ∧ J w 2 = wt
def hwOk (hs : Nat → Int) (wd : Nat → Nat → Int) : Prop := hOk hs ∧ ∀ k, k < 5 → wOk (wd k) k
theorem hwOk_w {hs : Nat → Int} {wd : Nat → Nat → Int} (h : hwOk hs wd) {k : Nat} (hk : k < 5) : 2 ≤ wd k 0 ∧ wd k 0 ≤ 60 ∧ 0 ≤ wd k 1 ∧ wd k 1 < wd k 0 ∧ 0 ≤ wd k 2 ∧ wd k 2 < wd k 0 ∧ -1 ≤ wd k 3 ∧ wd k 3 < k ∧ -1 ≤ wd k 4 ∧ wd k 4 < 60 ∧ -1 ≤ wd k 5 ∧ wd k 5 ≤ 1 ∧ 0 ≤ wd k 6 ∧ wd k 6 < wd k 0 := h.2 k hk
theorem vH_ok {J : Nat → Nat → Int} {hs : Nat → Int} {wd : Nat → Nat → Int} (v : vH J hs wd) (h : hwOk hs wd) : cOk J 1 := by
  refine ⟨?_, fun k hk => ?_⟩
  · have e : ∀ j, j < 13 → hsC J 1 j = hs j := v.1
    have q := h.1
    unfold hOk at q ⊢
    rw [e 0 (by decide), e 1 (by decide), e 2 (by decide), e 3 (by decide), e 4 (by decide), e 5 (by decide), e 6 (by decide), e 7 (by decide), e 8 (by decide), e 9 (by decide), e 10 (by decide), e 11 (by decide), e 12 (by decide)]
    exact q
  · have e : ∀ i, wdC J 1 k i = wd k i := fun i => v.2 k i hk
    have q := h.2 k hk
    unfold wOk at q ⊢
    rw [e 0, e 1, e 2, e 3, e 4, e 5, e 6]
    exact q
theorem mvp_congr {wd wd2 : Nat → Nat → Int} {sk : Bool} {p : Nat → Int} (h : ∀ k i, k < 5 → wd k i = wd2 k i) : ∀ n, n ≤ 5 → mvp wd sk n p = mvp wd2 sk n p
  | 0, _ => rfl
  | n + 1, hn => by
    have ih := mvp_congr (sk := sk) (p := p) h n (by omega)
    funext j
    show (if j = n then (mvp wd sk n p n + mvS wd sk (mvp wd sk n p) n) % wd n 0 else mvp wd sk n p j) = (if j = n then (mvp wd2 sk n p n + mvS wd2 sk (mvp wd2 sk n p) n) % wd2 n 0 else mvp wd2 sk n p j)
    have e : mvS wd sk (mvp wd2 sk n p) n = mvS wd2 sk (mvp wd2 sk n p) n := by
      unfold mvS
      rw [h n 3 (by omega), h n 4 (by omega), h n 5 (by omega)]
    rw [ih, e, h n 0 (by omega)]
theorem pOk_congr {wd wd2 : Nat → Nat → Int} {p p2 : Nat → Int} (h : ∀ k, k < 5 → wd k 0 = wd2 k 0) (h2 : ∀ k, k < 5 → p k = p2 k) (q : pOk wd2 p2) : pOk wd p := fun k hk => by
  rw [h k hk, h2 k hk]
  exact q k hk
set_option maxHeartbeats 4000000 in
set_option maxRecDepth 100000 in
theorem k_X2_isDryAround (lo d : Nat) (J : Nat → Nat → Int) (G : Nat → Nat → Int64) (F : Nat → Nat → Option Nat) {a b e : Int} (ha : -10000 ≤ a ∧ a ≤ 10000) (hb : zr b) (he : zr e) : zCt lo yX2_isDryAround cX2_isDryAround 3 (some .boolean) d 0 0 [.int (zI a), .int (zI b), .int (zI e)] 57 57 (zM J) G F (zD [.int (zI (if e < a - 120 ∨ a + 120 < b then 1 else 0))] J G F) := by
  refine zCt.mk (by decide) (ms_X2_isDryAround.2.2.1) (Nat.le_of_ble_eq_true rfl) ?_
  intro p l e s m args below meth c D cA X
  refine zG_iload_n X dX2_isDryAround_0 rfl ?_
  refine zG_iload_n X dX2_isDryAround_1 rfl ?_
  refine zj_bipush X dX2_isDryAround_2 (by decide) ?_
  refine zj_isub X dX2_isDryAround_4 ?_
  refine zj_icmp_lt X dX2_isDryAround_5 (tgt := 16) (by decide) (by first | decide | omega) (by first | decide | omega) (fun h_5 => ?_) (fun h_5 => ?_)
  · refine zj_iconst X dX2_isDryAround_16 ?_
    refine zG_goto X dX2_isDryAround_17 (tgt := 21) (by decide) ?_
    refine zG_zret X dX2_isDryAround_21 rfl (by first | rfl | assumption) ?_
    exact zD.of (by (repeat' split) <;> first | rfl | omega) rfl rfl rfl
  · refine zG_iload_n X dX2_isDryAround_8 rfl ?_
    refine zG_iload_n X dX2_isDryAround_9 rfl ?_
    refine zj_bipush X dX2_isDryAround_10 (by decide) ?_
    refine zj_iadd X dX2_isDryAround_12 ?_
    refine zj_icmp_le X dX2_isDryAround_13 (tgt := 20) (by decide) (by first | decide | omega) (by first | decide | omega) (fun h_13 => ?_) (fun h_13 => ?_)
    · refine zj_iconst X dX2_isDryAround_20 ?_
      refine zG_zret X dX2_isDryAround_21 rfl (by first | rfl | assumption) ?_
      exact zD.of (by (repeat' split) <;> first | rfl | omega) rfl rfl rfl
    · refine zj_iconst X dX2_isDryAround_16 ?_
      refine zG_goto X dX2_isDryAround_17 (tgt := 21) (by decide) ?_
      refine zG_zret X dX2_isDryAround_21 rfl (by first | rfl | assumption) ?_
      exact zD.of (by (repeat' split) <;> first | rfl | omega) rfl rfl rfl
set_option maxHeartbeats 4000000 in
set_option maxRecDepth 100000 in
theorem k_X2_firstHighWater (lo d : Nat) (hd : 1 ≤ d) (J : Nat → Nat → Int) (G : Nat → Nat → Int64) (F : Nat → Nat → Option Nat) (hF : zFk F) {w : Nat} (hw : w = 37 ∨ w = 39) {hs : Nat → Int} {wd : Nat → Nat → Int} {ps : Nat → Int} {lag wt : Int} (vh : vH J hs wd) (vw : vW J w ps lag wt) (ok : hwOk hs wd) (po : pOk wd ps) (l1 : 0 ≤ lag) (l2 : lag < 720) : zCt lo yX2_firstHighWater cX2_firstHighWater 3 (some .int) d 0 0 [.ref (lo + w)] 57 57 (zM J) G F (zD [.int (zI (if 0 < hs 0 then mhigh hs wd ps lag else -1))] J G F) := by
  refine zCt.mk (by decide) (mv_X2_firstHighWater.2.2.2.1) (Nat.le_of_ble_eq_true rfl) ?_
  intro p l e s m args below meth c D cA X
  have hsw : zShape[w]? = some (.inl 2) := by rcases hw with rfl | rfl <;> rfl
  have hsp : zShape[w + 1]? = some (.inr (0, 5)) := by rcases hw with rfl | rfl <;> rfl
  have hwn : w + 1 < 57 := by omega
  have hfh : F w 0 = some 1 := by rcases hw with rfl | rfl <;> exact zF_at hF rfl rfl
  have hfp : F w 1 = some (w + 1) := by rcases hw with rfl | rfl <;> exact zF_at hF rfl rfl
  have hcf := ok.1
  unfold hOk at hcf
  have hJ0 : J 1 1 = hs 0 := vh.1 0 (by decide)
  refine zG_aload_n X dX2_firstHighWater_0 rfl ?_
  refine zG_getR X dX2_firstHighWater_1 fl_X2_9 (by first | rfl | assumption) (by first | decide | omega) (by decide) rfl (by first | exact zF_at hF rfl rfl | assumption) ?_
  refine zG_aload_n X dX2_firstHighWater_4 rfl ?_
  refine zG_getR X dX2_firstHighWater_5 fl_X2_9 (by first | rfl | assumption) (by first | decide | omega) (by decide) rfl (by first | exact zF_at hF rfl rfl | assumption) ?_
  refine zj_getv (v := hs 2) X dX2_firstHighWater_8 fl_X2_98 (by first | rfl | assumption) (by first | decide | omega) (by decide) rfl (vh.1 2 (by decide)) ?_
  refine zj_callV1 (as2 := [_]) X (k_X0_has lo (d - 1) J G F (by omega) (by rw [show J 1 1 = hs 0 from vh.1 0 (by decide)]; omega)) dX2_firstHighWater_11 mv_X0_has ml_X2_101 (by first | rfl | assumption) rfl (by first | decide | omega) rfl rfl (by show d - 1 + 1 ≤ d; omega) (by show 19 + 2 + 35 * (d - 1) ≤ 35 * (d); omega) (Nat.le_of_ble_eq_true rfl) (Nat.le_of_ble_eq_true rfl) (Nat.le_of_ble_eq_true rfl) ?_
  by_cases hm : 0 ≤ hs 2 ∧ hs 2 < J 1 1
  · have hm2 : hs 2 < hs 0 := by omega
    have hs3 := zSh_w (i := (hs 2).toNat) (by omega)
    have hwk := hwOk_w ok (k := (hs 2).toNat) (by omega)
    have hpk := po (hs 2).toNat (by omega)
    have hq1 : 0 ≤ ps (hs 2).toNat * 1440 / wd (hs 2).toNat 0 := Int.ediv_nonneg (by omega) (by omega)
    have hq2 : ps (hs 2).toNat * 1440 / wd (hs 2).toNat 0 < 1440 := Int.ediv_lt_of_lt_mul (by omega) (by omega)
    rw [if_pos hm]
    refine zj_if_ne X dX2_firstHighWater_14 (tgt := 19) (by decide) (by first | decide | omega) (fun h_14 => ?_) (fun h_14 => ?_)
    · refine zG_aload_n X dX2_firstHighWater_19 rfl ?_
      refine zG_getR X dX2_firstHighWater_20 fl_X2_9 (by first | rfl | assumption) (by first | decide | omega) (by decide) rfl (by first | exact zF_at hF rfl rfl | assumption) ?_
      refine zG_getR X dX2_firstHighWater_23 fl_X2_19 (by first | rfl | assumption) (by first | decide | omega) (by decide) rfl (by first | exact zF_at hF rfl rfl | assumption) ?_
      refine zG_aload_n X dX2_firstHighWater_26 rfl ?_
      refine zG_getR X dX2_firstHighWater_27 fl_X2_9 (by first | rfl | assumption) (by first | decide | omega) (by decide) rfl (by first | exact zF_at hF rfl rfl | assumption) ?_
      refine zj_getv (v := hs 2) X dX2_firstHighWater_30 fl_X2_98 (by first | rfl | assumption) (by first | decide | omega) (by decide) rfl (vh.1 2 (by decide)) ?_
      refine zj_aaload5 X dX2_firstHighWater_33 (by first | rfl | assumption) (by first | decide | omega) ((hs 2).toNat) (by omega) (by omega) (zF_w1 hF (by omega)) ?_
      refine zj_getv (v := wd (hs 2).toNat 0) X dX2_firstHighWater_34 fl_X2_79 (by first | rfl | assumption) (by first | decide | omega) (by decide) rfl (vh.2 _ _ (by omega)) ?_
      refine zG_istore_n X dX2_firstHighWater_37 (by decide) rfl ?_
      refine zG_iload_n X dX2_firstHighWater_38 rfl ?_
      refine zj_if_le X dX2_firstHighWater_39 (tgt := 63) (by decide) (by first | decide | omega) (fun h_39 => ?_) (fun h_39 => ?_)
      · exact absurd h_39 (by first | decide | omega)
      · refine zG_aload_n X dX2_firstHighWater_42 rfl ?_
        refine zG_getR X dX2_firstHighWater_43 fl_X2_15 (by first | rfl | assumption) (by first | decide | omega) (by decide) rfl (by first | exact zF_at hF rfl rfl | assumption) ?_
        refine zG_aload_n X dX2_firstHighWater_46 rfl ?_
        refine zG_getR X dX2_firstHighWater_47 fl_X2_9 (by first | rfl | assumption) (by first | decide | omega) (by decide) rfl (by first | exact zF_at hF rfl rfl | assumption) ?_
        refine zj_getv (v := hs 2) X dX2_firstHighWater_50 fl_X2_98 (by first | rfl | assumption) (by first | decide | omega) (by decide) rfl (vh.1 2 (by decide)) ?_
        refine zj_ialoadv (v := ps (hs 2).toNat) X dX2_firstHighWater_53 (by first | rfl | assumption) (by first | decide | omega) ((hs 2).toNat) (by omega) (by omega) (vw.1 _) ?_
        refine zj_sipush X dX2_firstHighWater_54 (by decide) ?_
        refine zj_imul X dX2_firstHighWater_57 ?_
        refine zG_iload_n X dX2_firstHighWater_58 rfl ?_
        refine zj_idiv X dX2_firstHighWater_59 (by omega) (by omega) (by omega) (by omega) ?_
        refine zG_goto X dX2_firstHighWater_60 (tgt := 64) (by decide) ?_
        refine zG_istore_n X dX2_firstHighWater_64 (by decide) rfl ?_
        refine zG_iload_n X dX2_firstHighWater_65 rfl ?_
        refine zG_aload_n X dX2_firstHighWater_66 rfl ?_
        refine zj_getv (v := lag) X dX2_firstHighWater_67 fl_X2_38 (by first | rfl | assumption) (by first | decide | omega) (by decide) rfl (vw.2.1) ?_
        refine zj_iadd X dX2_firstHighWater_70 ?_
        refine zj_sipush X dX2_firstHighWater_71 (by decide) ?_
        refine zj_callS1 (as2 := [_, _]) X (k_modulo lo (d - 1) J G F (by omega) (by decide) (by decide)) dX2_firstHighWater_74 ms_X4_modulo ml_X2_82 rfl rfl (by show d - 1 + 1 ≤ d; omega) (by show 19 + 3 + 35 * (d - 1) ≤ 35 * (d); omega) (Nat.le_of_ble_eq_true rfl) (Nat.le_of_ble_eq_true rfl) (Nat.le_of_ble_eq_true rfl) ?_
        refine zG_iret X dX2_firstHighWater_77 rfl ?_
        exact zD.of (by rw [if_pos (by omega)]; rfl) rfl rfl rfl
    · exact absurd h_14 (by first | decide | omega)
  · have hm2 : hs 0 = 0 := by omega
    rw [if_neg hm]
    refine zj_if_ne X dX2_firstHighWater_14 (tgt := 19) (by decide) (by first | decide | omega) (fun h_14 => ?_) (fun h_14 => ?_)
    · exact absurd h_14 (by first | decide | omega)
    · refine zj_iconst X dX2_firstHighWater_17 ?_
      refine zG_iret X dX2_firstHighWater_18 rfl ?_
      exact zD.of (by rw [if_neg (by omega)]) rfl rfl rfl
set_option maxHeartbeats 4000000 in
set_option maxRecDepth 100000 in
theorem k_X2_isFordFree (lo d : Nat) (hd : 2 ≤ d) (J : Nat → Nat → Int) (G : Nat → Nat → Int64) (F : Nat → Nat → Option Nat) (hF : zFk F) {w : Nat} (hw : w = 37 ∨ w = 39) {hs : Nat → Int} {wd : Nat → Nat → Int} {ps : Nat → Int} {lag wt : Int} (vh : vH J hs wd) (vw : vW J w ps lag wt) (ok : hwOk hs wd) (po : pOk wd ps) (l1 : 0 ≤ lag) (l2 : lag < 720) (h0 : 0 < hs 0) : zCt lo yX2_isFordFree cX2_isFordFree 4 (some .boolean) d 0 0 [.ref (lo + w)] 57 57 (zM J) G F (zD [.int (zI (if mfree hs (mhigh hs wd ps lag) then 1 else 0))] J G F) := by
  refine zCt.mk (by decide) (mv_X2_isFordFree.2.2.2.1) (Nat.le_of_ble_eq_true rfl) ?_
  intro p l e s m args below meth c D cA X
  have hsw : zShape[w]? = some (.inl 2) := by rcases hw with rfl | rfl <;> rfl
  have hsp : zShape[w + 1]? = some (.inr (0, 5)) := by rcases hw with rfl | rfl <;> rfl
  have hwn : w + 1 < 57 := by omega
  have hfh : F w 0 = some 1 := by rcases hw with rfl | rfl <;> exact zF_at hF rfl rfl
  have hfp : F w 1 = some (w + 1) := by rcases hw with rfl | rfl <;> exact zF_at hF rfl rfl
  have hcf := ok.1
  unfold hOk at hcf
  have hJ0 : J 1 1 = hs 0 := vh.1 0 (by decide)
  have hm0 : 0 ≤ mhigh hs wd ps lag := Int.emod_nonneg _ (by decide)
  have hm9 : mhigh hs wd ps lag < 720 := Int.emod_lt_of_pos _ (by decide)
  have hml : zr (mlast hs) := by unfold mlast; (repeat' split) <;> omega
  refine zG_aload_n X dX2_isFordFree_0 rfl ?_
  refine zG_getR X dX2_isFordFree_1 fl_X2_9 (by first | rfl | assumption) (by first | decide | omega) (by decide) rfl (by first | exact zF_at hF rfl rfl | assumption) ?_
  refine zj_getv (v := hs 5) X dX2_isFordFree_4 fl_X2_122 (by first | rfl | assumption) (by first | decide | omega) (by decide) rfl (vh.1 5 (by decide)) ?_
  refine zG_istore_n X dX2_isFordFree_7 (by decide) rfl ?_
  refine zG_iload_n X dX2_isFordFree_8 rfl ?_
  refine zG_aload_n X dX2_isFordFree_9 rfl ?_
  refine zG_getR X dX2_isFordFree_10 fl_X2_9 (by first | rfl | assumption) (by first | decide | omega) (by decide) rfl (by first | exact zF_at hF rfl rfl | assumption) ?_
  refine zj_getv (v := hs 6) X dX2_isFordFree_13 fl_X2_125 (by first | rfl | assumption) (by first | decide | omega) (by decide) rfl (vh.1 6 (by decide)) ?_
  refine zj_iadd X dX2_isFordFree_16 ?_
  refine zj_iconst X dX2_isFordFree_17 ?_
  refine zj_isub X dX2_isFordFree_18 ?_
  refine zj_sipush X dX2_isFordFree_19 (by decide) ?_
  refine zj_min X dX2_isFordFree_22 (by decide +kernel) (by omega) (by decide) (by show 1 ≤ d; omega) (by show 21 ≤ 35 * d; omega) (Nat.le_of_ble_eq_true rfl) (Nat.le_refl _) (Nat.le_refl _) ?_
  rw [show (if 1439 < hs 5 + hs 6 - 1 then 1439 else hs 5 + hs 6 - 1) = mlast hs by unfold mlast; (repeat' split) <;> omega]
  refine zG_istore_n X dX2_isFordFree_25 (by decide) rfl ?_
  refine zG_aload_n X dX2_isFordFree_26 rfl ?_
  refine zj_callV1 (as2 := []) X (k_X2_firstHighWater lo (d - 1) (by omega) J G F hF hw vh vw ok po l1 l2) dX2_isFordFree_27 mv_X2_firstHighWater ml_X2_131 (by first | rfl | assumption) rfl (by first | decide | omega) rfl rfl (by show d - 1 + 1 ≤ d; omega) (by show 19 + 3 + 35 * (d - 1) ≤ 35 * (d); omega) (Nat.le_of_ble_eq_true rfl) (Nat.le_of_ble_eq_true rfl) (Nat.le_of_ble_eq_true rfl) ?_
  rw [if_pos h0]
  refine zG_istore_n X dX2_isFordFree_30 (by decide) rfl ?_
  refine zG_iload_n X dX2_isFordFree_31 rfl ?_
  refine zG_iload_n X dX2_isFordFree_32 rfl ?_
  refine zG_iload_n X dX2_isFordFree_33 rfl ?_
  refine zj_callS1 (as2 := [_, _, _]) X (k_X2_isDryAround lo (d - 1) J G F (by omega) (by omega) (by omega)) dX2_isFordFree_34 ms_X2_isDryAround ml_X2_134 rfl rfl (by show d - 1 + 1 ≤ d; omega) (by show 19 + 3 + 35 * (d - 1) ≤ 35 * (d); omega) (Nat.le_of_ble_eq_true rfl) (Nat.le_of_ble_eq_true rfl) (Nat.le_of_ble_eq_true rfl) ?_
  by_cases hm1 : mdry hs (mhigh hs wd ps lag)
  · rw [if_pos hm1]
    refine zj_if_eq X dX2_isFordFree_37 (tgt := 57) (by decide) (by first | decide | omega) (fun h_37 => ?_) (fun h_37 => ?_)
    · exact absurd h_37 (by first | decide | omega)
    · refine zG_iload_n X dX2_isFordFree_40 rfl ?_
      refine zj_sipush X dX2_isFordFree_41 (by decide) ?_
      refine zj_iadd X dX2_isFordFree_44 ?_
      refine zG_iload_n X dX2_isFordFree_45 rfl ?_
      refine zG_iload_n X dX2_isFordFree_46 rfl ?_
      refine zj_callS1 (as2 := [_, _, _]) X (k_X2_isDryAround lo (d - 1) J G F (by omega) (by omega) (by omega)) dX2_isFordFree_47 ms_X2_isDryAround ml_X2_134 rfl rfl (by show d - 1 + 1 ≤ d; omega) (by show 19 + 3 + 35 * (d - 1) ≤ 35 * (d); omega) (Nat.le_of_ble_eq_true rfl) (Nat.le_of_ble_eq_true rfl) (Nat.le_of_ble_eq_true rfl) ?_
      by_cases hm2 : mdry hs (mhigh hs wd ps lag + 720)
      · rw [if_pos hm2]
        refine zj_if_eq X dX2_isFordFree_50 (tgt := 57) (by decide) (by first | decide | omega) (fun h_50 => ?_) (fun h_50 => ?_)
        · exact absurd h_50 (by first | decide | omega)
        · refine zj_iconst X dX2_isFordFree_53 ?_
          refine zG_goto X dX2_isFordFree_54 (tgt := 58) (by decide) ?_
          refine zG_zret X dX2_isFordFree_58 rfl (by first | rfl | assumption) ?_
          exact zD.of (by split <;> first | rfl | (rename_i q; first | exact absurd ⟨hm1, hm2⟩ q | exact absurd q.1 hm1 | exact absurd q.2 hm2)) rfl rfl rfl
      · rw [if_neg hm2]
        refine zj_if_eq X dX2_isFordFree_50 (tgt := 57) (by decide) (by first | decide | omega) (fun h_50 => ?_) (fun h_50 => ?_)
        · refine zj_iconst X dX2_isFordFree_57 ?_
          refine zG_zret X dX2_isFordFree_58 rfl (by first | rfl | assumption) ?_
          exact zD.of (by split <;> first | rfl | (rename_i q; first | exact absurd ⟨hm1, hm2⟩ q | exact absurd q.1 hm1 | exact absurd q.2 hm2)) rfl rfl rfl
        · exact absurd h_50 (by first | decide | omega)
  · rw [if_neg hm1]
    refine zj_if_eq X dX2_isFordFree_37 (tgt := 57) (by decide) (by first | decide | omega) (fun h_37 => ?_) (fun h_37 => ?_)
    · refine zj_iconst X dX2_isFordFree_57 ?_
      refine zG_zret X dX2_isFordFree_58 rfl (by first | rfl | assumption) ?_
      exact zD.of (by split <;> first | rfl | (rename_i q; first | exact absurd ⟨hm1, hm2⟩ q | exact absurd q.1 hm1 | exact absurd q.2 hm2)) rfl rfl rfl
    · exact absurd h_37 (by first | decide | omega)
set_option maxHeartbeats 4000000 in
set_option maxRecDepth 100000 in
theorem k_X2_isMarketDue (lo d : Nat) (hd : 1 ≤ d) (J : Nat → Nat → Int) (G : Nat → Nat → Int64) (F : Nat → Nat → Option Nat) (hF : zFk F) {w : Nat} (hw : w = 37 ∨ w = 39) {hs : Nat → Int} {wd : Nat → Nat → Int} {ps : Nat → Int} {lag wt : Int} (vh : vH J hs wd) (vw : vW J w ps lag wt) (ok : hwOk hs wd) (po : pOk wd ps) (l1 : 0 ≤ lag) (l2 : lag < 720) (w1 : 0 ≤ wt) (w2 : wt ≤ 100) : zCt lo yX2_isMarketDue cX2_isMarketDue 1 (some .boolean) d 0 0 [.ref (lo + w)] 57 57 (zM J) G F (zD [.int (zI (if mdue hs (sbC G 1) ps wt then 1 else 0))] J G F) := by
  refine zCt.mk (by decide) (mv_X2_isMarketDue.2.2.2.1) (Nat.le_of_ble_eq_true rfl) ?_
  intro p l e s m args below meth c D cA X
  have hsw : zShape[w]? = some (.inl 2) := by rcases hw with rfl | rfl <;> rfl
  have hsp : zShape[w + 1]? = some (.inr (0, 5)) := by rcases hw with rfl | rfl <;> rfl
  have hwn : w + 1 < 57 := by omega
  have hfh : F w 0 = some 1 := by rcases hw with rfl | rfl <;> exact zF_at hF rfl rfl
  have hfp : F w 1 = some (w + 1) := by rcases hw with rfl | rfl <;> exact zF_at hF rfl rfl
  have hcf := ok.1
  unfold hOk at hcf
  have hJ0 : J 1 1 = hs 0 := vh.1 0 (by decide)
  refine zG_aload_n X dX2_isMarketDue_0 rfl ?_
  refine zG_getR X dX2_isMarketDue_1 fl_X2_9 (by first | rfl | assumption) (by first | decide | omega) (by decide) rfl (by first | exact zF_at hF rfl rfl | assumption) ?_
  refine zG_aload_n X dX2_isMarketDue_4 rfl ?_
  refine zG_getR X dX2_isMarketDue_5 fl_X2_9 (by first | rfl | assumption) (by first | decide | omega) (by decide) rfl (by first | exact zF_at hF rfl rfl | assumption) ?_
  refine zj_getv (v := hs 4) X dX2_isMarketDue_8 fl_X2_115 (by first | rfl | assumption) (by first | decide | omega) (by decide) rfl (vh.1 4 (by decide)) ?_
  refine zj_callV1 (as2 := [_]) X (k_X0_has lo (d - 1) J G F (by omega) (by rw [show J 1 1 = hs 0 from vh.1 0 (by decide)]; omega)) dX2_isMarketDue_11 mv_X0_has ml_X2_101 (by first | rfl | assumption) rfl (by first | decide | omega) rfl rfl (by show d - 1 + 1 ≤ d; omega) (by show 19 + 2 + 35 * (d - 1) ≤ 35 * (d); omega) (Nat.le_of_ble_eq_true rfl) (Nat.le_of_ble_eq_true rfl) (Nat.le_of_ble_eq_true rfl) ?_
  by_cases hm : 0 ≤ hs 4 ∧ hs 4 < J 1 1
  · have hm2 : hs 4 < hs 0 := by omega
    have hwk := hwOk_w ok (k := (hs 4).toNat) (by omega)
    have hpk := po (hs 4).toNat (by omega)
    rw [if_pos hm]
    refine zj_if_ne X dX2_isMarketDue_14 (tgt := 19) (by decide) (by first | decide | omega) (fun h_14 => ?_) (fun h_14 => ?_)
    · refine zG_aload_n X dX2_isMarketDue_19 rfl ?_
      refine zj_getv (v := wt) X dX2_isMarketDue_20 fl_X2_34 (by first | rfl | assumption) (by first | decide | omega) (by decide) rfl (vw.2.2) ?_
      refine zj_if_gt X dX2_isMarketDue_23 (tgt := 53) (by decide) (by first | decide | omega) (fun h_23 => ?_) (fun h_23 => ?_)
      · refine zj_iconst X dX2_isMarketDue_53 ?_
        refine zG_goto X dX2_isMarketDue_54 (tgt := 58) (by decide) ?_
        refine zG_zret X dX2_isMarketDue_58 rfl (by first | rfl | assumption) ?_
        exact zD.of (by
          split
          all_goals (rename_i q)
          all_goals first
            | rfl
            | (exfalso; apply q; refine ⟨by omega, Or.inl ?_⟩; omega)
            | (exfalso; rcases q.2 with z | z
               · omega
               · have h9 := (sb_bit hpk.1 (by omega)).mp h_49
                 rw [show sbC G 1 (ps (hs 4).toNat).toNat = false from h9] at z
                 cases z)
            | (exfalso; apply q; refine ⟨by omega, Or.inr ?_⟩
               have h9 := mt (sb_bit hpk.1 (by omega)).mpr h_49
               show (G 1 9).toBitVec.getLsbD (ps (hs 4).toNat).toNat = true
               revert h9
               cases (G 1 9).toBitVec.getLsbD (ps (hs 4).toNat).toNat <;> simp)) rfl rfl rfl
      · refine zG_aload_n X dX2_isMarketDue_26 rfl ?_
        refine zG_getR X dX2_isMarketDue_27 fl_X2_9 (by first | rfl | assumption) (by first | decide | omega) (by decide) rfl (by first | exact zF_at hF rfl rfl | assumption) ?_
        refine zG_getL X dX2_isMarketDue_30 fl_X2_118 (by first | rfl | assumption) (by first | decide | omega) (by decide) rfl ?_
        refine zG_aload_n X dX2_isMarketDue_33 rfl ?_
        refine zG_getR X dX2_isMarketDue_34 fl_X2_15 (by first | rfl | assumption) (by first | decide | omega) (by decide) rfl (by first | exact zF_at hF rfl rfl | assumption) ?_
        refine zG_aload_n X dX2_isMarketDue_37 rfl ?_
        refine zG_getR X dX2_isMarketDue_38 fl_X2_9 (by first | rfl | assumption) (by first | decide | omega) (by decide) rfl (by first | exact zF_at hF rfl rfl | assumption) ?_
        refine zj_getv (v := hs 4) X dX2_isMarketDue_41 fl_X2_115 (by first | rfl | assumption) (by first | decide | omega) (by decide) rfl (vh.1 4 (by decide)) ?_
        refine zj_ialoadv (v := ps (hs 4).toNat) X dX2_isMarketDue_44 (by first | rfl | assumption) (by first | decide | omega) ((hs 4).toNat) (by omega) (by omega) (vw.1 _) ?_
        refine zG_lushr X dX2_isMarketDue_45 ?_
        refine zj_lconst1 X dX2_isMarketDue_46 ?_
        refine zG_land X dX2_isMarketDue_47 ?_
        refine zj_lconst0 X dX2_isMarketDue_48 ?_
        refine zG_lcmp_eq X dX2_isMarketDue_49 dX2_isMarketDue_50 (tgt := 57) (by decide)  (fun h_49 => ?_) (fun h_49 => ?_)
        · refine zj_iconst X dX2_isMarketDue_57 ?_
          refine zG_zret X dX2_isMarketDue_58 rfl (by first | rfl | assumption) ?_
          exact zD.of (by
            split
            all_goals (rename_i q)
            all_goals first
              | rfl
              | (exfalso; apply q; refine ⟨by omega, Or.inl ?_⟩; omega)
              | (exfalso; rcases q.2 with z | z
                 · omega
                 · have h9 := (sb_bit hpk.1 (by omega)).mp h_49
                   rw [show sbC G 1 (ps (hs 4).toNat).toNat = false from h9] at z
                   cases z)
              | (exfalso; apply q; refine ⟨by omega, Or.inr ?_⟩
                 have h9 := mt (sb_bit hpk.1 (by omega)).mpr h_49
                 show (G 1 9).toBitVec.getLsbD (ps (hs 4).toNat).toNat = true
                 revert h9
                 cases (G 1 9).toBitVec.getLsbD (ps (hs 4).toNat).toNat <;> simp)) rfl rfl rfl
        · refine zj_iconst X dX2_isMarketDue_53 ?_
          refine zG_goto X dX2_isMarketDue_54 (tgt := 58) (by decide) ?_
          refine zG_zret X dX2_isMarketDue_58 rfl (by first | rfl | assumption) ?_
          exact zD.of (by
            split
            all_goals (rename_i q)
            all_goals first
              | rfl
              | (exfalso; apply q; refine ⟨by omega, Or.inl ?_⟩; omega)
              | (exfalso; rcases q.2 with z | z
                 · omega
                 · have h9 := (sb_bit hpk.1 (by omega)).mp h_49
                   rw [show sbC G 1 (ps (hs 4).toNat).toNat = false from h9] at z
                   cases z)
              | (exfalso; apply q; refine ⟨by omega, Or.inr ?_⟩
                 have h9 := mt (sb_bit hpk.1 (by omega)).mpr h_49
                 show (G 1 9).toBitVec.getLsbD (ps (hs 4).toNat).toNat = true
                 revert h9
                 cases (G 1 9).toBitVec.getLsbD (ps (hs 4).toNat).toNat <;> simp)) rfl rfl rfl
    · exact absurd h_14 (by first | decide | omega)
  · have hm2 : hs 0 = 0 := by omega
    rw [if_neg hm]
    refine zj_if_ne X dX2_isMarketDue_14 (tgt := 19) (by decide) (by first | decide | omega) (fun h_14 => ?_) (fun h_14 => ?_)
    · exact absurd h_14 (by first | decide | omega)
    · refine zj_iconst X dX2_isMarketDue_17 ?_
      refine zG_zret X dX2_isMarketDue_18 rfl (by first | rfl | assumption) ?_
      exact zD.of (by rw [if_neg (fun q => by have := q.1; omega)]) rfl rfl rfl
