/-! remainders and multiples -/
def fwF (x y m q : Int) : Nat → Nat → Int
  | 0, _ => -1
  | f + 1, i => if (x + (i : Int) * y) % m = q then x + (i : Int) * y else fwF x y m q f (i + 1)
theorem fwF_s {x y m q : Int} {f i : Nat} : fwF x y m q (f + 1) i = if (x + (i : Int) * y) % m = q then x + (i : Int) * y else fwF x y m q f (i + 1) := rfl
def cmF (x m : Int) : Nat → Nat → Int
  | 0, i => x * (i : Int)
  | f + 1, i => if x * (i : Int) % m = 0 then x * (i : Int) else cmF x m f (i + 1)
theorem cmF_s {x m : Int} {f i : Nat} : cmF x m (f + 1) i = if x * (i : Int) % m = 0 then x * (i : Int) else cmF x m f (i + 1) := rfl
theorem zky {k : Nat} {y Y : Int} (hk : k ≤ 60) (y1 : 0 ≤ y) (y2 : y ≤ Y) : 0 ≤ (k : Int) * y ∧ (k : Int) * y ≤ 60 * Y :=
  ⟨Int.mul_nonneg (by omega) y1, Int.mul_le_mul (by omega) y2 y1 (by decide)⟩
theorem zks {k : Nat} {y : Int} : ((k + 1 : Nat) : Int) * y = (k : Int) * y + y := by
  rw [Int.natCast_add, Int.add_mul]
  simp
theorem zks2 {k : Nat} {y : Int} : y * ((k + 1 : Nat) : Int) = y * (k : Int) + y := by
  rw [Int.natCast_add, Int.mul_add]
  simp
set_option maxHeartbeats 4000000 in
set_option maxRecDepth 100000 in
theorem k_X4_fwr (lo d : Nat) (J : Nat → Nat → Int) (G : Nat → Nat → Int64) (F : Nat → Nat → Option Nat) {x y mm q : Int} (x1 : 0 ≤ x) (x2 : x ≤ 46656000000) (y1 : 0 ≤ y) (y2 : y ≤ 777600000) (m1 : 2 ≤ mm) (m2 : mm ≤ 60) (q1 : 0 ≤ q) (q2 : q < mm) : zCt lo yX4_firstWithRemainder cX4_firstWithRemainder 9 (some .long) d 0 0 [.long (lI x), .long (lI y), .int (zI mm), .int (zI q)] 57 57 (zM J) G F (zD [.long (lI (fwF x y mm q mm.toNat 0))] J G F) := by
  refine zCt.mk (by decide) (ms_X4_firstWithRemainder.2.2.1) (Nat.le_of_ble_eq_true rfl) ?_
  intro p l e s m args below meth c D cA X
  have loop : ∀ (q9 k : Nat) (hall : fwF x y mm q mm.toNat 0 = fwF x y mm q q9 k), k + q9 = mm.toNat → zG p l e { frames := d, cells := 0, slots := 0, locals := 35 * d } s m args below meth c D cA lo 9 0 0 (MQ below (zQ D cA lo 57 (zD [.long (lI (fwF x y mm q mm.toNat 0))] J G F)) args s 0 0 (fun q => lo ≤ q)) 57 (zM (J)) G F [some (.long (lI x)), none, some (.long (lI y)), none, some (.int (zI mm)), some (.int (zI q)), some (.long (lI (x + (k : Int) * y))), none, some (.int (zI (k : Int)))] [] 6 := by
    intro q9
    induction q9 with
    | zero =>
      intro k hall hk
      refine zG_iload X dX4_firstWithRemainder_6 rfl ?_
      refine zG_iload X dX4_firstWithRemainder_8 rfl ?_
      refine zj_icmp_ge X dX4_firstWithRemainder_10 (tgt := 41) (by decide) (by first | decide | omega) (by first | decide | omega) (fun h_10 => ?_) (fun h_10 => ?_)
      · refine zG_ldc2 (v := -1) X dX4_firstWithRemainder_41 (by decide +kernel) ?_
        refine zG_lret X dX4_firstWithRemainder_44 rfl ?_
        exact zD.of (by rw [hall]; rfl) rfl rfl rfl
      · exact absurd h_10 (by first | decide | omega)
    | succ q9 ih =>
      intro k hall hk
      have hky := zky (k := k) (by omega) y1 y2
      rw [fwF_s] at hall
      have hmz := Int.emod_nonneg (x + (k : Int) * y) (show mm ≠ 0 by omega)
      have hmz2 := Int.emod_lt_of_pos (x + (k : Int) * y) (show 0 < mm by omega)
      refine zG_iload X dX4_firstWithRemainder_6 rfl ?_
      refine zG_iload X dX4_firstWithRemainder_8 rfl ?_
      refine zj_icmp_ge X dX4_firstWithRemainder_10 (tgt := 41) (by decide) (by first | decide | omega) (by first | decide | omega) (fun h_10 => ?_) (fun h_10 => ?_)
      · exact absurd h_10 (by first | decide | omega)
      · refine zG_lload X dX4_firstWithRemainder_13 rfl ?_
        refine zG_iload X dX4_firstWithRemainder_15 rfl ?_
        refine zj_i2l X dX4_firstWithRemainder_17 (by omega) ?_
        refine zj_lrem X dX4_firstWithRemainder_18 (by omega) (by omega) (by omega) (by omega) ?_
        refine zG_iload X dX4_firstWithRemainder_19 rfl ?_
        refine zj_i2l X dX4_firstWithRemainder_21 (by omega) ?_
        refine zj_lcmp_ne X dX4_firstWithRemainder_22 dX4_firstWithRemainder_23 (tgt := 29) (by decide) (by omega) (by omega) (fun h_22 => ?_) (fun h_22 => ?_)
        · refine zG_lload X dX4_firstWithRemainder_29 rfl ?_
          refine zG_lload_n X dX4_firstWithRemainder_31 rfl ?_
          refine zj_ladd X dX4_firstWithRemainder_32 ?_
          refine zG_lstore X dX4_firstWithRemainder_33 (by decide) rfl ?_
          refine zj_iinc X dX4_firstWithRemainder_35 rfl (by decide) rfl ?_
          refine zG_goto X dX4_firstWithRemainder_38 (tgt := 6) (by decide) ?_
          have hi := ih (k + 1) (by rw [hall, if_neg h_22]) (by omega)
          rw [zks, ← Int.add_assoc] at hi
          exact hi
        · refine zG_lload X dX4_firstWithRemainder_26 rfl ?_
          refine zG_lret X dX4_firstWithRemainder_28 rfl ?_
          exact zD.of (by rw [hall, if_pos h_22]) rfl rfl rfl
  refine zG_lload_n X dX4_firstWithRemainder_0 rfl ?_
  refine zG_lstore X dX4_firstWithRemainder_1 (by decide) rfl ?_
  refine zj_iconst X dX4_firstWithRemainder_3 ?_
  refine zG_istore X dX4_firstWithRemainder_4 (by decide) rfl ?_
  have h0 := loop mm.toNat 0 rfl (by omega)
  rw [show x + ((0 : Nat) : Int) * y = x by simp] at h0
  exact h0
set_option maxHeartbeats 4000000 in
set_option maxRecDepth 100000 in
theorem k_X4_cm (lo d : Nat) (J : Nat → Nat → Int) (G : Nat → Nat → Int64) (F : Nat → Nat → Option Nat) {x mm : Int} (x1 : 0 ≤ x) (x2 : x ≤ 777600000) (m1 : 2 ≤ mm) (m2 : mm ≤ 60) : zCt lo yX4_commonMultiple cX4_commonMultiple 6 (some .long) d 0 0 [.long (lI x), .int (zI mm)] 57 57 (zM J) G F (zD [.long (lI (cmF x mm (mm.toNat - 1) 1))] J G F) := by
  refine zCt.mk (by decide) (ms_X4_commonMultiple.2.2.1) (Nat.le_of_ble_eq_true rfl) ?_
  intro p l e s m args below meth c D cA X
  have loop : ∀ (q k : Nat) (hall : cmF x mm (mm.toNat - 1) 1 = cmF x mm q k), k + q = mm.toNat → zG p l e { frames := d, cells := 0, slots := 0, locals := 35 * d } s m args below meth c D cA lo 6 0 0 (MQ below (zQ D cA lo 57 (zD [.long (lI (cmF x mm (mm.toNat - 1) 1))] J G F)) args s 0 0 (fun q => lo ≤ q)) 57 (zM (J)) G F [some (.long (lI x)), none, some (.int (zI mm)), some (.long (lI (x * (k : Int)))), none, some (.int (zI (k : Int)))] [] 5 := by
    intro q
    induction q with
    | zero =>
      intro k hall hk
      refine zG_iload X dX4_commonMultiple_5 rfl ?_
      refine zG_iload_n X dX4_commonMultiple_7 rfl ?_
      refine zj_icmp_ge X dX4_commonMultiple_8 (tgt := 30) (by decide) (by first | decide | omega) (by first | decide | omega) (fun h_8 => ?_) (fun h_8 => ?_)
      · refine zG_lload_n X dX4_commonMultiple_30 rfl ?_
        refine zG_lret X dX4_commonMultiple_31 rfl ?_
        exact zD.of (by rw [hall]; rfl) rfl rfl rfl
      · exact absurd h_8 (by first | decide | omega)
    | succ q ih =>
      intro k hall hk
      have hky := zky (k := k) (by omega) x1 x2
      rw [Int.mul_comm] at hky
      have hmz := Int.emod_nonneg (x * (k : Int)) (show mm ≠ 0 by omega)
      have hmz2 := Int.emod_lt_of_pos (x * (k : Int)) (show 0 < mm by omega)
      refine zG_iload X dX4_commonMultiple_5 rfl ?_
      refine zG_iload_n X dX4_commonMultiple_7 rfl ?_
      refine zj_icmp_ge X dX4_commonMultiple_8 (tgt := 30) (by decide) (by first | decide | omega) (by first | decide | omega) (fun h_8 => ?_) (fun h_8 => ?_)
      · exact absurd h_8 (by first | decide | omega)
      · refine zG_lload_n X dX4_commonMultiple_11 rfl ?_
        refine zG_iload_n X dX4_commonMultiple_12 rfl ?_
        refine zj_i2l X dX4_commonMultiple_13 (by omega) ?_
        refine zj_lrem X dX4_commonMultiple_14 (by omega) (by omega) (by omega) (by omega) ?_
        refine zj_lconst0 X dX4_commonMultiple_15 ?_
        refine zj_lcmp_eq X dX4_commonMultiple_16 dX4_commonMultiple_17 (tgt := 30) (by decide) (by omega) (by omega) (fun h_16 => ?_) (fun h_16 => ?_)
        · refine zG_lload_n X dX4_commonMultiple_30 rfl ?_
          refine zG_lret X dX4_commonMultiple_31 rfl ?_
          exact zD.of (by rw [hall, cmF_s, if_pos h_16]) rfl rfl rfl
        · refine zG_lload_n X dX4_commonMultiple_20 rfl ?_
          refine zG_lload_n X dX4_commonMultiple_21 rfl ?_
          refine zj_ladd X dX4_commonMultiple_22 ?_
          refine zG_lstore_n X dX4_commonMultiple_23 (by decide) rfl ?_
          refine zj_iinc X dX4_commonMultiple_24 rfl (by decide) rfl ?_
          refine zG_goto X dX4_commonMultiple_27 (tgt := 5) (by decide) ?_
          have hi := ih (k + 1) (by rw [hall, cmF_s, if_neg h_16]) (by omega)
          rw [zks2] at hi
          exact hi
  refine zG_lload_n X dX4_commonMultiple_0 rfl ?_
  refine zG_lstore_n X dX4_commonMultiple_1 (by decide) rfl ?_
  refine zj_iconst X dX4_commonMultiple_2 ?_
  refine zG_istore X dX4_commonMultiple_3 (by decide) rfl ?_
  have h0 := loop (mm.toNat - 1) 1 rfl (by omega)
  rw [show x * ((1 : Nat) : Int) = x by simp] at h0
  exact h0
theorem fwF_in {x y m q : Int} (y1 : 0 ≤ y) (x1 : 0 ≤ x) : ∀ (f i : Nat), -1 ≤ fwF x y m q f i ∧ fwF x y m q f i ≤ x + ((f + i : Nat) : Int) * y
  | 0, i => by
    have := Int.mul_nonneg (show (0 : Int) ≤ ((0 + i : Nat) : Int) by omega) y1
    unfold fwF
    omega
  | f + 1, i => by
    have ih := fwF_in (m := m) (q := q) y1 x1 f (i + 1)
    have h2 := Int.mul_nonneg (show (0 : Int) ≤ (i : Int) by omega) y1
    have h3 : (i : Int) * y ≤ ((f + 1 + i : Nat) : Int) * y := Int.mul_le_mul_of_nonneg_right (by omega) y1
    rw [show f + (i + 1) = f + 1 + i by omega] at ih
    rw [fwF_s]
    split <;> omega
/-- strictly below: as many steps as are tried, less one -/
theorem fwF_lt {x y m q : Int} (y1 : 0 ≤ y) (x1 : 0 ≤ x) : ∀ (f i : Nat), 0 < f → fwF x y m q f i ≤ x + ((f + i - 1 : Nat) : Int) * y
  | 0, i, h => absurd h (Nat.lt_irrefl 0)
  | f + 1, i, _ => by
    have h2 := Int.mul_nonneg (show (0 : Int) ≤ (i : Int) by omega) y1
    have h3 : (i : Int) * y ≤ ((f + 1 + i - 1 : Nat) : Int) * y := Int.mul_le_mul_of_nonneg_right (by omega) y1
    rw [fwF_s]
    split
    · omega
    · cases f with
      | zero =>
        show (-1 : Int) ≤ _
        omega
      | succ f =>
        have ih := fwF_lt (m := m) (q := q) y1 x1 (f + 1) (i + 1) (by omega)
        rw [show f + 1 + (i + 1) - 1 = f + 1 + 1 + i - 1 by omega] at ih
        exact ih
theorem cmF_in {x m : Int} (x1 : 0 < x) : ∀ (f i : Nat), 0 < i → 0 < cmF x m f i ∧ cmF x m f i ≤ x * ((f + i : Nat) : Int)
  | 0, i, h => by
    unfold cmF
    exact ⟨Int.mul_pos x1 (by omega), by rw [Nat.zero_add]; exact Int.le_refl _⟩
  | f + 1, i, h => by
    have ih := cmF_in (m := m) x1 f (i + 1) (by omega)
    have h2 : 0 < x * (i : Int) := Int.mul_pos x1 (by omega)
    have h3 : x * (i : Int) ≤ x * ((f + 1 + i : Nat) : Int) := Int.mul_le_mul_of_nonneg_left (by omega) (by omega)
    rw [show f + (i + 1) = f + 1 + i by omega] at ih
    rw [cmF_s]
    split
    · exact ⟨h2, h3⟩
    · exact ih
def zPL (r : Int) (Φ : Int → (Nat → Nat → Int) → (Nat → Nat → Int64) → (Nat → Nat → Option Nat) → Prop) : List Value → (Nat → Nat → Int32) → (Nat → Nat → Int64) → (Nat → Nat → Option Nat) → Prop := fun v I2 G2 F2 => r = 0 ∧ ∃ (a : Int) (J2 : Nat → Nat → Int), v = [.long (lI a)] ∧ I2 = zM J2 ∧ Φ a J2 G2 F2
/-- the multiple of the teeth of the set's wheels among the first k -/
def muF (wd : Nat → Nat → Int) (u : Int) : Nat → Int
  | 0 => 1
  | k + 1 => if u / 2 ^ k % 2 = 0 then muF wd u k else cmF (muF wd u k) (wd k 0) ((wd k 0).toNat - 1) 1
theorem muF_s {wd : Nat → Nat → Int} {u : Int} {k : Nat} : muF wd u (k + 1) = if u / 2 ^ k % 2 = 0 then muF wd u k else cmF (muF wd u k) (wd k 0) ((wd k 0).toNat - 1) 1 := rfl
def z60 (k : Nat) : Int := 60 ^ k
theorem z60_s {k : Nat} : z60 (k + 1) = z60 k * 60 := Int.pow_succ ..
theorem z60_in {k : Nat} (h : k ≤ 5) : 1 ≤ z60 k ∧ z60 k ≤ 777600000 := by
  have : k = 0 ∨ k = 1 ∨ k = 2 ∨ k = 3 ∨ k = 4 ∨ k = 5 := by omega
  rcases this with rfl | rfl | rfl | rfl | rfl | rfl <;> decide
theorem cm_60 {x m : Int} {k : Nat} (x1 : 0 < x) (x2 : x ≤ z60 k) (m1 : 2 ≤ m) (m2 : m ≤ 60) : 0 < cmF x m (m.toNat - 1) 1 ∧ cmF x m (m.toNat - 1) 1 ≤ z60 (k + 1) := by
  have h := cmF_in (m := m) x1 (m.toNat - 1) 1 (by decide)
  have h2 : x * ((m.toNat - 1 + 1 : Nat) : Int) ≤ z60 k * 60 := Int.mul_le_mul x2 (by omega) (by omega) (by omega)
  rw [z60_s]
  omega
theorem muF_in {wd : Nat → Nat → Int} {u : Int} (hw : ∀ k, k < 5 → wOk (wd k) k) : ∀ k, k ≤ 5 → 0 < muF wd u k ∧ muF wd u k ≤ z60 k
  | 0, _ => ⟨by show (0 : Int) < 1; decide, by show (1 : Int) ≤ 60 ^ 0; decide⟩
  | k + 1, h => by
    have ih := muF_in (u := u) hw k (by omega)
    have h2 := hw k (by omega)
    unfold wOk at h2
    rw [muF_s]
    split
    · have := z60_s (k := k)
      have := z60_in (k := k) (by omega)
      omega
    · exact cm_60 ih.1 ih.2 (by omega) (by omega)
/-- by remainders: from wheel k on, with x so far and steps of y; -1 if none -/
def brF (wd : Nat → Nat → Int) (u : Int) : Nat → Nat → Int → Int → Int
  | 0, _, x, _ => x
  | f + 1, k, x, y => if u / 2 ^ k % 2 = 0 then brF wd u f (k + 1) x y else if fwF x y (wd k 0) ((wd k 2 - wd k 1) % wd k 0) (wd k 0).toNat 0 < 0 then -1 else brF wd u f (k + 1) (fwF x y (wd k 0) ((wd k 2 - wd k 1) % wd k 0) (wd k 0).toNat 0) (cmF y (wd k 0) ((wd k 0).toNat - 1) 1)
theorem brF_s {wd : Nat → Nat → Int} {u : Int} {f k : Nat} {x y : Int} : brF wd u (f + 1) k x y = if u / 2 ^ k % 2 = 0 then brF wd u f (k + 1) x y else if fwF x y (wd k 0) ((wd k 2 - wd k 1) % wd k 0) (wd k 0).toNat 0 < 0 then -1 else brF wd u f (k + 1) (fwF x y (wd k 0) ((wd k 2 - wd k 1) % wd k 0) (wd k 0).toNat 0) (cmF y (wd k 0) ((wd k 0).toNat - 1) 1) := rfl
set_option maxHeartbeats 4000000 in
set_option maxRecDepth 100000 in
theorem k_X4_multiple (lo d : Nat) (hd : 6 ≤ d) (J : Nat → Nat → Int) (G : Nat → Nat → Int64) (F : Nat → Nat → Option Nat) (hF : zFk F) {hs : Nat → Int} {wd : Nat → Nat → Int} (vh : vH J hs wd) (ok : hwOk hs wd) {u : Int} (hu : zr u) : zCtX lo yX4_multiple cX4_multiple 5 (some .long) d 1 6 [.ref (lo + 0), .int (zI u)] (zM J) G F (zPL (if ¬ (0 < u ∧ u < 2 ^ (J 1 1).toNat) then 1 else 0) (fE (muF wd u (hs 0).toNat) J G F)) (zPX (if ¬ (0 < u ∧ u < 2 ^ (J 1 1).toNat) then 1 else 0) "java/lang/IllegalArgumentException" "java/lang/IllegalArgumentException" (zM J) G F) := by
  refine zCtX.mk (by decide) (mv_X4_multiple.2.2.2.1) (Nat.le_of_ble_eq_true rfl) ?_
  intro p l e s m args below meth c D cA X Y hx
  have hcf := ok.1
  unfold hOk at hcf
  have hJ0 : J 1 1 = hs 0 := vh.1 0 (by decide)
  unfold zr at hu
  refine zG_aload_n X dX4_multiple_0 rfl ?_
  refine zG_iload_n X dX4_multiple_1 rfl ?_
  refine zj_callV1 (as2 := [_]) X (k_X4_isSet lo (d - 1) J G F hF (u := u) (by unfold zr; omega) (by omega) (by omega)) dX4_multiple_2 mv_X4_isSet ml_X4_198 (by first | rfl | assumption) rfl (by first | decide | omega) rfl rfl (by show d - 1 + 1 ≤ d; omega) (by show 19 + 2 + 35 * (d - 1) ≤ 35 * (d); omega) (Nat.le_of_ble_eq_true rfl) (Nat.le_of_ble_eq_true rfl) (Nat.le_of_ble_eq_true rfl) ?_
  by_cases hb0 : 0 < u ∧ u < 2 ^ (J 1 1).toNat
  · rw [if_pos hb0]
    refine zj_if_ne X dX4_multiple_5 (tgt := 18) (by decide) (by first | decide | omega) (fun h_5 => ?_) (fun h_5 => ?_)
    · refine zj_lconst1 X dX4_multiple_18 ?_
      refine zG_lstore_n X dX4_multiple_19 (by decide) rfl ?_
      refine zj_iconst X dX4_multiple_20 ?_
      refine zG_istore X dX4_multiple_21 (by decide) rfl ?_
      have loop : ∀ (q k : Nat), k + q = (hs 0).toNat → zG p l e { frames := d, cells := 1, slots := 6, locals := 35 * d } s m args below meth c D cA lo 5 0 0 (vx_MQ below (zQ D cA lo 57 (zPL (if ¬ (0 < u ∧ u < 2 ^ (J 1 1).toNat) then 1 else 0) (fE (muF wd u (hs 0).toNat) J G F))) (zXQ D cA lo (zPX (if ¬ (0 < u ∧ u < 2 ^ (J 1 1).toNat) then 1 else 0) "java/lang/IllegalArgumentException" "java/lang/IllegalArgumentException" (zM J) G F)) args s 1 6 (fun q => lo ≤ q)) 57 (zM (J)) G F [some (.ref (lo + 0)), some (.int (zI u)), some (.long (lI (muF wd u k))), none, some (.int (zI (k : Int)))] [] 23 := by
        intro q
        induction q with
        | zero =>
          intro k hk
          refine zG_iload X dX4_multiple_23 rfl ?_
          refine zG_aload_n X dX4_multiple_25 rfl ?_
          refine zG_getR X dX4_multiple_26 fl_X4_10 (by first | rfl | assumption) (by first | decide | omega) (by decide) rfl (by first | exact zF_at hF rfl rfl | exact zF_at hF1 rfl rfl | assumption) ?_
          refine zj_getv (v := hs 0) X dX4_multiple_29 fl_X4_50 (by first | rfl | assumption) (by first | decide | omega) (by decide) rfl (hJ0) ?_
          refine zj_icmp_ge X dX4_multiple_32 (tgt := 68) (by decide) (by first | decide | omega) (by first | decide | omega) (fun h_32 => ?_) (fun h_32 => ?_)
          · refine zG_lload_n X dX4_multiple_68 rfl ?_
            refine zG_lretX X dX4_multiple_69 rfl (Nat.le_of_ble_eq_true rfl) (Nat.le_of_ble_eq_true rfl) ?_
            obtain rfl : k = (hs 0).toNat := by omega
            exact ⟨if_neg (by omega), _, _, rfl, rfl, rfl, rfl, rfl, rfl⟩
          · exact absurd h_32 (by first | decide | omega)
        | succ q ih =>
          intro k hk
          have hk5 : k < 5 := by omega
          have hw1 := hwOk_w ok hk5
          have hsw := zSh_w hk5
          have hnw : 3 + k < 57 := by omega
          have hfw := zF_w1 hF hk5
          have hw0 : J (3 + k) 0 = wd k 0 := vh.2 k 0 hk5
          have hwp : J (3 + k) 1 = wd k 1 := vh.2 k 1 hk5
          have hwm : J (3 + k) 2 = wd k 2 := vh.2 k 2 hk5
          have hz6 := z60_in (k := k) (by omega)
          have hmu := muF_in (u := u) ok.2 k (by omega)
          refine zG_iload X dX4_multiple_23 rfl ?_
          refine zG_aload_n X dX4_multiple_25 rfl ?_
          refine zG_getR X dX4_multiple_26 fl_X4_10 (by first | rfl | assumption) (by first | decide | omega) (by decide) rfl (by exact zF_at hF rfl rfl) ?_
          refine zj_getv (v := hs 0) X dX4_multiple_29 fl_X4_50 (by first | rfl | assumption) (by first | decide | omega) (by decide) rfl (hJ0) ?_
          refine zj_icmp_ge X dX4_multiple_32 (tgt := 68) (by decide) (by first | decide | omega) (by first | decide | omega) (fun h_32 => ?_) (fun h_32 => ?_)
          · exact absurd h_32 (by first | decide | omega)
          · refine zG_iload_n X dX4_multiple_35 rfl ?_
            refine zG_iload X dX4_multiple_36 rfl ?_
            refine zj_callS1 (as2 := [_, _]) X (k_X4_isIn lo (d - 1) J G F (q := u) (k := k) (by omega) (by unfold zr; omega) (by omega)) dX4_multiple_38 ms_X4_isIn ml_X4_209 rfl rfl (by show d - 1 + 1 ≤ d; omega) (by show 19 + 2 + 35 * (d - 1) ≤ 35 * (d); omega) (Nat.le_of_ble_eq_true rfl) (Nat.le_of_ble_eq_true rfl) (Nat.le_of_ble_eq_true rfl) ?_
            by_cases hb : u / 2 ^ k % 2 = 0
            · rw [if_pos hb]
              refine zj_if_eq X dX4_multiple_41 (tgt := 62) (by decide) (by first | decide | omega) (fun h_41 => ?_) (fun h_41 => ?_)
              · refine zj_iinc X dX4_multiple_62 rfl (by decide) rfl ?_
                refine zG_goto X dX4_multiple_65 (tgt := 23) (by decide) ?_
                have hi := ih (k + 1) (by omega)
                rw [muF_s] at hi
                first
                  | (rw [if_pos hb] at hi; exact hi)
                  | (rw [if_neg hb] at hi; exact hi)
              · exact absurd h_41 (by first | decide | omega)
            · rw [if_neg hb]
              refine zj_if_eq X dX4_multiple_41 (tgt := 62) (by decide) (by first | decide | omega) (fun h_41 => ?_) (fun h_41 => ?_)
              · exact absurd h_41 (by first | decide | omega)
              · refine zG_lload_n X dX4_multiple_44 rfl ?_
                refine zG_aload_n X dX4_multiple_45 rfl ?_
                refine zG_getR X dX4_multiple_46 fl_X4_10 (by first | rfl | assumption) (by first | decide | omega) (by decide) rfl (by first | exact zF_at hF rfl rfl | exact zF_at hF1 rfl rfl | assumption) ?_
                refine zG_getR X dX4_multiple_49 fl_X4_62 (by first | rfl | assumption) (by first | decide | omega) (by decide) rfl (by first | exact zF_at hF rfl rfl | exact zF_at hF1 rfl rfl | assumption) ?_
                refine zG_iload X dX4_multiple_52 rfl ?_
                refine zj_aaload5 X dX4_multiple_54 (by first | rfl | assumption) (by first | decide | omega) (k) (by omega) (by omega) (hfw) ?_
                refine zj_getv (v := wd k 0) X dX4_multiple_55 fl_X4_212 (by first | rfl | assumption) (by first | decide | omega) (by decide) rfl (hw0) ?_
                refine zj_callS1 (as2 := [_, _]) X (k_X4_cm lo (d - 1) J G F (x := muF wd u k) (mm := wd k 0) (by omega) (by omega) (by omega) (by omega)) dX4_multiple_58 ms_X4_commonMultiple ml_X4_219 rfl rfl (by show d - 1 + 1 ≤ d; omega) (by show 19 + 6 + 35 * (d - 1) ≤ 35 * (d); omega) (Nat.le_of_ble_eq_true rfl) (Nat.le_of_ble_eq_true rfl) (Nat.le_of_ble_eq_true rfl) ?_
                refine zG_lstore_n X dX4_multiple_61 (by decide) rfl ?_
                refine zj_iinc X dX4_multiple_62 rfl (by decide) rfl ?_
                refine zG_goto X dX4_multiple_65 (tgt := 23) (by decide) ?_
                have hi := ih (k + 1) (by omega)
                rw [muF_s] at hi
                first
                  | (rw [if_pos hb] at hi; exact hi)
                  | (rw [if_neg hb] at hi; exact hi)
      exact loop (hs 0).toNat 0 (by omega)
    · exact absurd h_5 (by first | decide | omega)
  · rw [if_neg hb0]
    refine zj_if_ne X dX4_multiple_5 (tgt := 18) (by decide) (by first | decide | omega) (fun h_5 => ?_) (fun h_5 => ?_)
    · exact absurd h_5 (by first | decide | omega)
    · exact zG_throwS X Y hx rfl xE_a (by decide) dX4_multiple_8 dX4_multiple_11 dX4_multiple_12 dX4_multiple_14 dX4_multiple_17 (by show 6 ≤ d; omega) (by show 0 + 82 ≤ 35 * d; omega) (Nat.le_of_ble_eq_true rfl) (Nat.le_of_ble_eq_true rfl) (Nat.le_of_ble_eq_true rfl) (Nat.le_of_ble_eq_true rfl) (⟨Or.inl ⟨if_pos (by omega), rfl⟩, rfl, rfl, rfl⟩)
set_option maxHeartbeats 4000000 in
set_option maxRecDepth 100000 in
theorem k_X4_byRemainders (lo d : Nat) (hd : 6 ≤ d) (J : Nat → Nat → Int) (G : Nat → Nat → Int64) (F : Nat → Nat → Option Nat) (hF : zFk F) {hs : Nat → Int} {wd : Nat → Nat → Int} (vh : vH J hs wd) (ok : hwOk hs wd) {u : Int} (hu : zr u) : zCtX lo yX4_byRemainders cX4_byRemainders 8 (some .long) d 1 6 [.ref (lo + 0), .int (zI u)] (zM J) G F (zPL (if ¬ (0 < u ∧ u < 2 ^ (J 1 1).toNat) then 1 else 0) (fE (brF wd u (hs 0).toNat 0 0 1) J G F)) (zPX (if ¬ (0 < u ∧ u < 2 ^ (J 1 1).toNat) then 1 else 0) "java/lang/IllegalArgumentException" "java/lang/IllegalArgumentException" (zM J) G F) := by
  refine zCtX.mk (by decide) (mv_X4_byRemainders.2.2.2.1) (Nat.le_of_ble_eq_true rfl) ?_
  intro p l e s m args below meth c D cA X Y hx
  have hcf := ok.1
  unfold hOk at hcf
  have hJ0 : J 1 1 = hs 0 := vh.1 0 (by decide)
  unfold zr at hu
  refine zG_aload_n X dX4_byRemainders_0 rfl ?_
  refine zG_iload_n X dX4_byRemainders_1 rfl ?_
  refine zj_callV1 (as2 := [_]) X (k_X4_isSet lo (d - 1) J G F hF (u := u) (by unfold zr; omega) (by omega) (by omega)) dX4_byRemainders_2 mv_X4_isSet ml_X4_198 (by first | rfl | assumption) rfl (by first | decide | omega) rfl rfl (by show d - 1 + 1 ≤ d; omega) (by show 19 + 2 + 35 * (d - 1) ≤ 35 * (d); omega) (Nat.le_of_ble_eq_true rfl) (Nat.le_of_ble_eq_true rfl) (Nat.le_of_ble_eq_true rfl) ?_
  by_cases hb0 : 0 < u ∧ u < 2 ^ (J 1 1).toNat
  · rw [if_pos hb0]
    refine zj_if_ne X dX4_byRemainders_5 (tgt := 18) (by decide) (by first | decide | omega) (fun h_5 => ?_) (fun h_5 => ?_)
    · refine zj_lconst0 X dX4_byRemainders_18 ?_
      refine zG_lstore_n X dX4_byRemainders_19 (by decide) rfl ?_
      refine zj_lconst1 X dX4_byRemainders_20 ?_
      refine zG_lstore X dX4_byRemainders_21 (by decide) rfl ?_
      refine zj_iconst X dX4_byRemainders_23 ?_
      refine zG_istore X dX4_byRemainders_24 (by decide) rfl ?_
      have loop : ∀ (q k : Nat) (x y : Int) (hall : brF wd u (hs 0).toNat 0 0 1 = brF wd u q k x y) (hx1 : 0 ≤ x) (hx2 : x < z60 k) (hy1 : 0 < y) (hy2 : y ≤ z60 k), k + q = (hs 0).toNat → zG p l e { frames := d, cells := 1, slots := 6, locals := 35 * d } s m args below meth c D cA lo 8 0 0 (vx_MQ below (zQ D cA lo 57 (zPL (if ¬ (0 < u ∧ u < 2 ^ (J 1 1).toNat) then 1 else 0) (fE (brF wd u (hs 0).toNat 0 0 1) J G F))) (zXQ D cA lo (zPX (if ¬ (0 < u ∧ u < 2 ^ (J 1 1).toNat) then 1 else 0) "java/lang/IllegalArgumentException" "java/lang/IllegalArgumentException" (zM J) G F)) args s 1 6 (fun q => lo ≤ q)) 57 (zM (J)) G F [some (.ref (lo + 0)), some (.int (zI u)), some (.long (lI x)), none, some (.long (lI y)), none, some (.int (zI (k : Int))), none] [] 26 := by
        intro q
        induction q with
        | zero =>
          intro k x y hall hx1 hx2 hy1 hy2 hk
          refine zG_iload X dX4_byRemainders_26 rfl ?_
          refine zG_aload_n X dX4_byRemainders_28 rfl ?_
          refine zG_getR X dX4_byRemainders_29 fl_X4_10 (by first | rfl | assumption) (by first | decide | omega) (by decide) rfl (by first | exact zF_at hF rfl rfl | exact zF_at hF1 rfl rfl | assumption) ?_
          refine zj_getv (v := hs 0) X dX4_byRemainders_32 fl_X4_50 (by first | rfl | assumption) (by first | decide | omega) (by decide) rfl (hJ0) ?_
          refine zj_icmp_ge X dX4_byRemainders_35 (tgt := 118) (by decide) (by first | decide | omega) (by first | decide | omega) (fun h_35 => ?_) (fun h_35 => ?_)
          · refine zG_lload_n X dX4_byRemainders_118 rfl ?_
            refine zG_lretX X dX4_byRemainders_119 rfl (Nat.le_of_ble_eq_true rfl) (Nat.le_of_ble_eq_true rfl) ?_
            exact ⟨if_neg (by omega), _, _, rfl, rfl, hall.symm, rfl, rfl, rfl⟩
          · exact absurd h_35 (by first | decide | omega)
        | succ q ih =>
          intro k x y hall hx1 hx2 hy1 hy2 hk
          have hk5 : k < 5 := by omega
          have hw1 := hwOk_w ok hk5
          have hsw := zSh_w hk5
          have hnw : 3 + k < 57 := by omega
          have hfw := zF_w1 hF hk5
          have hw0 : J (3 + k) 0 = wd k 0 := vh.2 k 0 hk5
          have hwp : J (3 + k) 1 = wd k 1 := vh.2 k 1 hk5
          have hwm : J (3 + k) 2 = wd k 2 := vh.2 k 2 hk5
          have hz6 := z60_in (k := k) (by omega)
          have hm1 := Int.emod_nonneg (wd k 2 - wd k 1) (show wd k 0 ≠ 0 by omega)
          have hm2 := Int.emod_lt_of_pos (wd k 2 - wd k 1) (show 0 < wd k 0 by omega)
          have hfl := fwF_lt (x := x) (y := y) (m := wd k 0) (q := (wd k 2 - wd k 1) % wd k 0) (by omega) hx1 (wd k 0).toNat 0 (by omega)
          have hfi := fwF_in (x := x) (y := y) (m := wd k 0) (q := (wd k 2 - wd k 1) % wd k 0) (by omega) hx1 (wd k 0).toNat 0
          have hml : (((wd k 0).toNat + 0 - 1 : Nat) : Int) * y ≤ 59 * z60 k := Int.mul_le_mul (by omega) hy2 (by omega) (by decide)
          have hcm := cm_60 (x := y) (m := wd k 0) (k := k) (by omega) hy2 (by omega) (by omega)
          have hzs := z60_s (k := k)
          refine zG_iload X dX4_byRemainders_26 rfl ?_
          refine zG_aload_n X dX4_byRemainders_28 rfl ?_
          refine zG_getR X dX4_byRemainders_29 fl_X4_10 (by first | rfl | assumption) (by first | decide | omega) (by decide) rfl (by exact zF_at hF rfl rfl) ?_
          refine zj_getv (v := hs 0) X dX4_byRemainders_32 fl_X4_50 (by first | rfl | assumption) (by first | decide | omega) (by decide) rfl (hJ0) ?_
          refine zj_icmp_ge X dX4_byRemainders_35 (tgt := 118) (by decide) (by first | decide | omega) (by first | decide | omega) (fun h_35 => ?_) (fun h_35 => ?_)
          · exact absurd h_35 (by first | decide | omega)
          · refine zG_iload_n X dX4_byRemainders_38 rfl ?_
            refine zG_iload X dX4_byRemainders_39 rfl ?_
            refine zj_callS1 (as2 := [_, _]) X (k_X4_isIn lo (d - 1) J G F (q := u) (k := k) (by omega) (by unfold zr; omega) (by omega)) dX4_byRemainders_41 ms_X4_isIn ml_X4_209 rfl rfl (by show d - 1 + 1 ≤ d; omega) (by show 19 + 2 + 35 * (d - 1) ≤ 35 * (d); omega) (Nat.le_of_ble_eq_true rfl) (Nat.le_of_ble_eq_true rfl) (Nat.le_of_ble_eq_true rfl) ?_
            by_cases hb : u / 2 ^ k % 2 = 0
            · rw [if_pos hb]
              refine zj_if_eq X dX4_byRemainders_44 (tgt := 112) (by decide) (by first | decide | omega) (fun h_44 => ?_) (fun h_44 => ?_)
              · refine zj_iinc X dX4_byRemainders_112 rfl (by decide) rfl ?_
                refine zG_goto X dX4_byRemainders_115 (tgt := 26) (by decide) ?_
                first
                  | exact zG_sub (by exact zle_some (zle_some (zle_some (zle_none (zle_some (zle_none (zle_some (zle_none zle_nil)))))))) (ih (k + 1) x y (by rw [hall, brF_s, if_pos hb]) hx1 (by omega) hy1 (by omega) (by omega))
                  | exact zG_sub (by exact zle_some (zle_some (zle_some (zle_none (zle_some (zle_none (zle_some (zle_none zle_nil)))))))) (ih (k + 1) (fwF x y (wd k 0) ((wd k 2 - wd k 1) % wd k 0) (wd k 0).toNat 0) (cmF y (wd k 0) ((wd k 0).toNat - 1) 1) (by rw [hall, brF_s, if_neg hb, if_neg (by omega)]) (by omega) (by omega) (by omega) (by omega) (by omega))
              · exact absurd h_44 (by first | decide | omega)
            · rw [if_neg hb]
              refine zj_if_eq X dX4_byRemainders_44 (tgt := 112) (by decide) (by first | decide | omega) (fun h_44 => ?_) (fun h_44 => ?_)
              · exact absurd h_44 (by first | decide | omega)
              · refine zG_aload_n X dX4_byRemainders_47 rfl ?_
                refine zG_getR X dX4_byRemainders_48 fl_X4_10 (by first | rfl | assumption) (by first | decide | omega) (by decide) rfl (by first | exact zF_at hF rfl rfl | exact zF_at hF1 rfl rfl | assumption) ?_
                refine zG_getR X dX4_byRemainders_51 fl_X4_62 (by first | rfl | assumption) (by first | decide | omega) (by decide) rfl (by first | exact zF_at hF rfl rfl | exact zF_at hF1 rfl rfl | assumption) ?_
                refine zG_iload X dX4_byRemainders_54 rfl ?_
                refine zj_aaload5 X dX4_byRemainders_56 (by first | rfl | assumption) (by first | decide | omega) (k) (by omega) (by omega) (hfw) ?_
                refine zG_astore X dX4_byRemainders_57 (by decide) rfl ?_
                refine zG_lload_n X dX4_byRemainders_59 rfl ?_
                refine zG_lload X dX4_byRemainders_60 rfl ?_
                refine zG_aload X dX4_byRemainders_62 rfl ?_
                refine zj_getv (v := wd k 0) X dX4_byRemainders_64 fl_X4_212 (by first | rfl | assumption) (by first | decide | omega) (by decide) rfl (hw0) ?_
                refine zG_aload X dX4_byRemainders_67 rfl ?_
                refine zj_getv (v := wd k 2) X dX4_byRemainders_69 fl_X4_116 (by first | rfl | assumption) (by first | decide | omega) (by decide) rfl (hwm) ?_
                refine zG_aload X dX4_byRemainders_72 rfl ?_
                refine zj_getv (v := wd k 1) X dX4_byRemainders_74 fl_X4_113 (by first | rfl | assumption) (by first | decide | omega) (by decide) rfl (hwp) ?_
                refine zj_isub X dX4_byRemainders_77 ?_
                refine zG_aload X dX4_byRemainders_78 rfl ?_
                refine zj_getv (v := wd k 0) X dX4_byRemainders_80 fl_X4_212 (by first | rfl | assumption) (by first | decide | omega) (by decide) rfl (hw0) ?_
                refine zj_callS1 (as2 := [_, _]) X (k_modulo lo (d - 1) J G F (a := wd k 2 - wd k 1) (b := wd k 0) (by unfold zr; omega) (by unfold zr; omega) (by omega)) dX4_byRemainders_83 ms_X4_modulo ml_X4_78 rfl rfl (by show d - 1 + 1 ≤ d; omega) (by show 19 + 3 + 35 * (d - 1) ≤ 35 * (d); omega) (Nat.le_of_ble_eq_true rfl) (Nat.le_of_ble_eq_true rfl) (Nat.le_of_ble_eq_true rfl) ?_
                refine zj_callS1 (as2 := [_, _, _, _]) X (k_X4_fwr lo (d - 1) J G F (x := x) (y := y) (mm := wd k 0) (q := (wd k 2 - wd k 1) % wd k 0) hx1 (by omega) (by omega) (by omega) (by omega) (by omega) hm1 hm2) dX4_byRemainders_86 ms_X4_firstWithRemainder ml_X4_215 rfl rfl (by show d - 1 + 1 ≤ d; omega) (by show 19 + 9 + 35 * (d - 1) ≤ 35 * (d); omega) (Nat.le_of_ble_eq_true rfl) (Nat.le_of_ble_eq_true rfl) (Nat.le_of_ble_eq_true rfl) ?_
                refine zG_lstore_n X dX4_byRemainders_89 (by decide) rfl ?_
                refine zG_lload_n X dX4_byRemainders_90 rfl ?_
                refine zj_lconst0 X dX4_byRemainders_91 ?_
                refine zj_lcmp_ge X dX4_byRemainders_92 dX4_byRemainders_93 (tgt := 100) (by decide) (by omega) (by omega) (fun h_92 => ?_) (fun h_92 => ?_)
                · refine zG_lload X dX4_byRemainders_100 rfl ?_
                  refine zG_aload X dX4_byRemainders_102 rfl ?_
                  refine zj_getv (v := wd k 0) X dX4_byRemainders_104 fl_X4_212 (by first | rfl | assumption) (by first | decide | omega) (by decide) rfl (hw0) ?_
                  refine zj_callS1 (as2 := [_, _]) X (k_X4_cm lo (d - 1) J G F (x := y) (mm := wd k 0) (by omega) (by omega) (by omega) (by omega)) dX4_byRemainders_107 ms_X4_commonMultiple ml_X4_219 rfl rfl (by show d - 1 + 1 ≤ d; omega) (by show 19 + 6 + 35 * (d - 1) ≤ 35 * (d); omega) (Nat.le_of_ble_eq_true rfl) (Nat.le_of_ble_eq_true rfl) (Nat.le_of_ble_eq_true rfl) ?_
                  refine zG_lstore X dX4_byRemainders_110 (by decide) rfl ?_
                  refine zj_iinc X dX4_byRemainders_112 rfl (by decide) rfl ?_
                  refine zG_goto X dX4_byRemainders_115 (tgt := 26) (by decide) ?_
                  first
                    | exact zG_sub (by exact zle_some (zle_some (zle_some (zle_none (zle_some (zle_none (zle_some (zle_none zle_nil)))))))) (ih (k + 1) x y (by rw [hall, brF_s, if_pos hb]) hx1 (by omega) hy1 (by omega) (by omega))
                    | exact zG_sub (by exact zle_some (zle_some (zle_some (zle_none (zle_some (zle_none (zle_some (zle_none zle_nil)))))))) (ih (k + 1) (fwF x y (wd k 0) ((wd k 2 - wd k 1) % wd k 0) (wd k 0).toNat 0) (cmF y (wd k 0) ((wd k 0).toNat - 1) 1) (by rw [hall, brF_s, if_neg hb, if_neg (by omega)]) (by omega) (by omega) (by omega) (by omega) (by omega))
                · refine zG_ldc2 (v := -1) X dX4_byRemainders_96 (by decide +kernel) ?_
                  refine zG_lretX X dX4_byRemainders_99 rfl (Nat.le_of_ble_eq_true rfl) (Nat.le_of_ble_eq_true rfl) ?_
                  exact ⟨if_neg (by omega), -1, _, rfl, rfl, (by rw [hall, brF_s, if_neg hb, if_pos (by omega)]), rfl, rfl, rfl⟩
      exact loop (hs 0).toNat 0 0 1 rfl (by decide) (by decide) (by decide) (by decide) (by omega)
    · exact absurd h_5 (by first | decide | omega)
  · rw [if_neg hb0]
    refine zj_if_ne X dX4_byRemainders_5 (tgt := 18) (by decide) (by first | decide | omega) (fun h_5 => ?_) (fun h_5 => ?_)
    · exact absurd h_5 (by first | decide | omega)
    · exact zG_throwS X Y hx rfl xE_a (by decide) dX4_byRemainders_8 dX4_byRemainders_11 dX4_byRemainders_12 dX4_byRemainders_14 dX4_byRemainders_17 (by show 6 ≤ d; omega) (by show 0 + 82 ≤ 35 * d; omega) (Nat.le_of_ble_eq_true rfl) (Nat.le_of_ble_eq_true rfl) (Nat.le_of_ble_eq_true rfl) (Nat.le_of_ble_eq_true rfl) (⟨Or.inl ⟨if_pos (by omega), rfl⟩, rfl, rfl, rfl⟩)
