/-! the Model: divisor, multiple, remainders -/
theorem cm_dvd {X M i : Nat} (hx : 0 < X) (hm : 0 < M) : M ∣ X * i ↔ M / Nat.gcd X M ∣ i := by
  have hg : 0 < Nat.gcd X M := Nat.gcd_pos_of_pos_left M hx
  have eX : X = Nat.gcd X M * (X / Nat.gcd X M) := (Nat.mul_div_cancel' (Nat.gcd_dvd_left X M)).symm
  have eM : M = Nat.gcd X M * (M / Nat.gcd X M) := (Nat.mul_div_cancel' (Nat.gcd_dvd_right X M)).symm
  have hc : Nat.Coprime (X / Nat.gcd X M) (M / Nat.gcd X M) := Nat.coprime_div_gcd_div_gcd hg
  constructor
  · intro h
    have h2 : Nat.gcd X M * (M / Nat.gcd X M) ∣ Nat.gcd X M * ((X / Nat.gcd X M) * i) := by
      rw [← Nat.mul_assoc, ← eX, ← eM]
      exact h
    exact hc.symm.dvd_of_dvd_mul_left (Nat.dvd_of_mul_dvd_mul_left hg h2)
  · intro h
    have h2 : Nat.gcd X M * (M / Nat.gcd X M) ∣ Nat.gcd X M * ((X / Nat.gcd X M) * i) := Nat.mul_dvd_mul_left _ (Nat.dvd_trans h (Nat.dvd_mul_left i _))
    rw [← Nat.mul_assoc, ← eX, ← eM] at h2
    exact h2
theorem cm_go {X M : Nat} (hx : 0 < X) (hm : 0 < M) : ∀ (f i : Nat), 0 < i → i ≤ M / Nat.gcd X M → M / Nat.gcd X M ≤ i + f → cmF (X : Int) (M : Int) f i = (X : Int) * ((M / Nat.gcd X M : Nat) : Int)
  | 0, i, _, h1, h2 => by
    rw [show i = M / Nat.gcd X M by omega]
    rfl
  | f + 1, i, h0, h1, h2 => by
    rw [cmF_s]
    have hd : ((X : Int) * (i : Int) % (M : Int) = 0) ↔ M / Nat.gcd X M ∣ i := by
      rw [← cm_dvd hx hm, ← Int.natCast_mul, ← Int.natCast_emod, show (0 : Int) = ((0 : Nat) : Int) from rfl, Int.natCast_inj]
      exact (Nat.dvd_iff_mod_eq_zero ..).symm
    by_cases he : i = M / Nat.gcd X M
    · rw [if_pos (hd.mpr (by rw [← he]; exact Nat.dvd_refl i)), he]
    · rw [if_neg (fun z => he (Nat.le_antisymm h1 (Nat.le_of_dvd h0 (hd.mp z))))]
      exact cm_go hx hm f (i + 1) (by omega) (by omega) (by omega)
theorem cm_lcm {X M : Nat} (hx : 0 < X) (hm : 0 < M) : cmF (X : Int) (M : Int) ((M : Int).toNat - 1) 1 = ((X / Nat.gcd X M * M : Nat) : Int) := by
  have hg : 0 < Nat.gcd X M := Nat.gcd_pos_of_pos_left M hx
  have h1 : 0 < M / Nat.gcd X M := Nat.div_pos (Nat.gcd_le_right X hm) hg
  have h2 : M / Nat.gcd X M ≤ M := Nat.div_le_self ..
  rw [cm_go hx hm _ 1 (by decide) h1 (by rw [Int.toNat_natCast]; omega), ← Int.natCast_mul]
  congr 1
  rw [← Nat.mul_div_assoc X (Nat.gcd_dvd_right X M), Nat.div_mul_right_comm (Nat.gcd_dvd_left X M)]
theorem cm_int {x m : Int} (hx : 0 < x) (hm : 0 < m) : cmF x m (m.toNat - 1) 1 = x / ((Nat.gcd x.toNat m.toNat : Nat) : Int) * m := by
  obtain ⟨X, rfl⟩ := Int.eq_ofNat_of_zero_le (Int.le_of_lt hx)
  obtain ⟨M, rfl⟩ := Int.eq_ofNat_of_zero_le (Int.le_of_lt hm)
  rw [cm_lcm (by omega) (by omega), Int.natCast_mul, Int.natCast_ediv]
  rfl
theorem gcd_step (x y : Nat) : Nat.gcd x y = Nat.gcd y (x % y) := by
  rw [Nat.gcd_comm x y, Nat.gcd_rec y x, Nat.gcd_comm]
set_option maxHeartbeats 4000000 in
set_option maxRecDepth 100000 in
theorem k_X5_divisor (lo d : Nat) (J : Nat → Nat → Int) (G : Nat → Nat → Int64) (F : Nat → Nat → Option Nat) {A B : Nat} (hA : A ≤ 1000000000000) (hB : B ≤ 1000000000000) : zCt lo yX5_divisor cX5_divisor 10 (some .long) d 0 0 [.long (lI (A : Int)), .long (lI (B : Int))] 57 57 (zM J) G F (zD [.long (lI ((Nat.gcd A B : Nat) : Int))] J G F) := by
  refine zCt.mk (by decide) (ms_X5_divisor.2.2.1) (Nat.le_of_ble_eq_true rfl) ?_
  intro p l e s m args below meth c D cA X
  have loop : ∀ (f x y : Nat), y < f → Nat.gcd A B = Nat.gcd x y → x ≤ 1000000000000 → y ≤ 1000000000000 → zG p l e { frames := d, cells := 0, slots := 0, locals := 35 * d } s m args below meth c D cA lo 10 0 0 (MQ below (zQ D cA lo 57 (zD [.long (lI ((Nat.gcd A B : Nat) : Int))] J G F)) args s 0 0 (fun q => lo ≤ q)) 57 (zM (J)) G F [some (.long (lI (A : Int))), none, some (.long (lI (B : Int))), none, some (.long (lI (x : Int))), none, some (.long (lI (y : Int))), none, none, none] [] 6 := by
    intro f
    induction f with
    | zero => intro x y h1; omega
    | succ f ih =>
      intro x y h1 hg hx hy
      by_cases hy0 : y = 0
      · subst hy0
        refine zG_lload X dX5_divisor_6 rfl ?_
        refine zj_lconst0 X dX5_divisor_8 ?_
        refine zj_lcmp_eq X dX5_divisor_9 dX5_divisor_10 (tgt := 31) (by decide) (by omega) (by omega) (fun h_9 => ?_) (fun h_9 => ?_)
        · refine zG_lload X dX5_divisor_31 rfl ?_
          refine zG_lret X dX5_divisor_33 rfl ?_
          exact zD.of (by rw [hg, Nat.gcd_zero_right]) rfl rfl rfl
        · exact absurd h_9 (by first | decide | omega)
      · refine zG_lload X dX5_divisor_6 rfl ?_
        refine zj_lconst0 X dX5_divisor_8 ?_
        refine zj_lcmp_eq X dX5_divisor_9 dX5_divisor_10 (tgt := 31) (by decide) (by omega) (by omega) (fun h_9 => ?_) (fun h_9 => ?_)
        · exact absurd h_9 (by first | decide | omega)
        · refine zG_lload X dX5_divisor_13 rfl ?_
          refine zG_lload X dX5_divisor_15 rfl ?_
          refine zj_lrem X dX5_divisor_17 (by omega) (by omega) (by omega) (by omega) ?_
          refine zG_lstore X dX5_divisor_18 (by decide) rfl ?_
          refine zG_lload X dX5_divisor_20 rfl ?_
          refine zG_lstore X dX5_divisor_22 (by decide) rfl ?_
          refine zG_lload X dX5_divisor_24 rfl ?_
          refine zG_lstore X dX5_divisor_26 (by decide) rfl ?_
          refine zG_goto X dX5_divisor_28 (tgt := 6) (by decide) ?_
          have hi := ih y (x % y) (by have := Nat.mod_lt x (show 0 < y by omega); omega) (by rw [hg, gcd_step]) hy (by have := Nat.mod_le x y; omega)
          rw [show ((x % y : Nat) : Int) = (x : Int) % (y : Int) from Int.natCast_emod x y] at hi
          exact zG_sub (zle_some (zle_none (zle_some (zle_none (zle_some (zle_none (zle_some (zle_none (zle_none (zle_none zle_nil)))))))))) hi
  refine zG_lload_n X dX5_divisor_0 rfl ?_
  refine zG_lstore X dX5_divisor_1 (by decide) rfl ?_
  refine zG_lload_n X dX5_divisor_3 rfl ?_
  refine zG_lstore X dX5_divisor_4 (by decide) rfl ?_
  exact loop (B + 1) A B (by omega) rfl hA hB
set_option maxHeartbeats 4000000 in
theorem k_X5_divI (lo d : Nat) (J : Nat → Nat → Int) (G : Nat → Nat → Int64) (F : Nat → Nat → Option Nat) {a b : Int} (a0 : 0 ≤ a) (a1 : a ≤ 1000000000000) (b0 : 0 ≤ b) (b1 : b ≤ 1000000000000) : zCt lo yX5_divisor cX5_divisor 10 (some .long) d 0 0 [.long (lI a), .long (lI b)] 57 57 (zM J) G F (zD [.long (lI ((Nat.gcd a.toNat b.toNat : Nat) : Int))] J G F) := by
  obtain ⟨A, rfl⟩ := Int.eq_ofNat_of_zero_le a0
  obtain ⟨B, rfl⟩ := Int.eq_ofNat_of_zero_le b0
  exact k_X5_divisor lo d J G F (by omega) (by omega)
set_option maxHeartbeats 4000000 in
set_option maxRecDepth 100000 in
theorem k_X5_multipleOf (lo d : Nat) (hd : 2 ≤ d) (J : Nat → Nat → Int) (G : Nat → Nat → Int64) (F : Nat → Nat → Option Nat) (hF : zFk F) {hs : Nat → Int} {wd : Nat → Nat → Int} {sb : Nat → Bool} (mh : mH (J 51) hs wd sb) (ok : hwOk hs wd) {u : Int} (hu : zr u) (u0 : 0 ≤ u) : zCt lo yX5_multipleOf cX5_multipleOf 7 (some .long) d 0 0 [.ref (lo + 50), .int (zI u)] 57 57 (zM J) G F (zD [.long (lI (muF wd u (hs 0).toNat))] J G F) := by
  refine zCt.mk (by decide) (mv_X5_multipleOf.2.2.2.1) (Nat.le_of_ble_eq_true rfl) ?_
  intro p l e s m args below meth c D cA X
  have hok := ok.1
  unfold hOk at hok
  have hc5 : (hs 0).toNat ≤ 5 := by omega
  have e0 := mh.1 0 (by decide)
  have po := pT_ok ok
  have vm := mV_H mh
  have loop : ∀ (q k : Nat), k + q = (hs 0).toNat → zG p l e { frames := d, cells := 0, slots := 0, locals := 35 * d } s m args below meth c D cA lo 7 0 0 (MQ below (zQ D cA lo 57 (zD [.long (lI (muF wd u (hs 0).toNat))] J G F)) args s 0 0 (fun q => lo ≤ q)) 57 (zM (J)) G F [some (.ref (lo + 50)), some (.int (zI u)), some (.long (lI (muF wd u k))), none, some (.int (zI (k : Int))), none, none] [] 5 := by
    intro q
    induction q with
    | zero =>
      intro k  hk
      obtain rfl : k = (hs 0).toNat := by omega
      refine zG_iload X dX5_multipleOf_5 rfl ?_
      refine zG_aload_n X dX5_multipleOf_7 rfl ?_
      refine zG_getR X dX5_multipleOf_8 fl_X5_7 (by first | rfl | assumption) (by first | decide | omega) (by decide) rfl (by first | exact zF_at hF rfl rfl | assumption) ?_
      refine zj_iconst X dX5_multipleOf_11 ?_
      refine zj_ialoadv (v := hs 0) X dX5_multipleOf_12 (by first | rfl | assumption) (by first | decide | omega) (0) (by decide) (by decide) (e0) ?_
      refine zj_icmp_ge X dX5_multipleOf_13 (tgt := 58) (by decide) (by first | decide | omega) (by first | decide | omega) (fun h_13 => ?_) (fun h_13 => ?_)
      · refine zG_lload_n X dX5_multipleOf_58 rfl ?_
        refine zG_lret X dX5_multipleOf_59 rfl ?_
        exact zD.rf
      · exact absurd h_13 (by first | decide | omega)
    | succ q ih =>
      intro k  hk
      by_cases hb : u / 2 ^ k % 2 = 0
      · have hwk := hwOk_w ok (k := k) (by omega)
        have hmu := muF_in (u := u) ok.2 k (by omega)
        have h60 := z60_in (k := k) (by omega)
        have hq1 : 0 ≤ u / 2 ^ k := Int.ediv_nonneg (by omega) (Int.le_of_lt (Int.pow_pos (by decide)))
        have hq2 : u / 2 ^ k ≤ u := Int.ediv_le_self _ (by omega)
        have hof : J 51 (13 + 7 * k + 0) = wd k 0 := mh.2.1 k (by omega) 0 (by decide)
        refine zG_iload X dX5_multipleOf_5 rfl ?_
        refine zG_aload_n X dX5_multipleOf_7 rfl ?_
        refine zG_getR X dX5_multipleOf_8 fl_X5_7 (by first | rfl | assumption) (by first | decide | omega) (by decide) rfl (by first | exact zF_at hF rfl rfl | assumption) ?_
        refine zj_iconst X dX5_multipleOf_11 ?_
        refine zj_ialoadv (v := hs 0) X dX5_multipleOf_12 (by first | rfl | assumption) (by first | decide | omega) (0) (by decide) (by decide) (e0) ?_
        refine zj_icmp_ge X dX5_multipleOf_13 (tgt := 58) (by decide) (by first | decide | omega) (by first | decide | omega) (fun h_13 => ?_) (fun h_13 => ?_)
        · exact absurd h_13 (by first | decide | omega)
        · refine zG_iload_n X dX5_multipleOf_16 rfl ?_
          refine zG_iload X dX5_multipleOf_17 rfl ?_
          refine zj_ishr X dX5_multipleOf_19 (by omega) (by omega) (by omega) ?_
          refine zj_iconst X dX5_multipleOf_20 ?_
          refine zj_iand1 X dX5_multipleOf_21 (by omega) (by omega) ?_
          refine zj_iconst X dX5_multipleOf_22 ?_
          refine zj_icmp_ne X dX5_multipleOf_23 (tgt := 37) (by decide) (by first | decide | omega) (by first | decide | omega) (fun h_23 => ?_) (fun h_23 => ?_)
          · refine zj_lconst1 X dX5_multipleOf_37 ?_
            refine zG_lstore X dX5_multipleOf_38 (by decide) rfl ?_
            refine zG_lload_n X dX5_multipleOf_40 rfl ?_
            refine zG_lload_n X dX5_multipleOf_41 rfl ?_
            refine zG_lload X dX5_multipleOf_42 rfl ?_
            refine zj_callS1 (as2 := [_, _]) X (k_X5_divI lo (d - 1) J G F (a := (muF wd u k)) (b := 1) (by omega) (by omega) (by decide) (by decide)) dX5_multipleOf_44 ms_X5_divisor ml_X5_132 rfl rfl (by show d - 1 + 1 ≤ d; omega) (by show 19 + 10 + 35 * (d - 1) ≤ 35 * (d); omega) (Nat.le_of_ble_eq_true rfl) (Nat.le_of_ble_eq_true rfl) (Nat.le_of_ble_eq_true rfl) ?_
            rw [show Nat.gcd (muF wd u k).toNat (1 : Int).toNat = 1 from Nat.gcd_one_right _]
            refine zj_ldiv X dX5_multipleOf_47 (by unfold lr; omega) (by unfold lr; omega) (by omega) (by omega) ?_
            refine zG_lload X dX5_multipleOf_48 rfl ?_
            refine zj_lmul X dX5_multipleOf_50 ?_
            refine zG_lstore_n X dX5_multipleOf_51 (by decide) rfl ?_
            refine zj_iinc X dX5_multipleOf_52 rfl (by decide) rfl ?_
            refine zG_goto X dX5_multipleOf_55 (tgt := 5) (by decide) ?_
            have hi := ih (k + 1) (by omega)
            rw [muF_s, if_pos hb] at hi
            rw [show (muF wd u k) / ((1 : Nat) : Int) * 1 = (muF wd u k) from by rw [Int.mul_one]; exact Int.ediv_one _]
            exact zG_sub (zle_some (zle_some (zle_some (zle_none (zle_some (zle_none (zle_none zle_nil))))))) hi
          · exact absurd h_23 (by first | decide | omega)
      · have hwk := hwOk_w ok (k := k) (by omega)
        have hmu := muF_in (u := u) ok.2 k (by omega)
        have h60 := z60_in (k := k) (by omega)
        have hq1 : 0 ≤ u / 2 ^ k := Int.ediv_nonneg (by omega) (Int.le_of_lt (Int.pow_pos (by decide)))
        have hq2 : u / 2 ^ k ≤ u := Int.ediv_le_self _ (by omega)
        have hof : J 51 (13 + 7 * k + 0) = wd k 0 := mh.2.1 k (by omega) 0 (by decide)
        have hg0 : 0 < Nat.gcd (muF wd u k).toNat (wd k 0).toNat := Nat.gcd_pos_of_pos_left _ (by omega)
        have hg1 : Nat.gcd (muF wd u k).toNat (wd k 0).toNat ≤ (muF wd u k).toNat := Nat.gcd_le_left _ (by omega)
        refine zG_iload X dX5_multipleOf_5 rfl ?_
        refine zG_aload_n X dX5_multipleOf_7 rfl ?_
        refine zG_getR X dX5_multipleOf_8 fl_X5_7 (by first | rfl | assumption) (by first | decide | omega) (by decide) rfl (by first | exact zF_at hF rfl rfl | assumption) ?_
        refine zj_iconst X dX5_multipleOf_11 ?_
        refine zj_ialoadv (v := hs 0) X dX5_multipleOf_12 (by first | rfl | assumption) (by first | decide | omega) (0) (by decide) (by decide) (e0) ?_
        refine zj_icmp_ge X dX5_multipleOf_13 (tgt := 58) (by decide) (by first | decide | omega) (by first | decide | omega) (fun h_13 => ?_) (fun h_13 => ?_)
        · exact absurd h_13 (by first | decide | omega)
        · refine zG_iload_n X dX5_multipleOf_16 rfl ?_
          refine zG_iload X dX5_multipleOf_17 rfl ?_
          refine zj_ishr X dX5_multipleOf_19 (by omega) (by omega) (by omega) ?_
          refine zj_iconst X dX5_multipleOf_20 ?_
          refine zj_iand1 X dX5_multipleOf_21 (by omega) (by omega) ?_
          refine zj_iconst X dX5_multipleOf_22 ?_
          refine zj_icmp_ne X dX5_multipleOf_23 (tgt := 37) (by decide) (by first | decide | omega) (by first | decide | omega) (fun h_23 => ?_) (fun h_23 => ?_)
          · exact absurd h_23 (by first | decide | omega)
          · refine zG_aload_n X dX5_multipleOf_26 rfl ?_
            refine zG_iload X dX5_multipleOf_27 rfl ?_
            refine zj_iconst X dX5_multipleOf_29 ?_
            refine zj_callV1 (as2 := [_, _]) X (k_X5_ofv lo (d - 1) (by omega) J G F hF (u := (k : Int)) (v := 0) (x := wd k 0) k 0 (by omega) (by omega) rfl rfl hof) dX5_multipleOf_30 mv_X5_of ml_X5_45 (by first | rfl | assumption) rfl (by first | decide | omega) rfl rfl (by show d - 1 + 1 ≤ d; omega) (by show 19 + 3 + 35 * (d - 1) ≤ 35 * (d); omega) (Nat.le_of_ble_eq_true rfl) (Nat.le_of_ble_eq_true rfl) (Nat.le_of_ble_eq_true rfl) ?_
            refine zj_i2l X dX5_multipleOf_33 (by omega) ?_
            refine zG_goto X dX5_multipleOf_34 (tgt := 38) (by decide) ?_
            refine zG_lstore X dX5_multipleOf_38 (by decide) rfl ?_
            refine zG_lload_n X dX5_multipleOf_40 rfl ?_
            refine zG_lload_n X dX5_multipleOf_41 rfl ?_
            refine zG_lload X dX5_multipleOf_42 rfl ?_
            refine zj_callS1 (as2 := [_, _]) X (k_X5_divI lo (d - 1) J G F (a := (muF wd u k)) (b := wd k 0) (by omega) (by omega) (by omega) (by omega)) dX5_multipleOf_44 ms_X5_divisor ml_X5_132 rfl rfl (by show d - 1 + 1 ≤ d; omega) (by show 19 + 10 + 35 * (d - 1) ≤ 35 * (d); omega) (Nat.le_of_ble_eq_true rfl) (Nat.le_of_ble_eq_true rfl) (Nat.le_of_ble_eq_true rfl) ?_
            refine zj_ldiv X dX5_multipleOf_47 (by unfold lr; omega) (by unfold lr; omega) (by omega) (by omega) ?_
            refine zG_lload X dX5_multipleOf_48 rfl ?_
            refine zj_lmul X dX5_multipleOf_50 ?_
            refine zG_lstore_n X dX5_multipleOf_51 (by decide) rfl ?_
            refine zj_iinc X dX5_multipleOf_52 rfl (by decide) rfl ?_
            refine zG_goto X dX5_multipleOf_55 (tgt := 5) (by decide) ?_
            have hi := ih (k + 1) (by omega)
            rw [muF_s, if_neg hb, cm_int (by omega) (by omega)] at hi
            exact zG_sub (zle_some (zle_some (zle_some (zle_none (zle_some (zle_none (zle_none zle_nil))))))) hi
  refine zj_lconst1 X dX5_multipleOf_0 ?_
  refine zG_lstore_n X dX5_multipleOf_1 (by decide) rfl ?_
  refine zj_iconst X dX5_multipleOf_2 ?_
  refine zG_istore X dX5_multipleOf_3 (by decide) rfl ?_
  have h0 := loop (hs 0).toNat 0 (by omega)
  exact zG_sub (zle_some (zle_some (zle_some (zle_none (zle_some (zle_none (zle_none zle_nil))))))) h0
def zMRL (r A : Int) (J Jn : Nat → Nat → Int) (G : Nat → Nat → Int64) (F : Nat → Nat → Option Nat) : List Value → (Nat → Nat → Int32) → (Nat → Nat → Int64) → (Nat → Nat → Option Nat) → Prop := fun v I2 G2 F2 => G2 = G ∧ F2 = F ∧ ∃ (a : Int) (J2 : Nat → Nat → Int), v = [.long (lI a)] ∧ I2 = zM J2 ∧ J2 50 4 = r ∧ (r = 0 → a = A) ∧ sameM J2 (if r = 0 then Jn else J)
theorem zMRL.no {r A k a : Int} {J Jn : Nat → Nat → Int} {G : Nat → Nat → Int64} {F : Nat → Nat → Option Nat} (h : r = k) (hk : k ≠ 0) : zMRL r A J Jn G F [.long (lI a)] (zM (zup J 50 4 k)) G F := by
  subst h
  exact ⟨rfl, rfl, _, _, rfl, rfl, zup_eq, fun z => absurd z hk, by rw [if_neg hk]; exact sameM_r⟩
theorem zMRL.yes {r A a : Int} {J : Nat → Nat → Int} {G : Nat → Nat → Int64} {F : Nat → Nat → Option Nat} (h : r = 0) (ha : a = A) : zMRL r A J J G F [.long (lI a)] (zM (zup J 50 4 0)) G F := by
  subst h
  exact ⟨rfl, rfl, _, _, rfl, rfl, zup_eq, fun _ => ha, by rw [if_pos rfl]; exact sameM_r⟩
set_option maxHeartbeats 4000000 in
set_option maxRecDepth 100000 in
theorem k_X5_multiple (lo d : Nat) (hd : 3 ≤ d) (J : Nat → Nat → Int) (G : Nat → Nat → Int64) (F : Nat → Nat → Option Nat) (hF : zFk F) {hs : Nat → Int} {wd : Nat → Nat → Int} {sb : Nat → Bool} (mh : mH (J 51) hs wd sb) (ok : hwOk hs wd) {u : Int} (hu : zr u) : zCt lo yX5_multiple cX5_multiple 2 (some .long) d 0 0 [.ref (lo + 50), .int (zI u)] 57 57 (zM J) G F (zMRL (if ¬ (0 < u ∧ u < 2 ^ (J 51 0).toNat) then 1 else 0) (muF wd u (hs 0).toNat) J J G F) := by
  refine zCt.mk (by decide) (mv_X5_multiple.2.2.2.1) (Nat.le_of_ble_eq_true rfl) ?_
  intro p l e s m args below meth c D cA X
  have hok := ok.1
  unfold hOk at hok
  have hc5 : (hs 0).toNat ≤ 5 := by omega
  have e0 := mh.1 0 (by decide)
  have po := pT_ok ok
  have vm := mV_H mh
  refine zG_aload_n X dX5_multiple_0 rfl ?_
  refine zG_aload_n X dX5_multiple_1 rfl ?_
  refine zG_iload_n X dX5_multiple_2 rfl ?_
  refine zj_callV1 (as2 := [_]) X (k_X5_isSet lo (d - 1) (by omega) J G F hF (u := u) hu (by omega) (by omega)) dX5_multiple_3 mv_X5_isSet ml_X5_126 (by first | rfl | assumption) rfl (by first | decide | omega) rfl rfl (by show d - 1 + 1 ≤ d; omega) (by show 19 + 2 + 35 * (d - 1) ≤ 35 * (d); omega) (Nat.le_of_ble_eq_true rfl) (Nat.le_of_ble_eq_true rfl) (Nat.le_of_ble_eq_true rfl) ?_
  by_cases hb : 0 < u ∧ u < 2 ^ (J 51 0).toNat
  · rw [if_pos hb]
    refine zj_if_eq X dX5_multiple_6 (tgt := 13) (by decide) (by first | decide | omega) (fun h_6 => ?_) (fun h_6 => ?_)
    · exact absurd h_6 (by first | decide | omega)
    · refine zj_iconst X dX5_multiple_9 ?_
      refine zG_goto X dX5_multiple_10 (tgt := 14) (by decide) ?_
      refine zj_callV1 (as2 := [_]) X (k_X5_refused lo (d - 1) J G F (x := 0) (by decide)) dX5_multiple_14 mv_X5_refused ml_X5_33 (by first | rfl | assumption) rfl (by first | decide | omega) rfl rfl (by show d - 1 + 1 ≤ d; omega) (by show 19 + 2 + 35 * (d - 1) ≤ 35 * (d); omega) (Nat.le_of_ble_eq_true rfl) (Nat.le_of_ble_eq_true rfl) (Nat.le_of_ble_eq_true rfl) ?_
      refine zj_if_eq X dX5_multiple_17 (tgt := 24) (by decide) (by first | decide | omega) (fun h_17 => ?_) (fun h_17 => ?_)
      · refine zG_aload_n X dX5_multiple_24 rfl ?_
        refine zG_iload_n X dX5_multiple_25 rfl ?_
        refine zj_callV1 (as2 := [_]) X (k_X5_multipleOf lo (d - 1) (by omega) (zup J 50 4 0) G F hF (mH_r mh) ok (u := u) hu (by omega)) dX5_multiple_26 mv_X5_multipleOf ml_X5_136 (by first | rfl | assumption) rfl (by first | decide | omega) rfl rfl (by show d - 1 + 1 ≤ d; omega) (by show 19 + 7 + 35 * (d - 1) ≤ 35 * (d); omega) (Nat.le_of_ble_eq_true rfl) (Nat.le_of_ble_eq_true rfl) (Nat.le_of_ble_eq_true rfl) ?_
        refine zG_lret X dX5_multiple_29 rfl ?_
        first
          | exact zMRL.no (a := 0) (if_pos hb) (by decide)
          | exact zMRL.yes (if_neg (fun z => z hb)) rfl
      · exact absurd h_17 (by first | decide | omega)
  · rw [if_neg hb]
    refine zj_if_eq X dX5_multiple_6 (tgt := 13) (by decide) (by first | decide | omega) (fun h_6 => ?_) (fun h_6 => ?_)
    · refine zj_iconst X dX5_multiple_13 ?_
      refine zj_callV1 (as2 := [_]) X (k_X5_refused lo (d - 1) J G F (x := 1) (by decide)) dX5_multiple_14 mv_X5_refused ml_X5_33 (by first | rfl | assumption) rfl (by first | decide | omega) rfl rfl (by show d - 1 + 1 ≤ d; omega) (by show 19 + 2 + 35 * (d - 1) ≤ 35 * (d); omega) (Nat.le_of_ble_eq_true rfl) (Nat.le_of_ble_eq_true rfl) (Nat.le_of_ble_eq_true rfl) ?_
      refine zj_if_eq X dX5_multiple_17 (tgt := 24) (by decide) (by first | decide | omega) (fun h_17 => ?_) (fun h_17 => ?_)
      · exact absurd h_17 (by first | decide | omega)
      · refine zj_lconst0 X dX5_multiple_20 ?_
        refine zG_goto X dX5_multiple_21 (tgt := 29) (by decide) ?_
        refine zG_lret X dX5_multiple_29 rfl ?_
        first
          | exact zMRL.no (a := 0) (if_pos hb) (by decide)
          | exact zMRL.yes (if_neg (fun z => z hb)) rfl
    · exact absurd h_6 (by first | decide | omega)
set_option maxHeartbeats 4000000 in
set_option maxRecDepth 100000 in
theorem k_X5_byRemainders (lo d : Nat) (hd : 3 ≤ d) (J : Nat → Nat → Int) (G : Nat → Nat → Int64) (F : Nat → Nat → Option Nat) (hF : zFk F) {hs : Nat → Int} {wd : Nat → Nat → Int} {sb : Nat → Bool} (mh : mH (J 51) hs wd sb) (ok : hwOk hs wd) {u : Int} (hu : zr u) : zCt lo yX5_byRemainders cX5_byRemainders 10 (some .long) d 0 0 [.ref (lo + 50), .int (zI u)] 57 57 (zM J) G F (zMRL (if ¬ (0 < u ∧ u < 2 ^ (J 51 0).toNat) then 1 else 0) (brF wd u (hs 0).toNat 0 0 1) J J G F) := by
  refine zCt.mk (by decide) (mv_X5_byRemainders.2.2.2.1) (Nat.le_of_ble_eq_true rfl) ?_
  intro p l e s m args below meth c D cA X
  have hok := ok.1
  unfold hOk at hok
  have hc5 : (hs 0).toNat ≤ 5 := by omega
  have e0 := mh.1 0 (by decide)
  have po := pT_ok ok
  have vm := mV_H mh
  by_cases hb : 0 < u ∧ u < 2 ^ (J 51 0).toNat
  · have loop : ∀ (q k : Nat) (x : Int) (y : Int) (x0 : 0 ≤ x) (x1 : x ≤ 46656000000 * k) (y0 : 0 < y) (y1 : y ≤ z60 k) (hall : brF wd u (hs 0).toNat 0 0 1 = brF wd u q k x y), k + q = (hs 0).toNat → zG p l e { frames := d, cells := 0, slots := 0, locals := 35 * d } s m args below meth c D cA lo 10 0 0 (MQ below (zQ D cA lo 57 (zMRL (if ¬ (0 < u ∧ u < 2 ^ (J 51 0).toNat) then 1 else 0) (brF wd u (hs 0).toNat 0 0 1) J J G F)) args s 0 0 (fun q => lo ≤ q)) 57 (zM ((zup J 50 4 0))) G F [some (.ref (lo + 50)), some (.int (zI u)), some (.long (lI x)), none, some (.long (lI y)), none, some (.int (zI (k : Int))), none, none, none] [] 30 := by
      intro q
      induction q with
      | zero =>
        intro k x y x0 x1 y0 y1 hall hk
        obtain rfl : k = (hs 0).toNat := by omega
        refine zG_iload X dX5_byRemainders_30 rfl ?_
        refine zG_aload_n X dX5_byRemainders_32 rfl ?_
        refine zG_getR X dX5_byRemainders_33 fl_X5_7 (by first | rfl | assumption) (by first | decide | omega) (by decide) rfl (by first | exact zF_at hF rfl rfl | assumption) ?_
        refine zj_iconst X dX5_byRemainders_36 ?_
        refine zj_ialoadv (v := hs 0) X dX5_byRemainders_37 (by first | rfl | assumption) (by first | decide | omega) (0) (by decide) (by decide) (z51.trans e0) ?_
        refine zj_icmp_ge X dX5_byRemainders_38 (tgt := 154) (by decide) (by first | decide | omega) (by first | decide | omega) (fun h_38 => ?_) (fun h_38 => ?_)
        · refine zG_lload_n X dX5_byRemainders_154 rfl ?_
          refine zG_lret X dX5_byRemainders_155 rfl ?_
          exact zMRL.yes (if_neg (fun z => z hb)) (by rw [hall]; rfl)
        · exact absurd h_38 (by first | decide | omega)
      | succ q ih =>
        intro k x y x0 x1 y0 y1 hall hk
        by_cases hb2 : u / 2 ^ k % 2 = 0
        · have hwk := hwOk_w ok (k := k) (by omega)
          have h60 := z60_in (k := k) (by omega)
          have hq1 : 0 ≤ u / 2 ^ k := Int.ediv_nonneg (by omega) (Int.le_of_lt (Int.pow_pos (by decide)))
          have hq2 : u / 2 ^ k ≤ u := Int.ediv_le_self _ (by omega)
          rw [brF_s] at hall
          rw [if_pos hb2] at hall
          refine zG_iload X dX5_byRemainders_30 rfl ?_
          refine zG_aload_n X dX5_byRemainders_32 rfl ?_
          refine zG_getR X dX5_byRemainders_33 fl_X5_7 (by first | rfl | assumption) (by first | decide | omega) (by decide) rfl (by first | exact zF_at hF rfl rfl | assumption) ?_
          refine zj_iconst X dX5_byRemainders_36 ?_
          refine zj_ialoadv (v := hs 0) X dX5_byRemainders_37 (by first | rfl | assumption) (by first | decide | omega) (0) (by decide) (by decide) (z51.trans e0) ?_
          refine zj_icmp_ge X dX5_byRemainders_38 (tgt := 154) (by decide) (by first | decide | omega) (by first | decide | omega) (fun h_38 => ?_) (fun h_38 => ?_)
          · exact absurd h_38 (by first | decide | omega)
          · refine zG_iload_n X dX5_byRemainders_41 rfl ?_
            refine zG_iload X dX5_byRemainders_42 rfl ?_
            refine zj_ishr X dX5_byRemainders_44 (by omega) (by omega) (by omega) ?_
            refine zj_iconst X dX5_byRemainders_45 ?_
            refine zj_iand1 X dX5_byRemainders_46 (by omega) (by omega) ?_
            refine zj_iconst X dX5_byRemainders_47 ?_
            refine zj_icmp_ne X dX5_byRemainders_48 (tgt := 148) (by decide) (by first | decide | omega) (by first | decide | omega) (fun h_48 => ?_) (fun h_48 => ?_)
            · refine zj_iinc X dX5_byRemainders_148 rfl (by decide) rfl ?_
              refine zG_goto X dX5_byRemainders_151 (tgt := 30) (by decide) ?_
              exact ih (k + 1) x y x0 (by omega) y0 (by rw [z60_s]; omega) hall (by omega)
            · exact absurd h_48 (by first | decide | omega)
        · have hwk := hwOk_w ok (k := k) (by omega)
          have h60 := z60_in (k := k) (by omega)
          have hq1 : 0 ≤ u / 2 ^ k := Int.ediv_nonneg (by omega) (Int.le_of_lt (Int.pow_pos (by decide)))
          have hq2 : u / 2 ^ k ≤ u := Int.ediv_le_self _ (by omega)
          rw [brF_s] at hall
          rw [if_neg hb2] at hall
          have hQ0 : 0 ≤ ((wd k 2 - wd k 1) % wd k 0) := Int.emod_nonneg _ (by omega)
          have hQ1 : ((wd k 2 - wd k 1) % wd k 0) < wd k 0 := Int.emod_lt_of_pos _ (by omega)
          have inner : ∀ (q2 i : Nat) (hfw : fwF x y (wd k 0) ((wd k 2 - wd k 1) % wd k 0) (wd k 0).toNat 0 = fwF x y (wd k 0) ((wd k 2 - wd k 1) % wd k 0) q2 i) (hor : i = 0 ∨ x % wd k 0 ≠ ((wd k 2 - wd k 1) % wd k 0)), i + q2 = (wd k 0).toNat → zG p l e { frames := d, cells := 0, slots := 0, locals := 35 * d } s m args below meth c D cA lo 10 0 0 (MQ below (zQ D cA lo 57 (zMRL (if ¬ (0 < u ∧ u < 2 ^ (J 51 0).toNat) then 1 else 0) (brF wd u (hs 0).toNat 0 0 1) J J G F)) args s 0 0 (fun q => lo ≤ q)) 57 (zM ((zup J 50 4 0))) G F [some (.ref (lo + 50)), some (.int (zI u)), some (.long (lI (x + (i : Int) * y))), none, some (.long (lI y)), none, some (.int (zI (k : Int))), some (.int (zI (wd k 0))), some (.int (zI ((wd k 2 - wd k 1) % wd k 0))), some (.int (zI (i : Int)))] [] 85 := by
            intro q2
            induction q2 with
            | zero =>
              intro i hfw hor hi2
              obtain rfl : i = (wd k 0).toNat := by omega
              have hky := zky (k := (wd k 0).toNat) (y := y) (Y := 777600000) (by omega) (by omega) (by omega)
              have hm1 : 0 ≤ (x + (((wd k 0).toNat : Nat) : Int) * y) % wd k 0 := Int.emod_nonneg _ (by omega)
              have hm2 : (x + (((wd k 0).toNat : Nat) : Int) * y) % wd k 0 < wd k 0 := Int.emod_lt_of_pos _ (by omega)
              have hne : (x + (((wd k 0).toNat : Nat) : Int) * y) % wd k 0 ≠ ((wd k 2 - wd k 1) % wd k 0) := by
                rw [show ((wd k 0).toNat : Int) = wd k 0 by omega, Int.add_mul_emod_self_left]
                rcases hor with h | h
                · omega
                · exact h
              refine zG_iload X dX5_byRemainders_85 rfl ?_
              refine zG_iload X dX5_byRemainders_87 rfl ?_
              refine zj_icmp_ge X dX5_byRemainders_89 (tgt := 115) (by decide) (by first | decide | omega) (by first | decide | omega) (fun h_89 => ?_) (fun h_89 => ?_)
              · refine zG_lload_n X dX5_byRemainders_115 rfl ?_
                refine zG_iload X dX5_byRemainders_116 rfl ?_
                refine zj_i2l X dX5_byRemainders_118 (by omega) ?_
                refine zj_lrem X dX5_byRemainders_119 (by omega) (by omega) (by omega) (by omega) ?_
                refine zG_iload X dX5_byRemainders_120 rfl ?_
                refine zj_i2l X dX5_byRemainders_122 (by omega) ?_
                refine zj_lcmp_eq X dX5_byRemainders_123 dX5_byRemainders_124 (tgt := 131) (by decide) (by omega) (by omega) (fun h_123 => ?_) (fun h_123 => ?_)
                · exact absurd h_123 (by first | decide | omega)
                · refine zG_ldc2 (v := -1) X dX5_byRemainders_127 (by decide +kernel) ?_
                  refine zG_lret X dX5_byRemainders_130 rfl ?_
                  rw [show ((-1 : Int64)) = lI (-1) from by decide]
                  exact zMRL.yes (a := -1) (if_neg (fun z => z hb)) (by rw [hall, hfw]; exact (if_pos (show fwF x y (wd k 0) ((wd k 2 - wd k 1) % wd k 0) 0 (wd k 0).toNat < 0 from by show (-1 : Int) < 0; decide)).symm)
              · exact absurd h_89 (by first | decide | omega)
            | succ q2 ihi =>
              intro i hfw hor hi2
              have hky := zky (k := i) (y := y) (Y := 777600000) (by omega) (by omega) (by omega)
              have hm1 : 0 ≤ (x + (i : Int) * y) % wd k 0 := Int.emod_nonneg _ (by omega)
              have hm2 : (x + (i : Int) * y) % wd k 0 < wd k 0 := Int.emod_lt_of_pos _ (by omega)
              rw [fwF_s] at hfw
              by_cases he : (x + (i : Int) * y) % wd k 0 = ((wd k 2 - wd k 1) % wd k 0)
              · rw [if_pos he] at hfw
                refine zG_iload X dX5_byRemainders_85 rfl ?_
                refine zG_iload X dX5_byRemainders_87 rfl ?_
                refine zj_icmp_ge X dX5_byRemainders_89 (tgt := 115) (by decide) (by first | decide | omega) (by first | decide | omega) (fun h_89 => ?_) (fun h_89 => ?_)
                · exact absurd h_89 (by first | decide | omega)
                · refine zG_lload_n X dX5_byRemainders_92 rfl ?_
                  refine zG_iload X dX5_byRemainders_93 rfl ?_
                  refine zj_i2l X dX5_byRemainders_95 (by omega) ?_
                  refine zj_lrem X dX5_byRemainders_96 (by omega) (by omega) (by omega) (by omega) ?_
                  refine zG_iload X dX5_byRemainders_97 rfl ?_
                  refine zj_i2l X dX5_byRemainders_99 (by omega) ?_
                  refine zj_lcmp_eq X dX5_byRemainders_100 dX5_byRemainders_101 (tgt := 115) (by decide) (by omega) (by omega) (fun h_100 => ?_) (fun h_100 => ?_)
                  · have hg0 : 0 < Nat.gcd y.toNat (wd k 0).toNat := Nat.gcd_pos_of_pos_left _ (by omega)
                    have hg1 : Nat.gcd y.toNat (wd k 0).toNat ≤ y.toNat := Nat.gcd_le_left _ (by omega)
                    have hc60 := cm_60 (x := y) (m := wd k 0) (k := k) y0 y1 (by omega) (by omega)
                    refine zG_lload_n X dX5_byRemainders_115 rfl ?_
                    refine zG_iload X dX5_byRemainders_116 rfl ?_
                    refine zj_i2l X dX5_byRemainders_118 (by omega) ?_
                    refine zj_lrem X dX5_byRemainders_119 (by omega) (by omega) (by omega) (by omega) ?_
                    refine zG_iload X dX5_byRemainders_120 rfl ?_
                    refine zj_i2l X dX5_byRemainders_122 (by omega) ?_
                    refine zj_lcmp_eq X dX5_byRemainders_123 dX5_byRemainders_124 (tgt := 131) (by decide) (by omega) (by omega) (fun h_123 => ?_) (fun h_123 => ?_)
                    · refine zG_lload X dX5_byRemainders_131 rfl ?_
                      refine zG_lload X dX5_byRemainders_133 rfl ?_
                      refine zG_iload X dX5_byRemainders_135 rfl ?_
                      refine zj_i2l X dX5_byRemainders_137 (by omega) ?_
                      refine zj_callS1 (as2 := [_, _]) X (k_X5_divI lo (d - 1) (zup J 50 4 0) G F (a := y) (b := wd k 0) (by omega) (by omega) (by omega) (by omega)) dX5_byRemainders_138 ms_X5_divisor ml_X5_132 rfl rfl (by show d - 1 + 1 ≤ d; omega) (by show 19 + 10 + 35 * (d - 1) ≤ 35 * (d); omega) (Nat.le_of_ble_eq_true rfl) (Nat.le_of_ble_eq_true rfl) (Nat.le_of_ble_eq_true rfl) ?_
                      refine zj_ldiv X dX5_byRemainders_141 (by unfold lr; omega) (by unfold lr; omega) (by omega) (by omega) ?_
                      refine zG_iload X dX5_byRemainders_142 rfl ?_
                      refine zj_i2l X dX5_byRemainders_144 (by omega) ?_
                      refine zj_lmul X dX5_byRemainders_145 ?_
                      refine zG_lstore X dX5_byRemainders_146 (by decide) rfl ?_
                      refine zj_iinc X dX5_byRemainders_148 rfl (by decide) rfl ?_
                      refine zG_goto X dX5_byRemainders_151 (tgt := 30) (by decide) ?_
                      have hi := ih (k + 1) (x + (i : Int) * y) (cmF y (wd k 0) ((wd k 0).toNat - 1) 1) (by omega) (by omega) hc60.1 hc60.2 (by rw [hall, hfw, if_neg (by omega)]) (by omega)
                      rw [cm_int (by omega) (by omega)] at hi
                      exact zG_sub (zle_some (zle_some (zle_some (zle_none (zle_some (zle_none (zle_some (zle_none (zle_none (zle_none zle_nil)))))))))) hi
                    · exact absurd h_123 (by first | decide | omega)
                  · exact absurd h_100 (by first | decide | omega)
              · rw [if_neg he] at hfw
                refine zG_iload X dX5_byRemainders_85 rfl ?_
                refine zG_iload X dX5_byRemainders_87 rfl ?_
                refine zj_icmp_ge X dX5_byRemainders_89 (tgt := 115) (by decide) (by first | decide | omega) (by first | decide | omega) (fun h_89 => ?_) (fun h_89 => ?_)
                · exact absurd h_89 (by first | decide | omega)
                · refine zG_lload_n X dX5_byRemainders_92 rfl ?_
                  refine zG_iload X dX5_byRemainders_93 rfl ?_
                  refine zj_i2l X dX5_byRemainders_95 (by omega) ?_
                  refine zj_lrem X dX5_byRemainders_96 (by omega) (by omega) (by omega) (by omega) ?_
                  refine zG_iload X dX5_byRemainders_97 rfl ?_
                  refine zj_i2l X dX5_byRemainders_99 (by omega) ?_
                  refine zj_lcmp_eq X dX5_byRemainders_100 dX5_byRemainders_101 (tgt := 115) (by decide) (by omega) (by omega) (fun h_100 => ?_) (fun h_100 => ?_)
                  · exact absurd h_100 (by first | decide | omega)
                  · refine zG_lload_n X dX5_byRemainders_104 rfl ?_
                    refine zG_lload X dX5_byRemainders_105 rfl ?_
                    refine zj_ladd X dX5_byRemainders_107 ?_
                    refine zG_lstore_n X dX5_byRemainders_108 (by decide) rfl ?_
                    refine zj_iinc X dX5_byRemainders_109 rfl (by decide) rfl ?_
                    refine zG_goto X dX5_byRemainders_112 (tgt := 85) (by decide) ?_
                    have hi := ihi (i + 1) hfw (Or.inr (by
                      rcases hor with h | h
                      · subst h
                        intro z
                        exact he (by rw [show x + ((0 : Nat) : Int) * y = x by omega]; exact z)
                      · exact h)) (by omega)
                    rw [zks, ← Int.add_assoc] at hi
                    exact hi
          refine zG_iload X dX5_byRemainders_30 rfl ?_
          refine zG_aload_n X dX5_byRemainders_32 rfl ?_
          refine zG_getR X dX5_byRemainders_33 fl_X5_7 (by first | rfl | assumption) (by first | decide | omega) (by decide) rfl (by first | exact zF_at hF rfl rfl | assumption) ?_
          refine zj_iconst X dX5_byRemainders_36 ?_
          refine zj_ialoadv (v := hs 0) X dX5_byRemainders_37 (by first | rfl | assumption) (by first | decide | omega) (0) (by decide) (by decide) (z51.trans e0) ?_
          refine zj_icmp_ge X dX5_byRemainders_38 (tgt := 154) (by decide) (by first | decide | omega) (by first | decide | omega) (fun h_38 => ?_) (fun h_38 => ?_)
          · exact absurd h_38 (by first | decide | omega)
          · refine zG_iload_n X dX5_byRemainders_41 rfl ?_
            refine zG_iload X dX5_byRemainders_42 rfl ?_
            refine zj_ishr X dX5_byRemainders_44 (by omega) (by omega) (by omega) ?_
            refine zj_iconst X dX5_byRemainders_45 ?_
            refine zj_iand1 X dX5_byRemainders_46 (by omega) (by omega) ?_
            refine zj_iconst X dX5_byRemainders_47 ?_
            refine zj_icmp_ne X dX5_byRemainders_48 (tgt := 148) (by decide) (by first | decide | omega) (by first | decide | omega) (fun h_48 => ?_) (fun h_48 => ?_)
            · exact absurd h_48 (by first | decide | omega)
            · refine zG_aload_n X dX5_byRemainders_51 rfl ?_
              refine zG_iload X dX5_byRemainders_52 rfl ?_
              refine zj_iconst X dX5_byRemainders_54 ?_
              refine zj_callV1 (as2 := [_, _]) X (k_X5_ofv lo (d - 1) (by omega) (zup J 50 4 0) G F hF (u := (k : Int)) (v := 0) (x := wd k 0) k 0 (by omega) (by omega) rfl rfl (z51.trans (mh.2.1 k (by omega) 0 (by decide)))) dX5_byRemainders_55 mv_X5_of ml_X5_45 (by first | rfl | assumption) rfl (by first | decide | omega) rfl rfl (by show d - 1 + 1 ≤ d; omega) (by show 19 + 3 + 35 * (d - 1) ≤ 35 * (d); omega) (Nat.le_of_ble_eq_true rfl) (Nat.le_of_ble_eq_true rfl) (Nat.le_of_ble_eq_true rfl) ?_
              refine zG_istore X dX5_byRemainders_58 (by decide) rfl ?_
              refine zG_aload_n X dX5_byRemainders_60 rfl ?_
              refine zG_iload X dX5_byRemainders_61 rfl ?_
              refine zj_iconst X dX5_byRemainders_63 ?_
              refine zj_callV1 (as2 := [_, _]) X (k_X5_ofv lo (d - 1) (by omega) (zup J 50 4 0) G F hF (u := (k : Int)) (v := 2) (x := wd k 2) k 2 (by omega) (by omega) rfl rfl (z51.trans (mh.2.1 k (by omega) 2 (by decide)))) dX5_byRemainders_64 mv_X5_of ml_X5_45 (by first | rfl | assumption) rfl (by first | decide | omega) rfl rfl (by show d - 1 + 1 ≤ d; omega) (by show 19 + 3 + 35 * (d - 1) ≤ 35 * (d); omega) (Nat.le_of_ble_eq_true rfl) (Nat.le_of_ble_eq_true rfl) (Nat.le_of_ble_eq_true rfl) ?_
              refine zG_aload_n X dX5_byRemainders_67 rfl ?_
              refine zG_iload X dX5_byRemainders_68 rfl ?_
              refine zj_iconst X dX5_byRemainders_70 ?_
              refine zj_callV1 (as2 := [_, _]) X (k_X5_ofv lo (d - 1) (by omega) (zup J 50 4 0) G F hF (u := (k : Int)) (v := 1) (x := wd k 1) k 1 (by omega) (by omega) rfl rfl (z51.trans (mh.2.1 k (by omega) 1 (by decide)))) dX5_byRemainders_71 mv_X5_of ml_X5_45 (by first | rfl | assumption) rfl (by first | decide | omega) rfl rfl (by show d - 1 + 1 ≤ d; omega) (by show 19 + 3 + 35 * (d - 1) ≤ 35 * (d); omega) (Nat.le_of_ble_eq_true rfl) (Nat.le_of_ble_eq_true rfl) (Nat.le_of_ble_eq_true rfl) ?_
              refine zj_isub X dX5_byRemainders_74 ?_
              refine zG_iload X dX5_byRemainders_75 rfl ?_
              refine zj_callS1 (as2 := [_, _]) X (k_X5_modulo lo (d - 1) (zup J 50 4 0) G F (a := wd k 2 - wd k 1) (b := wd k 0) (by unfold zr; omega) (by unfold zr; omega) (by omega)) dX5_byRemainders_77 ms_X5_modulo ml_X5_49 rfl rfl (by show d - 1 + 1 ≤ d; omega) (by show 19 + 3 + 35 * (d - 1) ≤ 35 * (d); omega) (Nat.le_of_ble_eq_true rfl) (Nat.le_of_ble_eq_true rfl) (Nat.le_of_ble_eq_true rfl) ?_
              refine zG_istore X dX5_byRemainders_80 (by decide) rfl ?_
              refine zj_iconst X dX5_byRemainders_82 ?_
              refine zG_istore X dX5_byRemainders_83 (by decide) rfl ?_
              have h0 := inner (wd k 0).toNat 0 rfl (Or.inl rfl) (by omega)
              rw [show x + ((0 : Nat) : Int) * y = x by omega] at h0
              exact h0
    refine zG_aload_n X dX5_byRemainders_0 rfl ?_
    refine zG_aload_n X dX5_byRemainders_1 rfl ?_
    refine zG_iload_n X dX5_byRemainders_2 rfl ?_
    refine zj_callV1 (as2 := [_]) X (k_X5_isSet lo (d - 1) (by omega) J G F hF (u := u) hu (by omega) (by omega)) dX5_byRemainders_3 mv_X5_isSet ml_X5_126 (by first | rfl | assumption) rfl (by first | decide | omega) rfl rfl (by show d - 1 + 1 ≤ d; omega) (by show 19 + 2 + 35 * (d - 1) ≤ 35 * (d); omega) (Nat.le_of_ble_eq_true rfl) (Nat.le_of_ble_eq_true rfl) (Nat.le_of_ble_eq_true rfl) ?_
    rw [if_pos hb]
    refine zj_if_eq X dX5_byRemainders_6 (tgt := 13) (by decide) (by first | decide | omega) (fun h_6 => ?_) (fun h_6 => ?_)
    · exact absurd h_6 (by first | decide | omega)
    · refine zj_iconst X dX5_byRemainders_9 ?_
      refine zG_goto X dX5_byRemainders_10 (tgt := 14) (by decide) ?_
      refine zj_callV1 (as2 := [_]) X (k_X5_refused lo (d - 1) J G F (x := 0) (by decide)) dX5_byRemainders_14 mv_X5_refused ml_X5_33 (by first | rfl | assumption) rfl (by first | decide | omega) rfl rfl (by show d - 1 + 1 ≤ d; omega) (by show 19 + 2 + 35 * (d - 1) ≤ 35 * (d); omega) (Nat.le_of_ble_eq_true rfl) (Nat.le_of_ble_eq_true rfl) (Nat.le_of_ble_eq_true rfl) ?_
      refine zj_if_eq X dX5_byRemainders_17 (tgt := 22) (by decide) (by first | decide | omega) (fun h_17 => ?_) (fun h_17 => ?_)
      · refine zj_lconst0 X dX5_byRemainders_22 ?_
        refine zG_lstore_n X dX5_byRemainders_23 (by decide) rfl ?_
        refine zj_lconst1 X dX5_byRemainders_24 ?_
        refine zG_lstore X dX5_byRemainders_25 (by decide) rfl ?_
        refine zj_iconst X dX5_byRemainders_27 ?_
        refine zG_istore X dX5_byRemainders_28 (by decide) rfl ?_
        have h0 := loop (hs 0).toNat 0 0 1 (by decide) (by decide) (by decide) (by decide) rfl (by omega)
        exact zG_sub (zle_some (zle_some (zle_some (zle_none (zle_some (zle_none (zle_some (zle_none (zle_none (zle_none zle_nil)))))))))) h0
      · exact absurd h_17 (by first | decide | omega)
  · refine zG_aload_n X dX5_byRemainders_0 rfl ?_
    refine zG_aload_n X dX5_byRemainders_1 rfl ?_
    refine zG_iload_n X dX5_byRemainders_2 rfl ?_
    refine zj_callV1 (as2 := [_]) X (k_X5_isSet lo (d - 1) (by omega) J G F hF (u := u) hu (by omega) (by omega)) dX5_byRemainders_3 mv_X5_isSet ml_X5_126 (by first | rfl | assumption) rfl (by first | decide | omega) rfl rfl (by show d - 1 + 1 ≤ d; omega) (by show 19 + 2 + 35 * (d - 1) ≤ 35 * (d); omega) (Nat.le_of_ble_eq_true rfl) (Nat.le_of_ble_eq_true rfl) (Nat.le_of_ble_eq_true rfl) ?_
    rw [if_neg hb]
    refine zj_if_eq X dX5_byRemainders_6 (tgt := 13) (by decide) (by first | decide | omega) (fun h_6 => ?_) (fun h_6 => ?_)
    · refine zj_iconst X dX5_byRemainders_13 ?_
      refine zj_callV1 (as2 := [_]) X (k_X5_refused lo (d - 1) J G F (x := 1) (by decide)) dX5_byRemainders_14 mv_X5_refused ml_X5_33 (by first | rfl | assumption) rfl (by first | decide | omega) rfl rfl (by show d - 1 + 1 ≤ d; omega) (by show 19 + 2 + 35 * (d - 1) ≤ 35 * (d); omega) (Nat.le_of_ble_eq_true rfl) (Nat.le_of_ble_eq_true rfl) (Nat.le_of_ble_eq_true rfl) ?_
      refine zj_if_eq X dX5_byRemainders_17 (tgt := 22) (by decide) (by first | decide | omega) (fun h_17 => ?_) (fun h_17 => ?_)
      · exact absurd h_17 (by first | decide | omega)
      · refine zj_lconst0 X dX5_byRemainders_20 ?_
        refine zG_lret X dX5_byRemainders_21 rfl ?_
        exact zMRL.no (a := 0) (if_pos hb) (by decide)
    · exact absurd h_6 (by first | decide | omega)
