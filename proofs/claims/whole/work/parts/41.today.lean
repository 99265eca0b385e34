/-! the Model's days, seen as the class's numbers -/
def mV (r : Nat → Int) (hs : Nat → Int) (wd : Nat → Nat → Int) (sb : Nat → Bool) (p : Nat → Int) (lag wt : Int) (sk : Bool) : Prop :=
  (r 0 = hs 0 ∧ r 2 = hs 2 ∧ r 3 = lag ∧ r 4 = hs 4 ∧ r 5 = hs 5 ∧ r 6 = hs 6 ∧ r 7 = hs 7 ∧ r 11 = wt) ∧ (∀ k, k < (hs 0).toNat → r (13 + 7 * k + 0) = wd k 0 ∧ r (13 + 7 * k + 1) = p k ∧ ((sk = true ∧ r (13 + 7 * k + 3) = wd k 3 ∧ r (13 + 7 * k + 4) = wd k 4 ∧ r (13 + 7 * k + 5) = wd k 5) ∨ (sk = false ∧ r (13 + 7 * k + 3) = -1))) ∧ ∀ t, t < 60 → r (48 + t) = if sb t = true then 1 else 0
def stR (r : Nat → Int) (c : Nat) (q : Nat → Int) : Nat → Int := fun i => if i % 7 = 0 ∧ 14 ≤ i ∧ i < 14 + 7 * c then q (i / 7 - 2) else r i
def mvR (r : Nat → Int) (c : Nat) (q : Nat → Int) : Nat → Int := fun i => if i = 1 then r 1 + 1 else stR r c q i
def cnR (r : Nat → Int) (f : Int) : Nat → Int := fun i => if i = 8 then r 8 + (if f = 1 then 1 else 0) else if i = 9 then r 9 + (if f = 2 then 1 else 0) else if i = 10 then r 10 + (if f = 3 then 1 else 0) else if i = 11 then (if f = 2 then r 11 + 1 else 0) else r i
theorem stR_at {r : Nat → Int} {c k : Nat} {q : Nat → Int} (h : k < c) : stR r c q (13 + 7 * k + 1) = q k := by
  unfold stR
  rw [if_pos (by omega), show (13 + 7 * k + 1) / 7 - 2 = k by omega]
theorem stR_ne {r : Nat → Int} {c i : Nat} {q : Nat → Int} (h : ¬ (i % 7 = 0 ∧ 14 ≤ i ∧ i < 14 + 7 * c)) : stR r c q i = r i := if_neg h
theorem stR_0 {r q : Nat → Int} : stR r 0 q = r := funext fun i => if_neg (by omega)
theorem st_v {J : Nat → Nat → Int} {r p : Nat → Int} {wd : Nat → Nat → Int} {sk : Bool} {k : Nat} : zup (upr J 51 (stR r k (mvp wd sk k p))) 51 (13 + 7 * k + 1) ((mvp wd sk k p k + mvS wd sk (mvp wd sk k p) k) % wd k 0) = upr J 51 (stR r (k + 1) (mvp wd sk (k + 1) p)) := by
  rw [zup_upr]
  refine upr_congr (fun i => ?_)
  by_cases h : i = 13 + 7 * k + 1
  · subst h
    rw [if_pos rfl, stR_at (Nat.lt_succ_self k)]
    show _ = (if k = k then _ else _)
    rw [if_pos rfl]
  · rw [if_neg h]
    unfold stR
    by_cases h2 : i % 7 = 0 ∧ 14 ≤ i ∧ i < 14 + 7 * k
    · rw [if_pos h2, if_pos (by omega)]
      show _ = (if i / 7 - 2 = k then _ else _)
      rw [if_neg (by omega)]
    · rw [if_neg h2, if_neg (by omega)]
theorem st_y {J : Nat → Nat → Int} {r p : Nat → Int} {wd : Nat → Nat → Int} {sk : Bool} {k : Nat} (h : sk = true ∧ 0 ≤ wd k 3 ∧ mvp wd sk k p (wd k 3).toNat = wd k 4) : zup (upr J 51 (stR r k (mvp wd sk k p))) 51 (13 + 7 * k + 1) ((mvp wd sk k p k + 1 + wd k 5) % wd k 0) = upr J 51 (stR r (k + 1) (mvp wd sk (k + 1) p)) := by
  rw [← st_v, mvS, if_pos h, Int.add_assoc]
theorem st_n {J : Nat → Nat → Int} {r p : Nat → Int} {wd : Nat → Nat → Int} {sk : Bool} {k : Nat} (h : ¬ (sk = true ∧ 0 ≤ wd k 3 ∧ mvp wd sk k p (wd k 3).toNat = wd k 4)) : zup (upr J 51 (stR r k (mvp wd sk k p))) 51 (13 + 7 * k + 1) ((mvp wd sk k p k + 1 + 0) % wd k 0) = upr J 51 (stR r (k + 1) (mvp wd sk (k + 1) p)) := by
  rw [← st_v, mvS, if_neg h, Int.add_zero]
theorem mV_mv {r hs : Nat → Int} {wd : Nat → Nat → Int} {sb : Nat → Bool} {p q : Nat → Int} {lag wt : Int} {sk : Bool} (v : mV r hs wd sb p lag wt sk) (hc : (hs 0).toNat ≤ 5) : mV (mvR r (hs 0).toNat q) hs wd sb q lag wt sk := by
  have e : ∀ i, i ≠ 1 → ¬ (i % 7 = 0 ∧ 14 ≤ i ∧ i < 14 + 7 * (hs 0).toNat) → mvR r (hs 0).toNat q i = r i := fun i h1 h2 => by
    unfold mvR
    rw [if_neg h1, stR_ne h2]
  refine ⟨?_, fun k hk => ?_, fun t ht => ?_⟩
  · rw [e 0 (by omega) (by omega), e 2 (by omega) (by omega), e 3 (by omega) (by omega), e 4 (by omega) (by omega), e 5 (by omega) (by omega), e 6 (by omega) (by omega), e 7 (by omega) (by omega), e 11 (by omega) (by omega)]
    exact v.1
  · have h := v.2.1 k hk
    rw [e (13 + 7 * k + 0) (by omega) (by omega), e (13 + 7 * k + 3) (by omega) (by omega), e (13 + 7 * k + 4) (by omega) (by omega), e (13 + 7 * k + 5) (by omega) (by omega)]
    refine ⟨h.1, ?_, h.2.2⟩
    unfold mvR
    rw [if_neg (by omega), stR_at hk]
  · rw [e (48 + t) (by omega) (by omega)]
    exact v.2.2 t ht
theorem mV_cn {r hs : Nat → Int} {wd : Nat → Nat → Int} {sb : Nat → Bool} {p : Nat → Int} {lag wt f : Int} {sk : Bool} (v : mV r hs wd sb p lag wt sk) : mV (cnR r f) hs wd sb p lag (if f = 2 then wt + 1 else 0) sk := by
  have e : ∀ i, ¬ (8 ≤ i ∧ i ≤ 11) → cnR r f i = r i := fun i h => by
    unfold cnR
    rw [if_neg (by omega), if_neg (by omega), if_neg (by omega), if_neg (by omega)]
  have e11 : cnR r f 11 = if f = 2 then r 11 + 1 else 0 := rfl
  refine ⟨?_, fun k hk => ?_, fun t ht => ?_⟩
  · rw [e 0 (by omega), e 2 (by omega), e 3 (by omega), e 4 (by omega), e 5 (by omega), e 6 (by omega), e 7 (by omega), e11, v.1.2.2.2.2.2.2.2]
    exact ⟨v.1.1, v.1.2.1, v.1.2.2.1, v.1.2.2.2.1, v.1.2.2.2.2.1, v.1.2.2.2.2.2.1, v.1.2.2.2.2.2.2.1, rfl⟩
  · rw [e (13 + 7 * k + 0) (by omega), e (13 + 7 * k + 1) (by omega), e (13 + 7 * k + 3) (by omega), e (13 + 7 * k + 4) (by omega), e (13 + 7 * k + 5) (by omega)]
    exact v.2.1 k hk
  · rw [e (48 + t) (by omega)]
    exact v.2.2 t ht
def psN (hs : Nat → Int) (wd : Nat → Nat → Int) (sb : Nat → Bool) (lag : Int) (sk : Bool) (r p : Nat → Int) (wt : Int) : Nat → (Nat → Int)
  | 0 => r
  | n + 1 => mvR (cnR (psN hs wd sb lag sk r p wt n) (fateN hs wd sb lag sk n (p, wt))) (hs 0).toNat (dayN hs wd sb lag sk (n + 1) (p, wt)).1
theorem psN_0 {hs : Nat → Int} {wd : Nat → Nat → Int} {sb : Nat → Bool} {lag : Int} {sk : Bool} {r p : Nat → Int} {wt : Int} : psN hs wd sb lag sk r p wt 0 = r := rfl
theorem psN_s {hs : Nat → Int} {wd : Nat → Nat → Int} {sb : Nat → Bool} {lag : Int} {sk : Bool} {r p : Nat → Int} {wt : Int} {n : Nat} : psN hs wd sb lag sk r p wt (n + 1) = mvR (cnR (psN hs wd sb lag sk r p wt n) (fateN hs wd sb lag sk n (p, wt))) (hs 0).toNat (mvp wd sk (hs 0).toNat (dayN hs wd sb lag sk n (p, wt)).1) := rfl
theorem mV_N {r hs : Nat → Int} {wd : Nat → Nat → Int} {sb : Nat → Bool} {p : Nat → Int} {lag wt : Int} {sk : Bool} (v : mV r hs wd sb p lag wt sk) (hc : (hs 0).toNat ≤ 5) : ∀ n, mV (psN hs wd sb lag sk r p wt n) hs wd sb (dayN hs wd sb lag sk n (p, wt)).1 lag (dayN hs wd sb lag sk n (p, wt)).2 sk
  | 0 => v
  | n + 1 => mV_mv (mV_cn (mV_N v hc n)) hc
theorem psN_hi {hs : Nat → Int} {wd : Nat → Nat → Int} {sb : Nat → Bool} {lag : Int} {sk : Bool} {r p : Nat → Int} {wt : Int} (hc : (hs 0).toNat ≤ 5) {i : Nat} (hi : 12 ≤ i) (h7 : i % 7 ≠ 0 ∨ 48 ≤ i) : ∀ n, psN hs wd sb lag sk r p wt n i = r i
  | 0 => rfl
  | n + 1 => by
    rw [psN_s]
    unfold mvR
    rw [if_neg (by omega), stR_ne (by omega)]
    unfold cnR
    rw [if_neg (by omega), if_neg (by omega), if_neg (by omega), if_neg (by omega), psN_hi hc hi h7 n]
theorem cn_0 {J : Nat → Nat → Int} : zup (zup (zup (zup J 51 8 (J 51 8 + 0)) 51 9 (J 51 9 + 0)) 51 10 (J 51 10 + 0)) 51 11 0 = upr J 51 (cnR (J 51) 0) := by
  funext x i
  unfold zup upr cnR
  by_cases h : x = 51
  · subst h
    by_cases h1 : i = 8
    · subst h1; simp
    · by_cases h2 : i = 9
      · subst h2; simp
      · by_cases h3 : i = 10
        · subst h3; simp
        · by_cases h4 : i = 11
          · subst h4; simp
          · simp [h1, h2, h3, h4]
  · simp [h]
theorem cn_1 {J : Nat → Nat → Int} : zup (zup (zup (zup J 51 8 (J 51 8 + 1)) 51 9 (J 51 9 + 0)) 51 10 (J 51 10 + 0)) 51 11 0 = upr J 51 (cnR (J 51) 1) := by
  funext x i
  unfold zup upr cnR
  by_cases h : x = 51
  · subst h
    by_cases h1 : i = 8
    · subst h1; simp
    · by_cases h2 : i = 9
      · subst h2; simp
      · by_cases h3 : i = 10
        · subst h3; simp
        · by_cases h4 : i = 11
          · subst h4; simp
          · simp [h1, h2, h3, h4]
  · simp [h]
theorem cn_2 {J : Nat → Nat → Int} : zup (zup (zup (zup J 51 8 (J 51 8 + 0)) 51 9 (J 51 9 + 1)) 51 10 (J 51 10 + 0)) 51 11 (J 51 11 + 1) = upr J 51 (cnR (J 51) 2) := by
  funext x i
  unfold zup upr cnR
  by_cases h : x = 51
  · subst h
    by_cases h1 : i = 8
    · subst h1; simp
    · by_cases h2 : i = 9
      · subst h2; simp
      · by_cases h3 : i = 10
        · subst h3; simp
        · by_cases h4 : i = 11
          · subst h4; simp
          · simp [h1, h2, h3, h4]
  · simp [h]
theorem cn_3 {J : Nat → Nat → Int} : zup (zup (zup (zup J 51 8 (J 51 8 + 0)) 51 9 (J 51 9 + 0)) 51 10 (J 51 10 + 1)) 51 11 0 = upr J 51 (cnR (J 51) 3) := by
  funext x i
  unfold zup upr cnR
  by_cases h : x = 51
  · subst h
    by_cases h1 : i = 8
    · subst h1; simp
    · by_cases h2 : i = 9
      · subst h2; simp
      · by_cases h3 : i = 10
        · subst h3; simp
        · by_cases h4 : i = 11
          · subst h4; simp
          · simp [h1, h2, h3, h4]
  · simp [h]
set_option maxHeartbeats 4000000 in
theorem k_X5_ofv (lo d : Nat) (hd : 1 ≤ d) (J : Nat → Nat → Int) (G : Nat → Nat → Int64) (F : Nat → Nat → Option Nat) (hF : zFk F) {u v x : Int} (k i : Nat) (hk : k < 5) (hi : i < 7) (hu : u = k) (hv : v = i) (hx : J 51 (13 + 7 * k + i) = x) : zCt lo yX5_of cX5_of 3 (some .int) d 0 0 [.ref (lo + 50), .int (zI u), .int (zI v)] 57 57 (zM J) G F (zD [.int (zI x)] J G F) := by
  have h := k_X5_of lo d hd J G F hF (u := u) (v := v) (by omega) (by omega) (by omega) (by omega)
  rw [show (13 + 7 * u + v).toNat = 13 + 7 * k + i by omega, hx] at h
  exact h
theorem mf_0 {hs : Nat → Int} {wd : Nat → Nat → Int} {sb : Nat → Bool} {q : Nat → Int} {lag wt : Int} (h : ¬ mdue hs sb q wt) : mfate hs wd sb q lag wt = 0 := if_pos h
theorem mf_1 {hs : Nat → Int} {wd : Nat → Nat → Int} {sb : Nat → Bool} {q : Nat → Int} {lag wt : Int} (h : mdue hs sb q wt) (hm : mfree hs (mhigh hs wd q lag)) : mfate hs wd sb q lag wt = 1 := (if_neg (fun z => z h)).trans (if_pos hm)
theorem mf_2 {hs : Nat → Int} {wd : Nat → Nat → Int} {sb : Nat → Bool} {q : Nat → Int} {lag wt : Int} (h : mdue hs sb q wt) (hm : ¬ mfree hs (mhigh hs wd q lag)) (hw : wt < hs 7) : mfate hs wd sb q lag wt = 2 := (if_neg (fun z => z h)).trans ((if_neg hm).trans (if_pos hw))
theorem mf_3 {hs : Nat → Int} {wd : Nat → Nat → Int} {sb : Nat → Bool} {q : Nat → Int} {lag wt : Int} (h : mdue hs sb q wt) (hm : ¬ mfree hs (mhigh hs wd q lag)) (hw : ¬ wt < hs 7) : mfate hs wd sb q lag wt = 3 := (if_neg (fun z => z h)).trans ((if_neg hm).trans (if_neg hw))
set_option maxHeartbeats 4000000 in
set_option maxRecDepth 100000 in
theorem k_X5_firstHigh (lo d : Nat) (hd : 2 ≤ d) (J : Nat → Nat → Int) (G : Nat → Nat → Int64) (F : Nat → Nat → Option Nat) (hF : zFk F) {hs : Nat → Int} {wd : Nat → Nat → Int} {sb : Nat → Bool} {ps : Nat → Int} {lag wt : Int} {sk : Bool} (v : mV (J 51) hs wd sb ps lag wt sk) (ok : hwOk hs wd) (po : pOk wd ps) (l1 : 0 ≤ lag) (l2 : lag < 720) (w1 : 0 ≤ wt) (w2 : wt ≤ 1000) (c0 : 0 < hs 0) : zCt lo yX5_firstHigh cX5_firstHigh 1 (some .int) d 0 0 [.ref (lo + 50)] 57 57 (zM J) G F (zD [.int (zI (mhigh hs wd ps lag))] J G F) := by
  refine zCt.mk (by decide) (mv_X5_firstHigh.2.2.2.1) (Nat.le_of_ble_eq_true rfl) ?_
  intro p l e s m args below meth c D cA X
  obtain ⟨e0, e2, e3, e4, e5, e6, e7, e11⟩ := v.1
  have hok := ok.1
  unfold hOk at hok
  have hm := v.2.1 (hs 2).toNat (by omega)
  have hp := po (hs 2).toNat (by omega)
  have hw2 := hwOk_w ok (k := (hs 2).toNat) (by omega)
  have hq1 : 0 ≤ ps (hs 2).toNat * 1440 / wd (hs 2).toNat 0 := Int.ediv_nonneg (by omega) (by omega)
  have hq2 : ps (hs 2).toNat * 1440 / wd (hs 2).toNat 0 ≤ ps (hs 2).toNat * 1440 := Int.ediv_le_self _ (by omega)
  refine zG_aload_n X dX5_firstHigh_0 rfl ?_
  refine zG_aload_n X dX5_firstHigh_1 rfl ?_
  refine zG_getR X dX5_firstHigh_2 fl_X5_7 (by first | rfl | assumption) (by first | decide | omega) (by decide) rfl (by first | exact zF_at hF rfl rfl | assumption) ?_
  refine zj_iconst X dX5_firstHigh_5 ?_
  refine zj_iaload X dX5_firstHigh_6 (by first | rfl | assumption) (by first | decide | omega) (2) (by decide) (by decide) ?_
  refine zj_iconst X dX5_firstHigh_7 ?_
  refine zj_callV1 (as2 := [_, _]) X (k_X5_ofv lo (d - 1) (by omega) (J) G F hF (u := J 51 2) (v := 1) (x := ps (hs 2).toNat) ((hs 2).toNat) 1 (by omega) (by omega) (by omega) rfl (hm.2.1)) dX5_firstHigh_8 mv_X5_of ml_X5_45 (by first | rfl | assumption) rfl (by first | decide | omega) rfl rfl (by show d - 1 + 1 ≤ d; omega) (by show 19 + 3 + 35 * (d - 1) ≤ 35 * (d); omega) (Nat.le_of_ble_eq_true rfl) (Nat.le_of_ble_eq_true rfl) (Nat.le_of_ble_eq_true rfl) ?_
  refine zj_sipush X dX5_firstHigh_11 (by decide) ?_
  refine zj_imul X dX5_firstHigh_14 ?_
  refine zG_aload_n X dX5_firstHigh_15 rfl ?_
  refine zG_aload_n X dX5_firstHigh_16 rfl ?_
  refine zG_getR X dX5_firstHigh_17 fl_X5_7 (by first | rfl | assumption) (by first | decide | omega) (by decide) rfl (by first | exact zF_at hF rfl rfl | assumption) ?_
  refine zj_iconst X dX5_firstHigh_20 ?_
  refine zj_iaload X dX5_firstHigh_21 (by first | rfl | assumption) (by first | decide | omega) (2) (by decide) (by decide) ?_
  refine zj_iconst X dX5_firstHigh_22 ?_
  refine zj_callV1 (as2 := [_, _]) X (k_X5_ofv lo (d - 1) (by omega) (J) G F hF (u := J 51 2) (v := 0) (x := wd (hs 2).toNat 0) ((hs 2).toNat) 0 (by omega) (by omega) (by omega) rfl (hm.1)) dX5_firstHigh_23 mv_X5_of ml_X5_45 (by first | rfl | assumption) rfl (by first | decide | omega) rfl rfl (by show d - 1 + 1 ≤ d; omega) (by show 19 + 3 + 35 * (d - 1) ≤ 35 * (d); omega) (Nat.le_of_ble_eq_true rfl) (Nat.le_of_ble_eq_true rfl) (Nat.le_of_ble_eq_true rfl) ?_
  refine zj_idiv X dX5_firstHigh_26 (by unfold zr; omega) (by unfold zr; omega) (by omega) (by omega) ?_
  generalize hQ : ps (hs 2).toNat * 1440 / wd (hs 2).toNat 0 = Q
  refine zG_aload_n X dX5_firstHigh_27 rfl ?_
  refine zG_getR X dX5_firstHigh_28 fl_X5_7 (by first | rfl | assumption) (by first | decide | omega) (by decide) rfl (by first | exact zF_at hF rfl rfl | assumption) ?_
  refine zj_iconst X dX5_firstHigh_31 ?_
  refine zj_iaload X dX5_firstHigh_32 (by first | rfl | assumption) (by first | decide | omega) (3) (by decide) (by decide) ?_
  refine zj_iadd X dX5_firstHigh_33 ?_
  refine zj_sipush X dX5_firstHigh_34 (by decide) ?_
  refine zj_iremN X dX5_firstHigh_37 (by omega) (by omega) (by omega) (by omega) ?_
  refine zG_iret X dX5_firstHigh_38 rfl ?_
  exact zD.of (by rw [e3, ← hQ]; rfl) rfl rfl rfl
set_option maxHeartbeats 4000000 in
set_option maxRecDepth 100000 in
theorem k_X5_isFlooded (lo d : Nat) (hd : 3 ≤ d) (J : Nat → Nat → Int) (G : Nat → Nat → Int64) (F : Nat → Nat → Option Nat) (hF : zFk F) {hs : Nat → Int} {wd : Nat → Nat → Int} {sb : Nat → Bool} {ps : Nat → Int} {lag wt : Int} {sk : Bool} (v : mV (J 51) hs wd sb ps lag wt sk) (ok : hwOk hs wd) (po : pOk wd ps) (l1 : 0 ≤ lag) (l2 : lag < 720) (w1 : 0 ≤ wt) (w2 : wt ≤ 1000) (c0 : 0 < hs 0) : zCt lo yX5_isFlooded cX5_isFlooded 5 (some .boolean) d 0 0 [.ref (lo + 50)] 57 57 (zM J) G F (zD [.int (zI (if mfree hs (mhigh hs wd ps lag) then 0 else 1))] J G F) := by
  refine zCt.mk (by decide) (mv_X5_isFlooded.2.2.2.1) (Nat.le_of_ble_eq_true rfl) ?_
  intro p l e s m args below meth c D cA X
  obtain ⟨e0, e2, e3, e4, e5, e6, e7, e11⟩ := v.1
  have hok := ok.1
  unfold hOk at hok
  have hl : (hs 5 + hs 6 - 1 ≤ 1439 ∧ mlast hs = hs 5 + hs 6 - 1) ∨ (1439 < hs 5 + hs 6 - 1 ∧ mlast hs = 1439) := by unfold mlast; split <;> omega
  refine zG_aload_n X dX5_isFlooded_0 rfl ?_
  refine zG_getR X dX5_isFlooded_1 fl_X5_7 (by first | rfl | assumption) (by first | decide | omega) (by decide) rfl (by first | exact zF_at hF rfl rfl | assumption) ?_
  refine zj_iconst X dX5_isFlooded_4 ?_
  refine zj_iaload X dX5_isFlooded_5 (by first | rfl | assumption) (by first | decide | omega) (5) (by decide) (by decide) ?_
  refine zG_aload_n X dX5_isFlooded_6 rfl ?_
  refine zG_getR X dX5_isFlooded_7 fl_X5_7 (by first | rfl | assumption) (by first | decide | omega) (by decide) rfl (by first | exact zF_at hF rfl rfl | assumption) ?_
  refine zj_bipush X dX5_isFlooded_10 (by decide) ?_
  refine zj_iaload X dX5_isFlooded_12 (by first | rfl | assumption) (by first | decide | omega) (6) (by decide) (by decide) ?_
  refine zj_iadd X dX5_isFlooded_13 ?_
  refine zj_iconst X dX5_isFlooded_14 ?_
  refine zj_isub X dX5_isFlooded_15 ?_
  refine zG_istore_n X dX5_isFlooded_16 (by decide) rfl ?_
  refine zG_iload_n X dX5_isFlooded_17 rfl ?_
  refine zj_sipush X dX5_isFlooded_18 (by decide) ?_
  refine zj_icmp_ge X dX5_isFlooded_21 (tgt := 28) (by decide) (by first | decide | omega) (by first | decide | omega) (fun h_21 => ?_) (fun h_21 => ?_)
  · refine zj_sipush X dX5_isFlooded_28 (by decide) ?_
    refine zG_istore_n X dX5_isFlooded_31 (by decide) rfl ?_
    refine zG_aload_n X dX5_isFlooded_32 rfl ?_
    refine zj_callV1 (as2 := []) X (k_X5_firstHigh lo (d - 1) (by omega) J G F hF v ok po l1 l2 w1 w2 c0) dX5_isFlooded_33 mv_X5_firstHigh ml_X5_79 (by first | rfl | assumption) rfl (by first | decide | omega) rfl rfl (by show d - 1 + 1 ≤ d; omega) (by show 19 + 1 + 35 * (d - 1) ≤ 35 * (d); omega) (Nat.le_of_ble_eq_true rfl) (Nat.le_of_ble_eq_true rfl) (Nat.le_of_ble_eq_true rfl) ?_
    have hh1 : 0 ≤ mhigh hs wd ps lag := Int.emod_nonneg _ (by decide)
    have hh2 : mhigh hs wd ps lag < 720 := Int.emod_lt_of_pos _ (by decide)
    generalize mhigh hs wd ps lag = Hh at hh1 hh2 ⊢
    refine zG_istore_n X dX5_isFlooded_36 (by decide) rfl ?_
    refine zG_aload_n X dX5_isFlooded_37 rfl ?_
    refine zG_getR X dX5_isFlooded_38 fl_X5_7 (by first | rfl | assumption) (by first | decide | omega) (by decide) rfl (by first | exact zF_at hF rfl rfl | assumption) ?_
    refine zj_iconst X dX5_isFlooded_41 ?_
    refine zj_iaload X dX5_isFlooded_42 (by first | rfl | assumption) (by first | decide | omega) (5) (by decide) (by decide) ?_
    refine zG_iload_n X dX5_isFlooded_43 rfl ?_
    refine zj_bipush X dX5_isFlooded_44 (by decide) ?_
    refine zj_iadd X dX5_isFlooded_46 ?_
    refine zj_icmp_gt X dX5_isFlooded_47 (tgt := 62) (by decide) (by first | decide | omega) (by first | decide | omega) (fun h_47 => ?_) (fun h_47 => ?_)
    · refine zj_iconst X dX5_isFlooded_62 ?_
      refine zG_istore_n X dX5_isFlooded_63 (by decide) rfl ?_
      refine zG_aload_n X dX5_isFlooded_64 rfl ?_
      refine zG_getR X dX5_isFlooded_65 fl_X5_7 (by first | rfl | assumption) (by first | decide | omega) (by decide) rfl (by first | exact zF_at hF rfl rfl | assumption) ?_
      refine zj_iconst X dX5_isFlooded_68 ?_
      refine zj_iaload X dX5_isFlooded_69 (by first | rfl | assumption) (by first | decide | omega) (5) (by decide) (by decide) ?_
      refine zG_iload_n X dX5_isFlooded_70 rfl ?_
      refine zj_sipush X dX5_isFlooded_71 (by decide) ?_
      refine zj_iadd X dX5_isFlooded_74 ?_
      refine zj_bipush X dX5_isFlooded_75 (by decide) ?_
      refine zj_iadd X dX5_isFlooded_77 ?_
      refine zj_icmp_gt X dX5_isFlooded_78 (tgt := 97) (by decide) (by first | decide | omega) (by first | decide | omega) (fun h_78 => ?_) (fun h_78 => ?_)
      · refine zj_iconst X dX5_isFlooded_97 ?_
        refine zG_istore X dX5_isFlooded_98 (by decide) rfl ?_
        refine zG_iload_n X dX5_isFlooded_100 rfl ?_
        refine zj_if_ne X dX5_isFlooded_101 (tgt := 109) (by decide) (by first | decide | omega) (fun h_101 => ?_) (fun h_101 => ?_)
        · exact absurd h_101 (by first | decide | omega)
        · refine zG_iload X dX5_isFlooded_104 rfl ?_
          refine zj_if_eq X dX5_isFlooded_106 (tgt := 113) (by decide) (by first | decide | omega) (fun h_106 => ?_) (fun h_106 => ?_)
          · refine zj_iconst X dX5_isFlooded_113 ?_
            refine zG_zret X dX5_isFlooded_114 rfl (by first | rfl | assumption) ?_
            first
              | exact zD.of (congrArg (fun z => [Value.int (zI z)]) (if_pos (by omega)).symm) rfl rfl rfl
              | exact zD.of (congrArg (fun z => [Value.int (zI z)]) (if_neg (by omega)).symm) rfl rfl rfl
          · exact absurd h_106 (by first | decide | omega)
      · refine zG_iload_n X dX5_isFlooded_81 rfl ?_
        refine zG_iload_n X dX5_isFlooded_82 rfl ?_
        refine zj_sipush X dX5_isFlooded_83 (by decide) ?_
        refine zj_iadd X dX5_isFlooded_86 ?_
        refine zj_bipush X dX5_isFlooded_87 (by decide) ?_
        refine zj_isub X dX5_isFlooded_89 ?_
        refine zj_icmp_lt X dX5_isFlooded_90 (tgt := 97) (by decide) (by first | decide | omega) (by first | decide | omega) (fun h_90 => ?_) (fun h_90 => ?_)
        · refine zj_iconst X dX5_isFlooded_97 ?_
          refine zG_istore X dX5_isFlooded_98 (by decide) rfl ?_
          refine zG_iload_n X dX5_isFlooded_100 rfl ?_
          refine zj_if_ne X dX5_isFlooded_101 (tgt := 109) (by decide) (by first | decide | omega) (fun h_101 => ?_) (fun h_101 => ?_)
          · exact absurd h_101 (by first | decide | omega)
          · refine zG_iload X dX5_isFlooded_104 rfl ?_
            refine zj_if_eq X dX5_isFlooded_106 (tgt := 113) (by decide) (by first | decide | omega) (fun h_106 => ?_) (fun h_106 => ?_)
            · refine zj_iconst X dX5_isFlooded_113 ?_
              refine zG_zret X dX5_isFlooded_114 rfl (by first | rfl | assumption) ?_
              first
                | exact zD.of (congrArg (fun z => [Value.int (zI z)]) (if_pos (by omega)).symm) rfl rfl rfl
                | exact zD.of (congrArg (fun z => [Value.int (zI z)]) (if_neg (by omega)).symm) rfl rfl rfl
            · exact absurd h_106 (by first | decide | omega)
        · refine zj_iconst X dX5_isFlooded_93 ?_
          refine zG_goto X dX5_isFlooded_94 (tgt := 98) (by decide) ?_
          refine zG_istore X dX5_isFlooded_98 (by decide) rfl ?_
          refine zG_iload_n X dX5_isFlooded_100 rfl ?_
          refine zj_if_ne X dX5_isFlooded_101 (tgt := 109) (by decide) (by first | decide | omega) (fun h_101 => ?_) (fun h_101 => ?_)
          · exact absurd h_101 (by first | decide | omega)
          · refine zG_iload X dX5_isFlooded_104 rfl ?_
            refine zj_if_eq X dX5_isFlooded_106 (tgt := 113) (by decide) (by first | decide | omega) (fun h_106 => ?_) (fun h_106 => ?_)
            · exact absurd h_106 (by first | decide | omega)
            · refine zj_iconst X dX5_isFlooded_109 ?_
              refine zG_goto X dX5_isFlooded_110 (tgt := 114) (by decide) ?_
              refine zG_zret X dX5_isFlooded_114 rfl (by first | rfl | assumption) ?_
              first
                | exact zD.of (congrArg (fun z => [Value.int (zI z)]) (if_pos (by omega)).symm) rfl rfl rfl
                | exact zD.of (congrArg (fun z => [Value.int (zI z)]) (if_neg (by omega)).symm) rfl rfl rfl
    · refine zG_iload_n X dX5_isFlooded_50 rfl ?_
      refine zG_iload_n X dX5_isFlooded_51 rfl ?_
      refine zj_bipush X dX5_isFlooded_52 (by decide) ?_
      refine zj_isub X dX5_isFlooded_54 ?_
      refine zj_icmp_lt X dX5_isFlooded_55 (tgt := 62) (by decide) (by first | decide | omega) (by first | decide | omega) (fun h_55 => ?_) (fun h_55 => ?_)
      · refine zj_iconst X dX5_isFlooded_62 ?_
        refine zG_istore_n X dX5_isFlooded_63 (by decide) rfl ?_
        refine zG_aload_n X dX5_isFlooded_64 rfl ?_
        refine zG_getR X dX5_isFlooded_65 fl_X5_7 (by first | rfl | assumption) (by first | decide | omega) (by decide) rfl (by first | exact zF_at hF rfl rfl | assumption) ?_
        refine zj_iconst X dX5_isFlooded_68 ?_
        refine zj_iaload X dX5_isFlooded_69 (by first | rfl | assumption) (by first | decide | omega) (5) (by decide) (by decide) ?_
        refine zG_iload_n X dX5_isFlooded_70 rfl ?_
        refine zj_sipush X dX5_isFlooded_71 (by decide) ?_
        refine zj_iadd X dX5_isFlooded_74 ?_
        refine zj_bipush X dX5_isFlooded_75 (by decide) ?_
        refine zj_iadd X dX5_isFlooded_77 ?_
        refine zj_icmp_gt X dX5_isFlooded_78 (tgt := 97) (by decide) (by first | decide | omega) (by first | decide | omega) (fun h_78 => ?_) (fun h_78 => ?_)
        · refine zj_iconst X dX5_isFlooded_97 ?_
          refine zG_istore X dX5_isFlooded_98 (by decide) rfl ?_
          refine zG_iload_n X dX5_isFlooded_100 rfl ?_
          refine zj_if_ne X dX5_isFlooded_101 (tgt := 109) (by decide) (by first | decide | omega) (fun h_101 => ?_) (fun h_101 => ?_)
          · exact absurd h_101 (by first | decide | omega)
          · refine zG_iload X dX5_isFlooded_104 rfl ?_
            refine zj_if_eq X dX5_isFlooded_106 (tgt := 113) (by decide) (by first | decide | omega) (fun h_106 => ?_) (fun h_106 => ?_)
            · refine zj_iconst X dX5_isFlooded_113 ?_
              refine zG_zret X dX5_isFlooded_114 rfl (by first | rfl | assumption) ?_
              first
                | exact zD.of (congrArg (fun z => [Value.int (zI z)]) (if_pos (by omega)).symm) rfl rfl rfl
                | exact zD.of (congrArg (fun z => [Value.int (zI z)]) (if_neg (by omega)).symm) rfl rfl rfl
            · exact absurd h_106 (by first | decide | omega)
        · refine zG_iload_n X dX5_isFlooded_81 rfl ?_
          refine zG_iload_n X dX5_isFlooded_82 rfl ?_
          refine zj_sipush X dX5_isFlooded_83 (by decide) ?_
          refine zj_iadd X dX5_isFlooded_86 ?_
          refine zj_bipush X dX5_isFlooded_87 (by decide) ?_
          refine zj_isub X dX5_isFlooded_89 ?_
          refine zj_icmp_lt X dX5_isFlooded_90 (tgt := 97) (by decide) (by first | decide | omega) (by first | decide | omega) (fun h_90 => ?_) (fun h_90 => ?_)
          · refine zj_iconst X dX5_isFlooded_97 ?_
            refine zG_istore X dX5_isFlooded_98 (by decide) rfl ?_
            refine zG_iload_n X dX5_isFlooded_100 rfl ?_
            refine zj_if_ne X dX5_isFlooded_101 (tgt := 109) (by decide) (by first | decide | omega) (fun h_101 => ?_) (fun h_101 => ?_)
            · exact absurd h_101 (by first | decide | omega)
            · refine zG_iload X dX5_isFlooded_104 rfl ?_
              refine zj_if_eq X dX5_isFlooded_106 (tgt := 113) (by decide) (by first | decide | omega) (fun h_106 => ?_) (fun h_106 => ?_)
              · refine zj_iconst X dX5_isFlooded_113 ?_
                refine zG_zret X dX5_isFlooded_114 rfl (by first | rfl | assumption) ?_
                first
                  | exact zD.of (congrArg (fun z => [Value.int (zI z)]) (if_pos (by omega)).symm) rfl rfl rfl
                  | exact zD.of (congrArg (fun z => [Value.int (zI z)]) (if_neg (by omega)).symm) rfl rfl rfl
              · exact absurd h_106 (by first | decide | omega)
          · refine zj_iconst X dX5_isFlooded_93 ?_
            refine zG_goto X dX5_isFlooded_94 (tgt := 98) (by decide) ?_
            refine zG_istore X dX5_isFlooded_98 (by decide) rfl ?_
            refine zG_iload_n X dX5_isFlooded_100 rfl ?_
            refine zj_if_ne X dX5_isFlooded_101 (tgt := 109) (by decide) (by first | decide | omega) (fun h_101 => ?_) (fun h_101 => ?_)
            · exact absurd h_101 (by first | decide | omega)
            · refine zG_iload X dX5_isFlooded_104 rfl ?_
              refine zj_if_eq X dX5_isFlooded_106 (tgt := 113) (by decide) (by first | decide | omega) (fun h_106 => ?_) (fun h_106 => ?_)
              · exact absurd h_106 (by first | decide | omega)
              · refine zj_iconst X dX5_isFlooded_109 ?_
                refine zG_goto X dX5_isFlooded_110 (tgt := 114) (by decide) ?_
                refine zG_zret X dX5_isFlooded_114 rfl (by first | rfl | assumption) ?_
                first
                  | exact zD.of (congrArg (fun z => [Value.int (zI z)]) (if_pos (by omega)).symm) rfl rfl rfl
                  | exact zD.of (congrArg (fun z => [Value.int (zI z)]) (if_neg (by omega)).symm) rfl rfl rfl
      · refine zj_iconst X dX5_isFlooded_58 ?_
        refine zG_goto X dX5_isFlooded_59 (tgt := 63) (by decide) ?_
        refine zG_istore_n X dX5_isFlooded_63 (by decide) rfl ?_
        refine zG_aload_n X dX5_isFlooded_64 rfl ?_
        refine zG_getR X dX5_isFlooded_65 fl_X5_7 (by first | rfl | assumption) (by first | decide | omega) (by decide) rfl (by first | exact zF_at hF rfl rfl | assumption) ?_
        refine zj_iconst X dX5_isFlooded_68 ?_
        refine zj_iaload X dX5_isFlooded_69 (by first | rfl | assumption) (by first | decide | omega) (5) (by decide) (by decide) ?_
        refine zG_iload_n X dX5_isFlooded_70 rfl ?_
        refine zj_sipush X dX5_isFlooded_71 (by decide) ?_
        refine zj_iadd X dX5_isFlooded_74 ?_
        refine zj_bipush X dX5_isFlooded_75 (by decide) ?_
        refine zj_iadd X dX5_isFlooded_77 ?_
        refine zj_icmp_gt X dX5_isFlooded_78 (tgt := 97) (by decide) (by first | decide | omega) (by first | decide | omega) (fun h_78 => ?_) (fun h_78 => ?_)
        · refine zj_iconst X dX5_isFlooded_97 ?_
          refine zG_istore X dX5_isFlooded_98 (by decide) rfl ?_
          refine zG_iload_n X dX5_isFlooded_100 rfl ?_
          refine zj_if_ne X dX5_isFlooded_101 (tgt := 109) (by decide) (by first | decide | omega) (fun h_101 => ?_) (fun h_101 => ?_)
          · refine zj_iconst X dX5_isFlooded_109 ?_
            refine zG_goto X dX5_isFlooded_110 (tgt := 114) (by decide) ?_
            refine zG_zret X dX5_isFlooded_114 rfl (by first | rfl | assumption) ?_
            first
              | exact zD.of (congrArg (fun z => [Value.int (zI z)]) (if_pos (by omega)).symm) rfl rfl rfl
              | exact zD.of (congrArg (fun z => [Value.int (zI z)]) (if_neg (by omega)).symm) rfl rfl rfl
          · exact absurd h_101 (by first | decide | omega)
        · refine zG_iload_n X dX5_isFlooded_81 rfl ?_
          refine zG_iload_n X dX5_isFlooded_82 rfl ?_
          refine zj_sipush X dX5_isFlooded_83 (by decide) ?_
          refine zj_iadd X dX5_isFlooded_86 ?_
          refine zj_bipush X dX5_isFlooded_87 (by decide) ?_
          refine zj_isub X dX5_isFlooded_89 ?_
          refine zj_icmp_lt X dX5_isFlooded_90 (tgt := 97) (by decide) (by first | decide | omega) (by first | decide | omega) (fun h_90 => ?_) (fun h_90 => ?_)
          · refine zj_iconst X dX5_isFlooded_97 ?_
            refine zG_istore X dX5_isFlooded_98 (by decide) rfl ?_
            refine zG_iload_n X dX5_isFlooded_100 rfl ?_
            refine zj_if_ne X dX5_isFlooded_101 (tgt := 109) (by decide) (by first | decide | omega) (fun h_101 => ?_) (fun h_101 => ?_)
            · refine zj_iconst X dX5_isFlooded_109 ?_
              refine zG_goto X dX5_isFlooded_110 (tgt := 114) (by decide) ?_
              refine zG_zret X dX5_isFlooded_114 rfl (by first | rfl | assumption) ?_
              first
                | exact zD.of (congrArg (fun z => [Value.int (zI z)]) (if_pos (by omega)).symm) rfl rfl rfl
                | exact zD.of (congrArg (fun z => [Value.int (zI z)]) (if_neg (by omega)).symm) rfl rfl rfl
            · exact absurd h_101 (by first | decide | omega)
          · refine zj_iconst X dX5_isFlooded_93 ?_
            refine zG_goto X dX5_isFlooded_94 (tgt := 98) (by decide) ?_
            refine zG_istore X dX5_isFlooded_98 (by decide) rfl ?_
            refine zG_iload_n X dX5_isFlooded_100 rfl ?_
            refine zj_if_ne X dX5_isFlooded_101 (tgt := 109) (by decide) (by first | decide | omega) (fun h_101 => ?_) (fun h_101 => ?_)
            · refine zj_iconst X dX5_isFlooded_109 ?_
              refine zG_goto X dX5_isFlooded_110 (tgt := 114) (by decide) ?_
              refine zG_zret X dX5_isFlooded_114 rfl (by first | rfl | assumption) ?_
              first
                | exact zD.of (congrArg (fun z => [Value.int (zI z)]) (if_pos (by omega)).symm) rfl rfl rfl
                | exact zD.of (congrArg (fun z => [Value.int (zI z)]) (if_neg (by omega)).symm) rfl rfl rfl
            · exact absurd h_101 (by first | decide | omega)
  · refine zG_iload_n X dX5_isFlooded_24 rfl ?_
    refine zG_goto X dX5_isFlooded_25 (tgt := 31) (by decide) ?_
    refine zG_istore_n X dX5_isFlooded_31 (by decide) rfl ?_
    refine zG_aload_n X dX5_isFlooded_32 rfl ?_
    refine zj_callV1 (as2 := []) X (k_X5_firstHigh lo (d - 1) (by omega) J G F hF v ok po l1 l2 w1 w2 c0) dX5_isFlooded_33 mv_X5_firstHigh ml_X5_79 (by first | rfl | assumption) rfl (by first | decide | omega) rfl rfl (by show d - 1 + 1 ≤ d; omega) (by show 19 + 1 + 35 * (d - 1) ≤ 35 * (d); omega) (Nat.le_of_ble_eq_true rfl) (Nat.le_of_ble_eq_true rfl) (Nat.le_of_ble_eq_true rfl) ?_
    have hh1 : 0 ≤ mhigh hs wd ps lag := Int.emod_nonneg _ (by decide)
    have hh2 : mhigh hs wd ps lag < 720 := Int.emod_lt_of_pos _ (by decide)
    generalize mhigh hs wd ps lag = Hh at hh1 hh2 ⊢
    refine zG_istore_n X dX5_isFlooded_36 (by decide) rfl ?_
    refine zG_aload_n X dX5_isFlooded_37 rfl ?_
    refine zG_getR X dX5_isFlooded_38 fl_X5_7 (by first | rfl | assumption) (by first | decide | omega) (by decide) rfl (by first | exact zF_at hF rfl rfl | assumption) ?_
    refine zj_iconst X dX5_isFlooded_41 ?_
    refine zj_iaload X dX5_isFlooded_42 (by first | rfl | assumption) (by first | decide | omega) (5) (by decide) (by decide) ?_
    refine zG_iload_n X dX5_isFlooded_43 rfl ?_
    refine zj_bipush X dX5_isFlooded_44 (by decide) ?_
    refine zj_iadd X dX5_isFlooded_46 ?_
    refine zj_icmp_gt X dX5_isFlooded_47 (tgt := 62) (by decide) (by first | decide | omega) (by first | decide | omega) (fun h_47 => ?_) (fun h_47 => ?_)
    · refine zj_iconst X dX5_isFlooded_62 ?_
      refine zG_istore_n X dX5_isFlooded_63 (by decide) rfl ?_
      refine zG_aload_n X dX5_isFlooded_64 rfl ?_
      refine zG_getR X dX5_isFlooded_65 fl_X5_7 (by first | rfl | assumption) (by first | decide | omega) (by decide) rfl (by first | exact zF_at hF rfl rfl | assumption) ?_
      refine zj_iconst X dX5_isFlooded_68 ?_
      refine zj_iaload X dX5_isFlooded_69 (by first | rfl | assumption) (by first | decide | omega) (5) (by decide) (by decide) ?_
      refine zG_iload_n X dX5_isFlooded_70 rfl ?_
      refine zj_sipush X dX5_isFlooded_71 (by decide) ?_
      refine zj_iadd X dX5_isFlooded_74 ?_
      refine zj_bipush X dX5_isFlooded_75 (by decide) ?_
      refine zj_iadd X dX5_isFlooded_77 ?_
      refine zj_icmp_gt X dX5_isFlooded_78 (tgt := 97) (by decide) (by first | decide | omega) (by first | decide | omega) (fun h_78 => ?_) (fun h_78 => ?_)
      · refine zj_iconst X dX5_isFlooded_97 ?_
        refine zG_istore X dX5_isFlooded_98 (by decide) rfl ?_
        refine zG_iload_n X dX5_isFlooded_100 rfl ?_
        refine zj_if_ne X dX5_isFlooded_101 (tgt := 109) (by decide) (by first | decide | omega) (fun h_101 => ?_) (fun h_101 => ?_)
        · exact absurd h_101 (by first | decide | omega)
        · refine zG_iload X dX5_isFlooded_104 rfl ?_
          refine zj_if_eq X dX5_isFlooded_106 (tgt := 113) (by decide) (by first | decide | omega) (fun h_106 => ?_) (fun h_106 => ?_)
          · refine zj_iconst X dX5_isFlooded_113 ?_
            refine zG_zret X dX5_isFlooded_114 rfl (by first | rfl | assumption) ?_
            first
              | exact zD.of (congrArg (fun z => [Value.int (zI z)]) (if_pos (by omega)).symm) rfl rfl rfl
              | exact zD.of (congrArg (fun z => [Value.int (zI z)]) (if_neg (by omega)).symm) rfl rfl rfl
          · exact absurd h_106 (by first | decide | omega)
      · refine zG_iload_n X dX5_isFlooded_81 rfl ?_
        refine zG_iload_n X dX5_isFlooded_82 rfl ?_
        refine zj_sipush X dX5_isFlooded_83 (by decide) ?_
        refine zj_iadd X dX5_isFlooded_86 ?_
        refine zj_bipush X dX5_isFlooded_87 (by decide) ?_
        refine zj_isub X dX5_isFlooded_89 ?_
        refine zj_icmp_lt X dX5_isFlooded_90 (tgt := 97) (by decide) (by first | decide | omega) (by first | decide | omega) (fun h_90 => ?_) (fun h_90 => ?_)
        · refine zj_iconst X dX5_isFlooded_97 ?_
          refine zG_istore X dX5_isFlooded_98 (by decide) rfl ?_
          refine zG_iload_n X dX5_isFlooded_100 rfl ?_
          refine zj_if_ne X dX5_isFlooded_101 (tgt := 109) (by decide) (by first | decide | omega) (fun h_101 => ?_) (fun h_101 => ?_)
          · exact absurd h_101 (by first | decide | omega)
          · refine zG_iload X dX5_isFlooded_104 rfl ?_
            refine zj_if_eq X dX5_isFlooded_106 (tgt := 113) (by decide) (by first | decide | omega) (fun h_106 => ?_) (fun h_106 => ?_)
            · refine zj_iconst X dX5_isFlooded_113 ?_
              refine zG_zret X dX5_isFlooded_114 rfl (by first | rfl | assumption) ?_
              first
                | exact zD.of (congrArg (fun z => [Value.int (zI z)]) (if_pos (by omega)).symm) rfl rfl rfl
                | exact zD.of (congrArg (fun z => [Value.int (zI z)]) (if_neg (by omega)).symm) rfl rfl rfl
            · exact absurd h_106 (by first | decide | omega)
        · refine zj_iconst X dX5_isFlooded_93 ?_
          refine zG_goto X dX5_isFlooded_94 (tgt := 98) (by decide) ?_
          refine zG_istore X dX5_isFlooded_98 (by decide) rfl ?_
          refine zG_iload_n X dX5_isFlooded_100 rfl ?_
          refine zj_if_ne X dX5_isFlooded_101 (tgt := 109) (by decide) (by first | decide | omega) (fun h_101 => ?_) (fun h_101 => ?_)
          · exact absurd h_101 (by first | decide | omega)
          · refine zG_iload X dX5_isFlooded_104 rfl ?_
            refine zj_if_eq X dX5_isFlooded_106 (tgt := 113) (by decide) (by first | decide | omega) (fun h_106 => ?_) (fun h_106 => ?_)
            · exact absurd h_106 (by first | decide | omega)
            · refine zj_iconst X dX5_isFlooded_109 ?_
              refine zG_goto X dX5_isFlooded_110 (tgt := 114) (by decide) ?_
              refine zG_zret X dX5_isFlooded_114 rfl (by first | rfl | assumption) ?_
              first
                | exact zD.of (congrArg (fun z => [Value.int (zI z)]) (if_pos (by omega)).symm) rfl rfl rfl
                | exact zD.of (congrArg (fun z => [Value.int (zI z)]) (if_neg (by omega)).symm) rfl rfl rfl
    · refine zG_iload_n X dX5_isFlooded_50 rfl ?_
      refine zG_iload_n X dX5_isFlooded_51 rfl ?_
      refine zj_bipush X dX5_isFlooded_52 (by decide) ?_
      refine zj_isub X dX5_isFlooded_54 ?_
      refine zj_icmp_lt X dX5_isFlooded_55 (tgt := 62) (by decide) (by first | decide | omega) (by first | decide | omega) (fun h_55 => ?_) (fun h_55 => ?_)
      · refine zj_iconst X dX5_isFlooded_62 ?_
        refine zG_istore_n X dX5_isFlooded_63 (by decide) rfl ?_
        refine zG_aload_n X dX5_isFlooded_64 rfl ?_
        refine zG_getR X dX5_isFlooded_65 fl_X5_7 (by first | rfl | assumption) (by first | decide | omega) (by decide) rfl (by first | exact zF_at hF rfl rfl | assumption) ?_
        refine zj_iconst X dX5_isFlooded_68 ?_
        refine zj_iaload X dX5_isFlooded_69 (by first | rfl | assumption) (by first | decide | omega) (5) (by decide) (by decide) ?_
        refine zG_iload_n X dX5_isFlooded_70 rfl ?_
        refine zj_sipush X dX5_isFlooded_71 (by decide) ?_
        refine zj_iadd X dX5_isFlooded_74 ?_
        refine zj_bipush X dX5_isFlooded_75 (by decide) ?_
        refine zj_iadd X dX5_isFlooded_77 ?_
        refine zj_icmp_gt X dX5_isFlooded_78 (tgt := 97) (by decide) (by first | decide | omega) (by first | decide | omega) (fun h_78 => ?_) (fun h_78 => ?_)
        · refine zj_iconst X dX5_isFlooded_97 ?_
          refine zG_istore X dX5_isFlooded_98 (by decide) rfl ?_
          refine zG_iload_n X dX5_isFlooded_100 rfl ?_
          refine zj_if_ne X dX5_isFlooded_101 (tgt := 109) (by decide) (by first | decide | omega) (fun h_101 => ?_) (fun h_101 => ?_)
          · exact absurd h_101 (by first | decide | omega)
          · refine zG_iload X dX5_isFlooded_104 rfl ?_
            refine zj_if_eq X dX5_isFlooded_106 (tgt := 113) (by decide) (by first | decide | omega) (fun h_106 => ?_) (fun h_106 => ?_)
            · refine zj_iconst X dX5_isFlooded_113 ?_
              refine zG_zret X dX5_isFlooded_114 rfl (by first | rfl | assumption) ?_
              first
                | exact zD.of (congrArg (fun z => [Value.int (zI z)]) (if_pos (by omega)).symm) rfl rfl rfl
                | exact zD.of (congrArg (fun z => [Value.int (zI z)]) (if_neg (by omega)).symm) rfl rfl rfl
            · exact absurd h_106 (by first | decide | omega)
        · refine zG_iload_n X dX5_isFlooded_81 rfl ?_
          refine zG_iload_n X dX5_isFlooded_82 rfl ?_
          refine zj_sipush X dX5_isFlooded_83 (by decide) ?_
          refine zj_iadd X dX5_isFlooded_86 ?_
          refine zj_bipush X dX5_isFlooded_87 (by decide) ?_
          refine zj_isub X dX5_isFlooded_89 ?_
          refine zj_icmp_lt X dX5_isFlooded_90 (tgt := 97) (by decide) (by first | decide | omega) (by first | decide | omega) (fun h_90 => ?_) (fun h_90 => ?_)
          · refine zj_iconst X dX5_isFlooded_97 ?_
            refine zG_istore X dX5_isFlooded_98 (by decide) rfl ?_
            refine zG_iload_n X dX5_isFlooded_100 rfl ?_
            refine zj_if_ne X dX5_isFlooded_101 (tgt := 109) (by decide) (by first | decide | omega) (fun h_101 => ?_) (fun h_101 => ?_)
            · exact absurd h_101 (by first | decide | omega)
            · refine zG_iload X dX5_isFlooded_104 rfl ?_
              refine zj_if_eq X dX5_isFlooded_106 (tgt := 113) (by decide) (by first | decide | omega) (fun h_106 => ?_) (fun h_106 => ?_)
              · refine zj_iconst X dX5_isFlooded_113 ?_
                refine zG_zret X dX5_isFlooded_114 rfl (by first | rfl | assumption) ?_
                first
                  | exact zD.of (congrArg (fun z => [Value.int (zI z)]) (if_pos (by omega)).symm) rfl rfl rfl
                  | exact zD.of (congrArg (fun z => [Value.int (zI z)]) (if_neg (by omega)).symm) rfl rfl rfl
              · exact absurd h_106 (by first | decide | omega)
          · refine zj_iconst X dX5_isFlooded_93 ?_
            refine zG_goto X dX5_isFlooded_94 (tgt := 98) (by decide) ?_
            refine zG_istore X dX5_isFlooded_98 (by decide) rfl ?_
            refine zG_iload_n X dX5_isFlooded_100 rfl ?_
            refine zj_if_ne X dX5_isFlooded_101 (tgt := 109) (by decide) (by first | decide | omega) (fun h_101 => ?_) (fun h_101 => ?_)
            · exact absurd h_101 (by first | decide | omega)
            · refine zG_iload X dX5_isFlooded_104 rfl ?_
              refine zj_if_eq X dX5_isFlooded_106 (tgt := 113) (by decide) (by first | decide | omega) (fun h_106 => ?_) (fun h_106 => ?_)
              · exact absurd h_106 (by first | decide | omega)
              · refine zj_iconst X dX5_isFlooded_109 ?_
                refine zG_goto X dX5_isFlooded_110 (tgt := 114) (by decide) ?_
                refine zG_zret X dX5_isFlooded_114 rfl (by first | rfl | assumption) ?_
                first
                  | exact zD.of (congrArg (fun z => [Value.int (zI z)]) (if_pos (by omega)).symm) rfl rfl rfl
                  | exact zD.of (congrArg (fun z => [Value.int (zI z)]) (if_neg (by omega)).symm) rfl rfl rfl
      · refine zj_iconst X dX5_isFlooded_58 ?_
        refine zG_goto X dX5_isFlooded_59 (tgt := 63) (by decide) ?_
        refine zG_istore_n X dX5_isFlooded_63 (by decide) rfl ?_
        refine zG_aload_n X dX5_isFlooded_64 rfl ?_
        refine zG_getR X dX5_isFlooded_65 fl_X5_7 (by first | rfl | assumption) (by first | decide | omega) (by decide) rfl (by first | exact zF_at hF rfl rfl | assumption) ?_
        refine zj_iconst X dX5_isFlooded_68 ?_
        refine zj_iaload X dX5_isFlooded_69 (by first | rfl | assumption) (by first | decide | omega) (5) (by decide) (by decide) ?_
        refine zG_iload_n X dX5_isFlooded_70 rfl ?_
        refine zj_sipush X dX5_isFlooded_71 (by decide) ?_
        refine zj_iadd X dX5_isFlooded_74 ?_
        refine zj_bipush X dX5_isFlooded_75 (by decide) ?_
        refine zj_iadd X dX5_isFlooded_77 ?_
        refine zj_icmp_gt X dX5_isFlooded_78 (tgt := 97) (by decide) (by first | decide | omega) (by first | decide | omega) (fun h_78 => ?_) (fun h_78 => ?_)
        · refine zj_iconst X dX5_isFlooded_97 ?_
          refine zG_istore X dX5_isFlooded_98 (by decide) rfl ?_
          refine zG_iload_n X dX5_isFlooded_100 rfl ?_
          refine zj_if_ne X dX5_isFlooded_101 (tgt := 109) (by decide) (by first | decide | omega) (fun h_101 => ?_) (fun h_101 => ?_)
          · refine zj_iconst X dX5_isFlooded_109 ?_
            refine zG_goto X dX5_isFlooded_110 (tgt := 114) (by decide) ?_
            refine zG_zret X dX5_isFlooded_114 rfl (by first | rfl | assumption) ?_
            first
              | exact zD.of (congrArg (fun z => [Value.int (zI z)]) (if_pos (by omega)).symm) rfl rfl rfl
              | exact zD.of (congrArg (fun z => [Value.int (zI z)]) (if_neg (by omega)).symm) rfl rfl rfl
          · exact absurd h_101 (by first | decide | omega)
        · refine zG_iload_n X dX5_isFlooded_81 rfl ?_
          refine zG_iload_n X dX5_isFlooded_82 rfl ?_
          refine zj_sipush X dX5_isFlooded_83 (by decide) ?_
          refine zj_iadd X dX5_isFlooded_86 ?_
          refine zj_bipush X dX5_isFlooded_87 (by decide) ?_
          refine zj_isub X dX5_isFlooded_89 ?_
          refine zj_icmp_lt X dX5_isFlooded_90 (tgt := 97) (by decide) (by first | decide | omega) (by first | decide | omega) (fun h_90 => ?_) (fun h_90 => ?_)
          · refine zj_iconst X dX5_isFlooded_97 ?_
            refine zG_istore X dX5_isFlooded_98 (by decide) rfl ?_
            refine zG_iload_n X dX5_isFlooded_100 rfl ?_
            refine zj_if_ne X dX5_isFlooded_101 (tgt := 109) (by decide) (by first | decide | omega) (fun h_101 => ?_) (fun h_101 => ?_)
            · refine zj_iconst X dX5_isFlooded_109 ?_
              refine zG_goto X dX5_isFlooded_110 (tgt := 114) (by decide) ?_
              refine zG_zret X dX5_isFlooded_114 rfl (by first | rfl | assumption) ?_
              first
                | exact zD.of (congrArg (fun z => [Value.int (zI z)]) (if_pos (by omega)).symm) rfl rfl rfl
                | exact zD.of (congrArg (fun z => [Value.int (zI z)]) (if_neg (by omega)).symm) rfl rfl rfl
            · exact absurd h_101 (by first | decide | omega)
          · refine zj_iconst X dX5_isFlooded_93 ?_
            refine zG_goto X dX5_isFlooded_94 (tgt := 98) (by decide) ?_
            refine zG_istore X dX5_isFlooded_98 (by decide) rfl ?_
            refine zG_iload_n X dX5_isFlooded_100 rfl ?_
            refine zj_if_ne X dX5_isFlooded_101 (tgt := 109) (by decide) (by first | decide | omega) (fun h_101 => ?_) (fun h_101 => ?_)
            · refine zj_iconst X dX5_isFlooded_109 ?_
              refine zG_goto X dX5_isFlooded_110 (tgt := 114) (by decide) ?_
              refine zG_zret X dX5_isFlooded_114 rfl (by first | rfl | assumption) ?_
              first
                | exact zD.of (congrArg (fun z => [Value.int (zI z)]) (if_pos (by omega)).symm) rfl rfl rfl
                | exact zD.of (congrArg (fun z => [Value.int (zI z)]) (if_neg (by omega)).symm) rfl rfl rfl
            · exact absurd h_101 (by first | decide | omega)
set_option maxHeartbeats 4000000 in
set_option maxRecDepth 100000 in
theorem k_X5_today (lo d : Nat) (hd : 4 ≤ d) (J : Nat → Nat → Int) (G : Nat → Nat → Int64) (F : Nat → Nat → Option Nat) (hF : zFk F) {hs : Nat → Int} {wd : Nat → Nat → Int} {sb : Nat → Bool} {ps : Nat → Int} {lag wt : Int} {sk : Bool} (v : mV (J 51) hs wd sb ps lag wt sk) (ok : hwOk hs wd) (po : pOk wd ps) (l1 : 0 ≤ lag) (l2 : lag < 720) (w1 : 0 ≤ wt) (w2 : wt ≤ 1000) : zCt lo yX5_today cX5_today 1 (some .int) d 0 0 [.ref (lo + 50)] 57 57 (zM J) G F (zD [.int (zI (mfate hs wd sb ps lag wt))] J G F) := by
  refine zCt.mk (by decide) (mv_X5_today.2.2.2.1) (Nat.le_of_ble_eq_true rfl) ?_
  intro p l e s m args below meth c D cA X
  obtain ⟨e0, e2, e3, e4, e5, e6, e7, e11⟩ := v.1
  have hok := ok.1
  unfold hOk at hok
  refine zG_aload_n X dX5_today_0 rfl ?_
  refine zG_getR X dX5_today_1 fl_X5_7 (by first | rfl | assumption) (by first | decide | omega) (by decide) rfl (by first | exact zF_at hF rfl rfl | assumption) ?_
  refine zj_iconst X dX5_today_4 ?_
  refine zj_iaload X dX5_today_5 (by first | rfl | assumption) (by first | decide | omega) (0) (by decide) (by decide) ?_
  refine zj_if_eq X dX5_today_6 (tgt := 41) (by decide) (by first | decide | omega) (fun h_6 => ?_) (fun h_6 => ?_)
  · refine zj_iconst X dX5_today_41 ?_
    refine zG_iret X dX5_today_42 rfl ?_
    refine zD.of (congrArg (fun z => [Value.int (zI z)]) (mf_0 ?_).symm) rfl rfl rfl
    rintro ⟨ha, hb2⟩
    first
      | omega
      | (rcases hb2 with hb2 | hb2 <;> first | omega | exact hb hb2)
  · refine zG_aload_n X dX5_today_9 rfl ?_
    refine zG_getR X dX5_today_10 fl_X5_7 (by first | rfl | assumption) (by first | decide | omega) (by decide) rfl (by first | exact zF_at hF rfl rfl | assumption) ?_
    refine zj_bipush X dX5_today_13 (by decide) ?_
    refine zG_aload_n X dX5_today_15 rfl ?_
    refine zG_aload_n X dX5_today_16 rfl ?_
    refine zG_getR X dX5_today_17 fl_X5_7 (by first | rfl | assumption) (by first | decide | omega) (by decide) rfl (by first | exact zF_at hF rfl rfl | assumption) ?_
    refine zj_iconst X dX5_today_20 ?_
    refine zj_iaload X dX5_today_21 (by first | rfl | assumption) (by first | decide | omega) (4) (by decide) (by decide) ?_
    refine zj_iconst X dX5_today_22 ?_
    refine zj_callV1 (as2 := [_, _]) X (k_X5_ofv lo (d - 1) (by omega) (J) G F hF (u := J 51 4) (v := 1) (x := ps (hs 4).toNat) ((hs 4).toNat) 1 (by omega) (by omega) (by omega) rfl ((v.2.1 (hs 4).toNat (by omega)).2.1)) dX5_today_23 mv_X5_of ml_X5_45 (by first | rfl | assumption) rfl (by first | decide | omega) rfl rfl (by show d - 1 + 1 ≤ d; omega) (by show 19 + 3 + 35 * (d - 1) ≤ 35 * (d); omega) (Nat.le_of_ble_eq_true rfl) (Nat.le_of_ble_eq_true rfl) (Nat.le_of_ble_eq_true rfl) ?_
    refine zj_iadd X dX5_today_26 ?_
    have hpm := po (hs 4).toNat (by omega)
    have hwm := hwOk_w ok (k := (hs 4).toNat) (by omega)
    refine zj_ialoadv (v := (if sb (ps (hs 4).toNat).toNat = true then 1 else 0)) X dX5_today_27 (by first | rfl | assumption) (by first | decide | omega) (48 + (ps (hs 4).toNat).toNat) (by omega) (by omega) (v.2.2 _ (by omega)) ?_
    by_cases hb : sb (ps (hs 4).toNat).toNat = true
    · rw [if_pos hb]
      refine zj_if_ne X dX5_today_28 (tgt := 43) (by decide) (by first | decide | omega) (fun h_28 => ?_) (fun h_28 => ?_)
      · refine zG_aload_n X dX5_today_43 rfl ?_
        refine zj_callV1 (as2 := []) X (k_X5_isFlooded lo (d - 1) (by omega) J G F hF v ok po l1 l2 w1 w2 (by omega)) dX5_today_44 mv_X5_isFlooded ml_X5_82 (by first | rfl | assumption) rfl (by first | decide | omega) rfl rfl (by show d - 1 + 1 ≤ d; omega) (by show 19 + 5 + 35 * (d - 1) ≤ 35 * (d); omega) (Nat.le_of_ble_eq_true rfl) (Nat.le_of_ble_eq_true rfl) (Nat.le_of_ble_eq_true rfl) ?_
        by_cases hm : mfree hs (mhigh hs wd ps lag)
        · rw [if_pos hm]
          refine zj_if_ne X dX5_today_47 (tgt := 54) (by decide) (by first | decide | omega) (fun h_47 => ?_) (fun h_47 => ?_)
          · exact absurd h_47 (by first | decide | omega)
          · refine zj_iconst X dX5_today_50 ?_
            refine zG_goto X dX5_today_51 (tgt := 76) (by decide) ?_
            refine zG_iret X dX5_today_76 rfl ?_
            have hdu : mdue hs sb ps wt := ⟨by omega, by first | exact Or.inr hb | exact Or.inl (by omega)⟩
            first
              | exact zD.of (congrArg (fun z => [Value.int (zI z)]) (mf_1 hdu hm).symm) rfl rfl rfl
              | exact zD.of (congrArg (fun z => [Value.int (zI z)]) (mf_2 hdu hm (by omega)).symm) rfl rfl rfl
              | exact zD.of (congrArg (fun z => [Value.int (zI z)]) (mf_3 hdu hm (by omega)).symm) rfl rfl rfl
        · rw [if_neg hm]
          refine zj_if_ne X dX5_today_47 (tgt := 54) (by decide) (by first | decide | omega) (fun h_47 => ?_) (fun h_47 => ?_)
          · refine zG_aload_n X dX5_today_54 rfl ?_
            refine zG_getR X dX5_today_55 fl_X5_7 (by first | rfl | assumption) (by first | decide | omega) (by decide) rfl (by first | exact zF_at hF rfl rfl | assumption) ?_
            refine zj_bipush X dX5_today_58 (by decide) ?_
            refine zj_iaload X dX5_today_60 (by first | rfl | assumption) (by first | decide | omega) (11) (by decide) (by decide) ?_
            refine zG_aload_n X dX5_today_61 rfl ?_
            refine zG_getR X dX5_today_62 fl_X5_7 (by first | rfl | assumption) (by first | decide | omega) (by decide) rfl (by first | exact zF_at hF rfl rfl | assumption) ?_
            refine zj_bipush X dX5_today_65 (by decide) ?_
            refine zj_iaload X dX5_today_67 (by first | rfl | assumption) (by first | decide | omega) (7) (by decide) (by decide) ?_
            refine zj_icmp_ge X dX5_today_68 (tgt := 75) (by decide) (by first | decide | omega) (by first | decide | omega) (fun h_68 => ?_) (fun h_68 => ?_)
            · refine zj_iconst X dX5_today_75 ?_
              refine zG_iret X dX5_today_76 rfl ?_
              have hdu : mdue hs sb ps wt := ⟨by omega, by first | exact Or.inr hb | exact Or.inl (by omega)⟩
              first
                | exact zD.of (congrArg (fun z => [Value.int (zI z)]) (mf_1 hdu hm).symm) rfl rfl rfl
                | exact zD.of (congrArg (fun z => [Value.int (zI z)]) (mf_2 hdu hm (by omega)).symm) rfl rfl rfl
                | exact zD.of (congrArg (fun z => [Value.int (zI z)]) (mf_3 hdu hm (by omega)).symm) rfl rfl rfl
            · refine zj_iconst X dX5_today_71 ?_
              refine zG_goto X dX5_today_72 (tgt := 76) (by decide) ?_
              refine zG_iret X dX5_today_76 rfl ?_
              have hdu : mdue hs sb ps wt := ⟨by omega, by first | exact Or.inr hb | exact Or.inl (by omega)⟩
              first
                | exact zD.of (congrArg (fun z => [Value.int (zI z)]) (mf_1 hdu hm).symm) rfl rfl rfl
                | exact zD.of (congrArg (fun z => [Value.int (zI z)]) (mf_2 hdu hm (by omega)).symm) rfl rfl rfl
                | exact zD.of (congrArg (fun z => [Value.int (zI z)]) (mf_3 hdu hm (by omega)).symm) rfl rfl rfl
          · exact absurd h_47 (by first | decide | omega)
      · exact absurd h_28 (by first | decide | omega)
    · rw [if_neg hb]
      refine zj_if_ne X dX5_today_28 (tgt := 43) (by decide) (by first | decide | omega) (fun h_28 => ?_) (fun h_28 => ?_)
      · exact absurd h_28 (by first | decide | omega)
      · refine zG_aload_n X dX5_today_31 rfl ?_
        refine zG_getR X dX5_today_32 fl_X5_7 (by first | rfl | assumption) (by first | decide | omega) (by decide) rfl (by first | exact zF_at hF rfl rfl | assumption) ?_
        refine zj_bipush X dX5_today_35 (by decide) ?_
        refine zj_iaload X dX5_today_37 (by first | rfl | assumption) (by first | decide | omega) (11) (by decide) (by decide) ?_
        refine zj_if_ne X dX5_today_38 (tgt := 43) (by decide) (by first | decide | omega) (fun h_38 => ?_) (fun h_38 => ?_)
        · refine zG_aload_n X dX5_today_43 rfl ?_
          refine zj_callV1 (as2 := []) X (k_X5_isFlooded lo (d - 1) (by omega) J G F hF v ok po l1 l2 w1 w2 (by omega)) dX5_today_44 mv_X5_isFlooded ml_X5_82 (by first | rfl | assumption) rfl (by first | decide | omega) rfl rfl (by show d - 1 + 1 ≤ d; omega) (by show 19 + 5 + 35 * (d - 1) ≤ 35 * (d); omega) (Nat.le_of_ble_eq_true rfl) (Nat.le_of_ble_eq_true rfl) (Nat.le_of_ble_eq_true rfl) ?_
          by_cases hm : mfree hs (mhigh hs wd ps lag)
          · rw [if_pos hm]
            refine zj_if_ne X dX5_today_47 (tgt := 54) (by decide) (by first | decide | omega) (fun h_47 => ?_) (fun h_47 => ?_)
            · exact absurd h_47 (by first | decide | omega)
            · refine zj_iconst X dX5_today_50 ?_
              refine zG_goto X dX5_today_51 (tgt := 76) (by decide) ?_
              refine zG_iret X dX5_today_76 rfl ?_
              have hdu : mdue hs sb ps wt := ⟨by omega, by first | exact Or.inr hb | exact Or.inl (by omega)⟩
              first
                | exact zD.of (congrArg (fun z => [Value.int (zI z)]) (mf_1 hdu hm).symm) rfl rfl rfl
                | exact zD.of (congrArg (fun z => [Value.int (zI z)]) (mf_2 hdu hm (by omega)).symm) rfl rfl rfl
                | exact zD.of (congrArg (fun z => [Value.int (zI z)]) (mf_3 hdu hm (by omega)).symm) rfl rfl rfl
          · rw [if_neg hm]
            refine zj_if_ne X dX5_today_47 (tgt := 54) (by decide) (by first | decide | omega) (fun h_47 => ?_) (fun h_47 => ?_)
            · refine zG_aload_n X dX5_today_54 rfl ?_
              refine zG_getR X dX5_today_55 fl_X5_7 (by first | rfl | assumption) (by first | decide | omega) (by decide) rfl (by first | exact zF_at hF rfl rfl | assumption) ?_
              refine zj_bipush X dX5_today_58 (by decide) ?_
              refine zj_iaload X dX5_today_60 (by first | rfl | assumption) (by first | decide | omega) (11) (by decide) (by decide) ?_
              refine zG_aload_n X dX5_today_61 rfl ?_
              refine zG_getR X dX5_today_62 fl_X5_7 (by first | rfl | assumption) (by first | decide | omega) (by decide) rfl (by first | exact zF_at hF rfl rfl | assumption) ?_
              refine zj_bipush X dX5_today_65 (by decide) ?_
              refine zj_iaload X dX5_today_67 (by first | rfl | assumption) (by first | decide | omega) (7) (by decide) (by decide) ?_
              refine zj_icmp_ge X dX5_today_68 (tgt := 75) (by decide) (by first | decide | omega) (by first | decide | omega) (fun h_68 => ?_) (fun h_68 => ?_)
              · refine zj_iconst X dX5_today_75 ?_
                refine zG_iret X dX5_today_76 rfl ?_
                have hdu : mdue hs sb ps wt := ⟨by omega, by first | exact Or.inr hb | exact Or.inl (by omega)⟩
                first
                  | exact zD.of (congrArg (fun z => [Value.int (zI z)]) (mf_1 hdu hm).symm) rfl rfl rfl
                  | exact zD.of (congrArg (fun z => [Value.int (zI z)]) (mf_2 hdu hm (by omega)).symm) rfl rfl rfl
                  | exact zD.of (congrArg (fun z => [Value.int (zI z)]) (mf_3 hdu hm (by omega)).symm) rfl rfl rfl
              · refine zj_iconst X dX5_today_71 ?_
                refine zG_goto X dX5_today_72 (tgt := 76) (by decide) ?_
                refine zG_iret X dX5_today_76 rfl ?_
                have hdu : mdue hs sb ps wt := ⟨by omega, by first | exact Or.inr hb | exact Or.inl (by omega)⟩
                first
                  | exact zD.of (congrArg (fun z => [Value.int (zI z)]) (mf_1 hdu hm).symm) rfl rfl rfl
                  | exact zD.of (congrArg (fun z => [Value.int (zI z)]) (mf_2 hdu hm (by omega)).symm) rfl rfl rfl
                  | exact zD.of (congrArg (fun z => [Value.int (zI z)]) (mf_3 hdu hm (by omega)).symm) rfl rfl rfl
            · exact absurd h_47 (by first | decide | omega)
        · refine zj_iconst X dX5_today_41 ?_
          refine zG_iret X dX5_today_42 rfl ?_
          refine zD.of (congrArg (fun z => [Value.int (zI z)]) (mf_0 ?_).symm) rfl rfl rfl
          rintro ⟨ha, hb2⟩
          first
            | omega
            | (rcases hb2 with hb2 | hb2 <;> first | omega | exact hb hb2)
