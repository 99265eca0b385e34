theorem zle_nil {L : List (Option Value)} : zle [] L := fun i v h => by simp at h
theorem zle_none {a b : List (Option Value)} {x : Option Value} (h : zle a b) : zle (none :: a) (x :: b) := fun i v q => by
  match i, q with
  | 0, q => simp at q
  | i + 1, q => exact h i v q
theorem zle_some {a b : List (Option Value)} {x : Value} (h : zle a b) : zle (some x :: a) (some x :: b) := fun i v q => by
  match i, q with
  | 0, q => exact q
  | i + 1, q => exact h i v q
theorem mvp_ge {wd : Nat → Nat → Int} {sk : Bool} {p : Nat → Int} : ∀ {n j : Nat}, n ≤ j → mvp wd sk n p j = p j
  | 0, j, h => rfl
  | n + 1, j, h => by
    show (if j = n then _ else _) = _
    rw [if_neg (by omega), mvp_ge (by omega)]
theorem mvp_ok {wd : Nat → Nat → Int} {sk : Bool} {p : Nat → Int} (hw : ∀ k, k < 5 → wOk (wd k) k) (hp : pOk wd p) : ∀ (n : Nat), n ≤ 5 → pOk wd (mvp wd sk n p)
  | 0, _ => hp
  | n + 1, h => by
    intro k hk
    have ih := mvp_ok (sk := sk) hw hp n (by omega)
    show 0 ≤ (if k = n then _ else _) ∧ (if k = n then _ else _) < _
    by_cases hkn : k = n
    · subst hkn
      rw [if_pos rfl]
      have h0 : 0 < wd k 0 := by have := hw k hk; unfold wOk at this; omega
      exact ⟨Int.emod_nonneg _ (by omega), Int.emod_lt_of_pos _ h0⟩
    · rw [if_neg hkn]
      exact ih k hk
theorem mv_step {J : Nat → Nat → Int} {a k : Nat} {wd : Nat → Nat → Int} {sk : Bool} {p : Nat → Int} {v : Int} (hv : v = (mvp wd sk k p k + mvS wd sk (mvp wd sk k p) k) % wd k 0) : zup (upr J a (mvp wd sk k p)) a k v = upr J a (mvp wd sk (k + 1) p) := by
  rw [zup_upr]
  exact upr_congr fun i => by rw [hv]; rfl
def stW (J : Nat → Nat → Int) (w k : Nat) : Nat → Nat → Int := upr J (w + 1) (fun i => if i < k then J (3 + i) 1 else J (w + 1) i)
def stJ (J : Nat → Nat → Int) (w : Nat) : Nat → Nat → Int := zup (zup (zup (stW J w 5) w 2 (J 1 13)) w 3 (J 1 4)) w 4 1
theorem stW_0 {J : Nat → Nat → Int} {w : Nat} : stW J w 0 = J := by
  unfold stW
  rw [show (fun i => if i < 0 then J (3 + i) 1 else J (w + 1) i) = J (w + 1) from funext fun i => if_neg (by omega)]
  exact upr_self
theorem stW_succ {J : Nat → Nat → Int} {w k : Nat} : zup (stW J w k) (w + 1) k (J (3 + k) 1) = stW J w (k + 1) := by
  unfold stW
  rw [zup_upr]
  refine upr_congr fun i => ?_
  by_cases h : i = k
  · subst h; rw [if_pos rfl, if_pos (by omega)]
  · rw [if_neg h]
    by_cases h2 : i < k
    · rw [if_pos h2, if_pos (by omega)]
    · rw [if_neg h2, if_neg (by omega)]
set_option maxHeartbeats 4000000 in
set_option maxRecDepth 100000 in
theorem k_X2_startToday (lo d : Nat) (J : Nat → Nat → Int) (G : Nat → Nat → Int64) (F : Nat → Nat → Option Nat) (hF : zFk F) {w : Nat} (hw : w = 37 ∨ w = 39) : zCt lo yX2_startToday cX2_startToday 2 none d 0 0 [.ref (lo + w)] 57 57 (zM J) G F (zD [] (stJ J w) G F) := by
  refine zCt.mk (by decide) (mv_X2_startToday.2.2.2.1) (Nat.le_of_ble_eq_true rfl) ?_
  intro p l e s m args below meth c D cA X
  have hsw : zShape[w]? = some (.inl 2) := by rcases hw with rfl | rfl <;> rfl
  have hsp : zShape[w + 1]? = some (.inr (0, 5)) := by rcases hw with rfl | rfl <;> rfl
  have hwn : w + 1 < 57 := by omega
  have hfh : F w 0 = some 1 := by rcases hw with rfl | rfl <;> exact zF_at hF rfl rfl
  have hfp : F w 1 = some (w + 1) := by rcases hw with rfl | rfl <;> exact zF_at hF rfl rfl
  have loop : ∀ (q k : Nat), k + q = 5 → zG p l e { frames := d, cells := 0, slots := 0, locals := 35 * d } s m args below meth c D cA lo 2 0 0 (MQ below (zQ D cA lo 57 (zD [] (stJ J w) G F)) args s 0 0 (fun q => lo ≤ q)) 57 (zM (stW J w k)) G F [some (.ref (lo + w)), some (.int (zI (k : Int)))] [] 2 := by
    intro q
    induction q with
    | zero =>
      intro k  hk
      refine zG_iload_n X dX2_startToday_2 rfl ?_
      refine zj_iconst X dX2_startToday_3 ?_
      refine zj_icmp_ge X dX2_startToday_4 (tgt := 31) (by decide) (by first | decide | omega) (by first | decide | omega) (fun h_4 => ?_) (fun h_4 => ?_)
      · refine zG_aload_n X dX2_startToday_31 rfl ?_
        refine zG_aload_n X dX2_startToday_32 rfl ?_
        refine zG_getR X dX2_startToday_33 fl_X2_9 (by first | rfl | assumption) (by first | decide | omega) (by decide) rfl (by first | exact zF_at hF rfl rfl | assumption) ?_
        refine zj_getv (v := J 1 13) X dX2_startToday_36 fl_X2_31 (by first | rfl | assumption) (by first | decide | omega) (by decide) rfl (by simp only [stW]; rw [upr_ne (by omega)]) ?_
        refine zj_put X dX2_startToday_39 fl_X2_34 (by first | rfl | assumption) (by first | decide | omega) (by decide) rfl rfl ?_
        refine zG_aload_n X dX2_startToday_42 rfl ?_
        refine zG_aload_n X dX2_startToday_43 rfl ?_
        refine zG_getR X dX2_startToday_44 fl_X2_9 (by first | rfl | assumption) (by first | decide | omega) (by decide) rfl (by first | exact zF_at hF rfl rfl | assumption) ?_
        refine zj_getv (v := J 1 4) X dX2_startToday_47 fl_X2_35 (by first | rfl | assumption) (by first | decide | omega) (by decide) rfl (by simp only [stW, zup]; rw [if_neg (by omega), upr_ne (by omega)]) ?_
        refine zj_put X dX2_startToday_50 fl_X2_38 (by first | rfl | assumption) (by first | decide | omega) (by decide) rfl rfl ?_
        refine zG_aload_n X dX2_startToday_53 rfl ?_
        refine zj_iconst X dX2_startToday_54 ?_
        refine zj_putZ X dX2_startToday_55 fl_X2_39 (by first | rfl | assumption) (by first | decide | omega) (by decide) rfl rfl (by first | exact Or.inl rfl | exact Or.inr rfl | assumption) ?_
        refine zG_vret X dX2_startToday_58 rfl ?_
        obtain rfl : k = 5 := by omega
        exact zD.of rfl rfl rfl rfl
      · exact absurd h_4 (by first | decide | omega)
    | succ q ih =>
      intro k  hk
      have hs3 := zSh_w (i := k) (by omega)
      refine zG_iload_n X dX2_startToday_2 rfl ?_
      refine zj_iconst X dX2_startToday_3 ?_
      refine zj_icmp_ge X dX2_startToday_4 (tgt := 31) (by decide) (by first | decide | omega) (by first | decide | omega) (fun h_4 => ?_) (fun h_4 => ?_)
      · exact absurd h_4 (by first | decide | omega)
      · refine zG_aload_n X dX2_startToday_7 rfl ?_
        refine zG_getR X dX2_startToday_8 fl_X2_15 (by first | rfl | assumption) (by first | decide | omega) (by decide) rfl (by first | exact zF_at hF rfl rfl | assumption) ?_
        refine zG_iload_n X dX2_startToday_11 rfl ?_
        refine zG_aload_n X dX2_startToday_12 rfl ?_
        refine zG_getR X dX2_startToday_13 fl_X2_9 (by first | rfl | assumption) (by first | decide | omega) (by decide) rfl (by first | exact zF_at hF rfl rfl | assumption) ?_
        refine zG_getR X dX2_startToday_16 fl_X2_19 (by first | rfl | assumption) (by first | decide | omega) (by decide) rfl (by first | exact zF_at hF rfl rfl | assumption) ?_
        refine zG_iload_n X dX2_startToday_19 rfl ?_
        refine zj_aaload5 X dX2_startToday_20 (by first | rfl | assumption) (by first | decide | omega) _ rfl (by omega) (zF_w1 hF (by omega)) ?_
        refine zj_getv (v := J (3 + k) 1) X dX2_startToday_21 fl_X2_25 (by first | rfl | assumption) (by first | decide | omega) (by decide) rfl (by simp only [stW]; rw [upr_ne (by omega)]) ?_
        refine zj_iastore X dX2_startToday_24 (by first | rfl | assumption) (by first | decide | omega) _ rfl (by omega) ?_
        refine zj_iinc X dX2_startToday_25 rfl (by decide) rfl ?_
        refine zG_goto X dX2_startToday_28 (tgt := 2) (by decide) ?_
        rw [stW_succ]
        exact ih (k + 1) (by omega)
  refine zj_iconst X dX2_startToday_0 ?_
  refine zG_istore_n X dX2_startToday_1 (by decide) rfl ?_
  have := loop 5 0 (by omega)
  rw [stW_0] at this
  exact this
def arW (J : Nat → Nat → Int) (k : Nat) : Nat → Nat → Int := fun x i => if 3 ≤ x ∧ x < 3 + k ∧ i = 1 then J 38 (x - 3) else J x i
theorem arW_0 {J : Nat → Nat → Int} : arW J 0 = J := by
  funext x i
  simp only [arW]
  rw [if_neg (by omega)]
theorem arW_succ {J : Nat → Nat → Int} {k : Nat} : zup (arW J k) (3 + k) 1 (J 38 k) = arW J (k + 1) := by
  funext x i
  simp only [zup, arW]
  by_cases h : x = 3 + k ∧ i = 1
  · rw [if_pos h, if_pos (by omega), h.1, show 3 + k - 3 = k by omega]
  · rw [if_neg h]
    by_cases h2 : 3 ≤ x ∧ x < 3 + k ∧ i = 1
    · rw [if_pos h2, if_pos (by omega)]
    · rw [if_neg h2, if_neg (by omega)]
set_option maxHeartbeats 4000000 in
set_option maxRecDepth 100000 in
theorem k_X2_arrive (lo d : Nat) (J : Nat → Nat → Int) (G : Nat → Nat → Int64) (F : Nat → Nat → Option Nat) (hF : zFk F) : zCt lo yX2_arrive cX2_arrive 2 none d 0 0 [.ref (lo + 37)] 57 57 (zM J) G F (zD [] (zup (arW J 5) 1 13 (J 37 2)) G F) := by
  refine zCt.mk (by decide) (mv_X2_arrive.2.2.2.1) (Nat.le_of_ble_eq_true rfl) ?_
  intro p l e s m args below meth c D cA X
  have loop : ∀ (q k : Nat), k + q = 5 → zG p l e { frames := d, cells := 0, slots := 0, locals := 35 * d } s m args below meth c D cA lo 2 0 0 (MQ below (zQ D cA lo 57 (zD [] (zup (arW J 5) 1 13 (J 37 2)) G F)) args s 0 0 (fun q => lo ≤ q)) 57 (zM (arW J k)) G F [some (.ref (lo + 37)), some (.int (zI (k : Int)))] [] 2 := by
    intro q
    induction q with
    | zero =>
      intro k  hk
      refine zG_iload_n X dX2_arrive_2 rfl ?_
      refine zj_iconst X dX2_arrive_3 ?_
      refine zj_icmp_ge X dX2_arrive_4 (tgt := 31) (by decide) (by first | decide | omega) (by first | decide | omega) (fun h_4 => ?_) (fun h_4 => ?_)
      · refine zG_aload_n X dX2_arrive_31 rfl ?_
        refine zG_getR X dX2_arrive_32 fl_X2_9 (by first | rfl | assumption) (by first | decide | omega) (by decide) rfl (by first | exact zF_at hF rfl rfl | assumption) ?_
        refine zG_aload_n X dX2_arrive_35 rfl ?_
        refine zj_getv (v := J 37 2) X dX2_arrive_36 fl_X2_34 (by first | rfl | assumption) (by first | decide | omega) (by decide) rfl (by simp only [arW]; rw [if_neg (by omega)]) ?_
        refine zj_put X dX2_arrive_39 fl_X2_31 (by first | rfl | assumption) (by first | decide | omega) (by decide) rfl rfl ?_
        refine zG_vret X dX2_arrive_42 rfl ?_
        obtain rfl : k = 5 := by omega
        exact zD.of rfl rfl rfl rfl
      · exact absurd h_4 (by first | decide | omega)
    | succ q ih =>
      intro k  hk
      have hs3 := zSh_w (i := k) (by omega)
      refine zG_iload_n X dX2_arrive_2 rfl ?_
      refine zj_iconst X dX2_arrive_3 ?_
      refine zj_icmp_ge X dX2_arrive_4 (tgt := 31) (by decide) (by first | decide | omega) (by first | decide | omega) (fun h_4 => ?_) (fun h_4 => ?_)
      · exact absurd h_4 (by first | decide | omega)
      · refine zG_aload_n X dX2_arrive_7 rfl ?_
        refine zG_getR X dX2_arrive_8 fl_X2_9 (by first | rfl | assumption) (by first | decide | omega) (by decide) rfl (by first | exact zF_at hF rfl rfl | assumption) ?_
        refine zG_getR X dX2_arrive_11 fl_X2_19 (by first | rfl | assumption) (by first | decide | omega) (by decide) rfl (by first | exact zF_at hF rfl rfl | assumption) ?_
        refine zG_iload_n X dX2_arrive_14 rfl ?_
        refine zj_aaload5 X dX2_arrive_15 (by first | rfl | assumption) (by first | decide | omega) _ rfl (by omega) (by first | exact zF_at hF rfl rfl | exact zF_w1 hF (by omega) | assumption) ?_
        refine zG_aload_n X dX2_arrive_16 rfl ?_
        refine zG_getR X dX2_arrive_17 fl_X2_15 (by first | rfl | assumption) (by first | decide | omega) (by decide) rfl (by first | exact zF_at hF rfl rfl | assumption) ?_
        refine zG_iload_n X dX2_arrive_20 rfl ?_
        refine zj_ialoadv (v := J 38 k) X dX2_arrive_21 (by first | rfl | assumption) (by first | decide | omega) _ rfl (by omega) (by simp only [arW]; rw [if_neg (by omega)]) ?_
        refine zj_put X dX2_arrive_22 fl_X2_25 (by first | rfl | assumption) (by first | decide | omega) (by decide) rfl rfl ?_
        refine zj_iinc X dX2_arrive_25 rfl (by decide) rfl ?_
        refine zG_goto X dX2_arrive_28 (tgt := 2) (by decide) ?_
        rw [arW_succ]
        exact ih (k + 1) (by omega)
  refine zj_iconst X dX2_arrive_0 ?_
  refine zG_istore_n X dX2_arrive_1 (by decide) rfl ?_
  have := loop 5 0 (by omega)
  rw [arW_0] at this
  exact this
set_option maxHeartbeats 4000000 in
set_option maxRecDepth 100000 in
theorem k_X2_isSkipMet (lo d : Nat) (J : Nat → Nat → Int) (G : Nat → Nat → Int64) (F : Nat → Nat → Option Nat) (hF : zFk F) {w : Nat} (hw : w = 37 ∨ w = 39) {k : Nat} {e3 e4 : Int} {q : Nat → Int} (hk : k < 5) (h3 : J (3 + k) 3 = e3) (h4 : J (3 + k) 4 = e4) (hq : ∀ i, J (w + 1) i = q i) (r3 : -1 ≤ e3 ∧ e3 < k) (r4 : zr e4) (rq : ∀ i, i < 5 → zr (q i)) : zCt lo yX2_isSkipMet cX2_isSkipMet 4 (some .boolean) d 0 0 [.ref (lo + w), .ref (lo + (3 + k)), .int (zI (k : Int))] 57 57 (zM J) G F (zD [.int (zI (if 0 ≤ e3 ∧ q e3.toNat = e4 then 1 else 0))] J G F) := by
  refine zCt.mk (by decide) (mv_X2_isSkipMet.2.2.2.1) (Nat.le_of_ble_eq_true rfl) ?_
  intro p l e s m args below meth c D cA X
  have hsw : zShape[w]? = some (.inl 2) := by rcases hw with rfl | rfl <;> rfl
  have hsp : zShape[w + 1]? = some (.inr (0, 5)) := by rcases hw with rfl | rfl <;> rfl
  have hwn : w + 1 < 57 := by omega
  have hfh : F w 0 = some 1 := by rcases hw with rfl | rfl <;> exact zF_at hF rfl rfl
  have hfp : F w 1 = some (w + 1) := by rcases hw with rfl | rfl <;> exact zF_at hF rfl rfl
  have hs3 := zSh_w hk
  refine zG_aload_n X dX2_isSkipMet_0 rfl ?_
  refine zj_getv (v := e3) X dX2_isSkipMet_1 fl_X2_85 (by first | rfl | assumption) (by first | decide | omega) (by decide) rfl (h3) ?_
  refine zG_istore_n X dX2_isSkipMet_4 (by decide) rfl ?_
  refine zG_iload_n X dX2_isSkipMet_5 rfl ?_
  refine zj_if_lt X dX2_isSkipMet_6 (tgt := 31) (by decide) (by first | decide | omega) (fun h_6 => ?_) (fun h_6 => ?_)
  · refine zj_iconst X dX2_isSkipMet_31 ?_
    refine zG_zret X dX2_isSkipMet_32 rfl (by first | rfl | assumption) ?_
    exact zD.of (by (repeat' split) <;> first | rfl | omega) rfl rfl rfl
  · refine zG_iload_n X dX2_isSkipMet_9 rfl ?_
    refine zG_iload_n X dX2_isSkipMet_10 rfl ?_
    refine zj_icmp_ge X dX2_isSkipMet_11 (tgt := 31) (by decide) (by first | decide | omega) (by first | decide | omega) (fun h_11 => ?_) (fun h_11 => ?_)
    · refine zj_iconst X dX2_isSkipMet_31 ?_
      refine zG_zret X dX2_isSkipMet_32 rfl (by first | rfl | assumption) ?_
      exact zD.of (by (repeat' split) <;> first | rfl | omega) rfl rfl rfl
    · have hr := rq e3.toNat (by omega)
      refine zG_aload_n X dX2_isSkipMet_14 rfl ?_
      refine zG_getR X dX2_isSkipMet_15 fl_X2_15 (by first | rfl | assumption) (by first | decide | omega) (by decide) rfl (by first | exact zF_at hF rfl rfl | assumption) ?_
      refine zG_iload_n X dX2_isSkipMet_18 rfl ?_
      refine zj_ialoadv (v := q e3.toNat) X dX2_isSkipMet_19 (by first | rfl | assumption) (by first | decide | omega) (e3.toNat) (by omega) (by omega) (hq _) ?_
      refine zG_aload_n X dX2_isSkipMet_20 rfl ?_
      refine zj_getv (v := e4) X dX2_isSkipMet_21 fl_X2_88 (by first | rfl | assumption) (by first | decide | omega) (by decide) rfl (h4) ?_
      refine zj_icmp_ne X dX2_isSkipMet_24 (tgt := 31) (by decide) (by first | decide | omega) (by first | decide | omega) (fun h_24 => ?_) (fun h_24 => ?_)
      · refine zj_iconst X dX2_isSkipMet_31 ?_
        refine zG_zret X dX2_isSkipMet_32 rfl (by first | rfl | assumption) ?_
        exact zD.of (by (repeat' split) <;> first | rfl | omega) rfl rfl rfl
      · refine zj_iconst X dX2_isSkipMet_27 ?_
        refine zG_goto X dX2_isSkipMet_28 (tgt := 32) (by decide) ?_
        refine zG_zret X dX2_isSkipMet_32 rfl (by first | rfl | assumption) ?_
        exact zD.of (by (repeat' split) <;> first | rfl | omega) rfl rfl rfl
set_option maxHeartbeats 4000000 in
set_option maxRecDepth 100000 in
theorem k_X2_moveWheels (lo d : Nat) (hd : 2 ≤ d) (J : Nat → Nat → Int) (G : Nat → Nat → Int64) (F : Nat → Nat → Option Nat) (hF : zFk F) {w : Nat} (hw : w = 37 ∨ w = 39) (hc : cOk J 1) (hp : pOk (wdC J 1) (J (w + 1))) (h4 : J w 4 = 0 ∨ J w 4 = 1) : zCt lo yX2_moveWheels cX2_moveWheels 4 none d 0 0 [.ref (lo + w)] 57 57 (zM J) G F (zD [] (upr J (w + 1) (mvp (wdC J 1) (decide (J w 4 = 1)) (J 1 1).toNat (J (w + 1)))) G F) := by
  refine zCt.mk (by decide) (mv_X2_moveWheels.2.2.2.1) (Nat.le_of_ble_eq_true rfl) ?_
  intro p l e s m args below meth c D cA X
  have hsw : zShape[w]? = some (.inl 2) := by rcases hw with rfl | rfl <;> rfl
  have hsp : zShape[w + 1]? = some (.inr (0, 5)) := by rcases hw with rfl | rfl <;> rfl
  have hwn : w + 1 < 57 := by omega
  have hfh : F w 0 = some 1 := by rcases hw with rfl | rfl <;> exact zF_at hF rfl rfl
  have hfp : F w 1 = some (w + 1) := by rcases hw with rfl | rfl <;> exact zF_at hF rfl rfl
  have hcf := cOk_f hc
  have loop : ∀ (q k : Nat), k + q = (J 1 1).toNat → zG p l e { frames := d, cells := 0, slots := 0, locals := 35 * d } s m args below meth c D cA lo 4 0 0 (MQ below (zQ D cA lo 57 (zD [] (upr J (w + 1) (mvp (wdC J 1) (decide (J w 4 = 1)) (J 1 1).toNat (J (w + 1)))) G F)) args s 0 0 (fun q => lo ≤ q)) 57 (zM (upr J (w + 1) (mvp (wdC J 1) (decide (J w 4 = 1)) k (J (w + 1))))) G F [some (.ref (lo + w)), some (.int (zI (k : Int))), none, none] [] 2 := by
    intro q
    induction q with
    | zero =>
      intro k  hk
      refine zG_iload_n X dX2_moveWheels_2 rfl ?_
      refine zG_aload_n X dX2_moveWheels_3 rfl ?_
      refine zG_getR X dX2_moveWheels_4 fl_X2_9 (by first | rfl | assumption) (by first | decide | omega) (by decide) rfl (by first | exact zF_at hF rfl rfl | assumption) ?_
      refine zj_getv (v := J 1 1) X dX2_moveWheels_7 fl_X2_69 (by first | rfl | assumption) (by first | decide | omega) (by decide) rfl (upr_ne (by omega)) ?_
      refine zj_icmp_ge X dX2_moveWheels_10 (tgt := 77) (by decide) (by first | decide | omega) (by first | decide | omega) (fun h_10 => ?_) (fun h_10 => ?_)
      · refine zG_vret X dX2_moveWheels_77 rfl ?_
        exact zD.of rfl (by rw [show k = (J 1 1).toNat by omega]) rfl rfl
      · exact absurd h_10 (by first | decide | omega)
    | succ q ih =>
      intro k  hk
      have hs3 := zSh_w (i := k) (by omega)
      have hwk := cOk_w1 hc (k := k) (by omega)
      have hpk := mvp_ok (sk := decide (J w 4 = 1)) hc.2 hp k (by omega)
      have hpkk := hpk k (by omega)
      have hpkk2 : mvp (wdC J 1) (decide (J w 4 = 1)) k (J (w + 1)) k < J (3 + k) 0 := hpkk.2
      have hrq : ∀ i, i < 5 → zr (mvp (wdC J 1) (decide (J w 4 = 1)) k (J (w + 1)) i) := fun i hi => by
        have h1 := hpk i hi
        have h2 := cOk_w1 hc (k := i) hi
        have h3 : mvp (wdC J 1) (decide (J w 4 = 1)) k (J (w + 1)) i < J (3 + i) 0 := h1.2
        omega
      have hs0 : J w 4 ≠ 1 → mvS (wdC J 1) (decide (J w 4 = 1)) (mvp (wdC J 1) (decide (J w 4 = 1)) k (J (w + 1))) k = 1 := fun q => by
        unfold mvS
        rw [if_neg (fun z => q (of_decide_eq_true z.1))]
      have hs1 : J w 4 = 1 → (0 ≤ J (3 + k) 3 ∧ mvp (wdC J 1) (decide (J w 4 = 1)) k (J (w + 1)) (J (3 + k) 3).toNat = J (3 + k) 4) → mvS (wdC J 1) (decide (J w 4 = 1)) (mvp (wdC J 1) (decide (J w 4 = 1)) k (J (w + 1))) k = 1 + J (3 + k) 5 := fun q z => by
        unfold mvS
        exact if_pos ⟨decide_eq_true q, z⟩
      have hs2 : ¬ (0 ≤ J (3 + k) 3 ∧ mvp (wdC J 1) (decide (J w 4 = 1)) k (J (w + 1)) (J (3 + k) 3).toNat = J (3 + k) 4) → mvS (wdC J 1) (decide (J w 4 = 1)) (mvp (wdC J 1) (decide (J w 4 = 1)) k (J (w + 1))) k = 1 := fun q => by
        unfold mvS
        exact if_neg (fun z => q z.2)
      refine zG_iload_n X dX2_moveWheels_2 rfl ?_
      refine zG_aload_n X dX2_moveWheels_3 rfl ?_
      refine zG_getR X dX2_moveWheels_4 fl_X2_9 (by first | rfl | assumption) (by first | decide | omega) (by decide) rfl (by first | exact zF_at hF rfl rfl | assumption) ?_
      refine zj_getv (v := J 1 1) X dX2_moveWheels_7 fl_X2_69 (by first | rfl | assumption) (by first | decide | omega) (by decide) rfl (upr_ne (by omega)) ?_
      refine zj_icmp_ge X dX2_moveWheels_10 (tgt := 77) (by decide) (by first | decide | omega) (by first | decide | omega) (fun h_10 => ?_) (fun h_10 => ?_)
      · exact absurd h_10 (by first | decide | omega)
      · refine zG_aload_n X dX2_moveWheels_13 rfl ?_
        refine zG_getR X dX2_moveWheels_14 fl_X2_9 (by first | rfl | assumption) (by first | decide | omega) (by decide) rfl (by first | exact zF_at hF rfl rfl | assumption) ?_
        refine zG_getR X dX2_moveWheels_17 fl_X2_19 (by first | rfl | assumption) (by first | decide | omega) (by decide) rfl (by first | exact zF_at hF rfl rfl | assumption) ?_
        refine zG_iload_n X dX2_moveWheels_20 rfl ?_
        refine zj_aaload5 X dX2_moveWheels_21 (by first | rfl | assumption) (by first | decide | omega) _ rfl (by omega) (zF_w1 hF (by omega)) ?_
        refine zG_astore_n X dX2_moveWheels_22 (by decide) rfl ?_
        refine zG_aload_n X dX2_moveWheels_23 rfl ?_
        refine zj_getv (v := J w 4) X dX2_moveWheels_24 fl_X2_39 (by first | rfl | assumption) (by first | decide | omega) (by decide) rfl (upr_ne (by omega)) ?_
        refine zj_if_eq X dX2_moveWheels_27 (tgt := 48) (by decide) (by first | decide | omega) (fun h_27 => ?_) (fun h_27 => ?_)
        · refine zj_iconst X dX2_moveWheels_48 ?_
          refine zG_istore_n X dX2_moveWheels_49 (by decide) rfl ?_
          refine zG_aload_n X dX2_moveWheels_50 rfl ?_
          refine zG_getR X dX2_moveWheels_51 fl_X2_15 (by first | rfl | assumption) (by first | decide | omega) (by decide) rfl (by first | exact zF_at hF rfl rfl | assumption) ?_
          refine zG_iload_n X dX2_moveWheels_54 rfl ?_
          refine zG_aload_n X dX2_moveWheels_55 rfl ?_
          refine zG_getR X dX2_moveWheels_56 fl_X2_15 (by first | rfl | assumption) (by first | decide | omega) (by decide) rfl (by first | exact zF_at hF rfl rfl | assumption) ?_
          refine zG_iload_n X dX2_moveWheels_59 rfl ?_
          refine zj_ialoadv (v := mvp (wdC J 1) (decide (J w 4 = 1)) k (J (w + 1)) k) X dX2_moveWheels_60 (by first | rfl | assumption) (by first | decide | omega) _ rfl (by omega) (upr_eq) ?_
          refine zG_iload_n X dX2_moveWheels_61 rfl ?_
          refine zj_iadd X dX2_moveWheels_62 ?_
          refine zG_aload_n X dX2_moveWheels_63 rfl ?_
          refine zj_getv (v := J (3 + k) 0) X dX2_moveWheels_64 fl_X2_79 (by first | rfl | assumption) (by first | decide | omega) (by decide) rfl (upr_ne (by omega)) ?_
          refine zj_callS1 (as2 := [_, _]) X (k_modulo lo (d - 1) _ G F (by omega) (by omega) (by omega)) dX2_moveWheels_67 ms_X4_modulo ml_X2_82 rfl rfl (by show d - 1 + 1 ≤ d; omega) (by show 19 + 3 + 35 * (d - 1) ≤ 35 * (d); omega) (Nat.le_of_ble_eq_true rfl) (Nat.le_of_ble_eq_true rfl) (Nat.le_of_ble_eq_true rfl) ?_
          refine zj_iastore X dX2_moveWheels_70 (by first | rfl | assumption) (by first | decide | omega) _ rfl (by omega) ?_
          refine zj_iinc X dX2_moveWheels_71 rfl (by decide) rfl ?_
          refine zG_goto X dX2_moveWheels_74 (tgt := 2) (by decide) ?_
          rw [mv_step (by
            first
              | rw [hs1 (by omega) hmp]
              | rw [hs2 hmn]
              | rw [hs0 (by omega)]
            rfl)]
          exact zG_sub (zle_some (zle_some (zle_none (zle_none zle_nil)))) (ih (k + 1) (by omega))
        · refine zG_aload_n X dX2_moveWheels_30 rfl ?_
          refine zG_aload_n X dX2_moveWheels_31 rfl ?_
          refine zG_iload_n X dX2_moveWheels_32 rfl ?_
          refine zj_callV1 (as2 := [_, _]) X (k_X2_isSkipMet lo (d - 1) _ G F hF hw (q := mvp (wdC J 1) (decide (J w 4 = 1)) k (J (w + 1))) (by omega) (upr_ne (by omega)) (upr_ne (by omega)) (fun i => upr_eq) (by omega) (by omega) hrq) dX2_moveWheels_33 mv_X2_isSkipMet ml_X2_72 (by first | rfl | assumption) rfl (by first | decide | omega) rfl rfl (by show d - 1 + 1 ≤ d; omega) (by show 19 + 4 + 35 * (d - 1) ≤ 35 * (d); omega) (Nat.le_of_ble_eq_true rfl) (Nat.le_of_ble_eq_true rfl) (Nat.le_of_ble_eq_true rfl) ?_
          by_cases hm : 0 ≤ J (3 + k) 3 ∧ mvp (wdC J 1) (decide (J w 4 = 1)) k (J (w + 1)) (J (3 + k) 3).toNat = J (3 + k) 4
          · have hmp := hm
            rw [if_pos hm]
            refine zj_if_eq X dX2_moveWheels_36 (tgt := 48) (by decide) (by first | decide | omega) (fun h_36 => ?_) (fun h_36 => ?_)
            · exact absurd h_36 (by first | decide | omega)
            · refine zj_iconst X dX2_moveWheels_39 ?_
              refine zG_aload_n X dX2_moveWheels_40 rfl ?_
              refine zj_getv (v := J (3 + k) 5) X dX2_moveWheels_41 fl_X2_76 (by first | rfl | assumption) (by first | decide | omega) (by decide) rfl (upr_ne (by omega)) ?_
              refine zj_iadd X dX2_moveWheels_44 ?_
              refine zG_goto X dX2_moveWheels_45 (tgt := 49) (by decide) ?_
              refine zG_istore_n X dX2_moveWheels_49 (by decide) rfl ?_
              refine zG_aload_n X dX2_moveWheels_50 rfl ?_
              refine zG_getR X dX2_moveWheels_51 fl_X2_15 (by first | rfl | assumption) (by first | decide | omega) (by decide) rfl (by first | exact zF_at hF rfl rfl | assumption) ?_
              refine zG_iload_n X dX2_moveWheels_54 rfl ?_
              refine zG_aload_n X dX2_moveWheels_55 rfl ?_
              refine zG_getR X dX2_moveWheels_56 fl_X2_15 (by first | rfl | assumption) (by first | decide | omega) (by decide) rfl (by first | exact zF_at hF rfl rfl | assumption) ?_
              refine zG_iload_n X dX2_moveWheels_59 rfl ?_
              refine zj_ialoadv (v := mvp (wdC J 1) (decide (J w 4 = 1)) k (J (w + 1)) k) X dX2_moveWheels_60 (by first | rfl | assumption) (by first | decide | omega) _ rfl (by omega) (upr_eq) ?_
              refine zG_iload_n X dX2_moveWheels_61 rfl ?_
              refine zj_iadd X dX2_moveWheels_62 ?_
              refine zG_aload_n X dX2_moveWheels_63 rfl ?_
              refine zj_getv (v := J (3 + k) 0) X dX2_moveWheels_64 fl_X2_79 (by first | rfl | assumption) (by first | decide | omega) (by decide) rfl (upr_ne (by omega)) ?_
              refine zj_callS1 (as2 := [_, _]) X (k_modulo lo (d - 1) _ G F (by omega) (by omega) (by omega)) dX2_moveWheels_67 ms_X4_modulo ml_X2_82 rfl rfl (by show d - 1 + 1 ≤ d; omega) (by show 19 + 3 + 35 * (d - 1) ≤ 35 * (d); omega) (Nat.le_of_ble_eq_true rfl) (Nat.le_of_ble_eq_true rfl) (Nat.le_of_ble_eq_true rfl) ?_
              refine zj_iastore X dX2_moveWheels_70 (by first | rfl | assumption) (by first | decide | omega) _ rfl (by omega) ?_
              refine zj_iinc X dX2_moveWheels_71 rfl (by decide) rfl ?_
              refine zG_goto X dX2_moveWheels_74 (tgt := 2) (by decide) ?_
              rw [mv_step (by
                first
                  | rw [hs1 (by omega) hmp]
                  | rw [hs2 hmn]
                  | rw [hs0 (by omega)]
                rfl)]
              exact zG_sub (zle_some (zle_some (zle_none (zle_none zle_nil)))) (ih (k + 1) (by omega))
          · have hmn := hm
            rw [if_neg hm]
            refine zj_if_eq X dX2_moveWheels_36 (tgt := 48) (by decide) (by first | decide | omega) (fun h_36 => ?_) (fun h_36 => ?_)
            · refine zj_iconst X dX2_moveWheels_48 ?_
              refine zG_istore_n X dX2_moveWheels_49 (by decide) rfl ?_
              refine zG_aload_n X dX2_moveWheels_50 rfl ?_
              refine zG_getR X dX2_moveWheels_51 fl_X2_15 (by first | rfl | assumption) (by first | decide | omega) (by decide) rfl (by first | exact zF_at hF rfl rfl | assumption) ?_
              refine zG_iload_n X dX2_moveWheels_54 rfl ?_
              refine zG_aload_n X dX2_moveWheels_55 rfl ?_
              refine zG_getR X dX2_moveWheels_56 fl_X2_15 (by first | rfl | assumption) (by first | decide | omega) (by decide) rfl (by first | exact zF_at hF rfl rfl | assumption) ?_
              refine zG_iload_n X dX2_moveWheels_59 rfl ?_
              refine zj_ialoadv (v := mvp (wdC J 1) (decide (J w 4 = 1)) k (J (w + 1)) k) X dX2_moveWheels_60 (by first | rfl | assumption) (by first | decide | omega) _ rfl (by omega) (upr_eq) ?_
              refine zG_iload_n X dX2_moveWheels_61 rfl ?_
              refine zj_iadd X dX2_moveWheels_62 ?_
              refine zG_aload_n X dX2_moveWheels_63 rfl ?_
              refine zj_getv (v := J (3 + k) 0) X dX2_moveWheels_64 fl_X2_79 (by first | rfl | assumption) (by first | decide | omega) (by decide) rfl (upr_ne (by omega)) ?_
              refine zj_callS1 (as2 := [_, _]) X (k_modulo lo (d - 1) _ G F (by omega) (by omega) (by omega)) dX2_moveWheels_67 ms_X4_modulo ml_X2_82 rfl rfl (by show d - 1 + 1 ≤ d; omega) (by show 19 + 3 + 35 * (d - 1) ≤ 35 * (d); omega) (Nat.le_of_ble_eq_true rfl) (Nat.le_of_ble_eq_true rfl) (Nat.le_of_ble_eq_true rfl) ?_
              refine zj_iastore X dX2_moveWheels_70 (by first | rfl | assumption) (by first | decide | omega) _ rfl (by omega) ?_
              refine zj_iinc X dX2_moveWheels_71 rfl (by decide) rfl ?_
              refine zG_goto X dX2_moveWheels_74 (tgt := 2) (by decide) ?_
              rw [mv_step (by
                first
                  | rw [hs1 (by omega) hmp]
                  | rw [hs2 hmn]
                  | rw [hs0 (by omega)]
                rfl)]
              exact zG_sub (zle_some (zle_some (zle_none (zle_none zle_nil)))) (ih (k + 1) (by omega))
            · exact absurd h_36 (by first | decide | omega)
  refine zj_iconst X dX2_moveWheels_0 ?_
  refine zG_istore_n X dX2_moveWheels_1 (by decide) rfl ?_
  have := loop (J 1 1).toNat 0 (by omega)
  rw [show upr J (w + 1) (mvp (wdC J 1) (decide (J w 4 = 1)) 0 (J (w + 1))) = J from upr_self] at this
  exact this
