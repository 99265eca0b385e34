/-! the Model saves -/
def shR (r : Nat → Int) (k : Nat) : Nat → Int := fun i => if i < k then r (i + 108) else r i
def svT (s : Int) : Nat := if s = 4 then 3 else s.toNat
def ptR (r q : Nat → Int) (t k : Nat) : Nat → Int := fun i => if 108 * t ≤ i ∧ i < 108 * t + k then q (i - 108 * t) else r i
def msR (J : Nat → Nat → Int) : Nat → Int := if J 50 3 = 4 then shR (J 52) 324 else J 52
def msJ (J : Nat → Nat → Int) : Nat → Nat → Int := zup (upr J 52 (ptR (msR J) (J 51) (svT (J 50 3)) 108)) 50 3 ((svT (J 50 3) : Nat) + 1)
theorem zup_tw {J : Nat → Nat → Int} {a i : Nat} {u v : Int} : zup (zup J a i u) a i v = zup J a i v := by
  funext x j
  unfold zup
  by_cases h : x = a ∧ j = i
  · rw [if_pos h, if_pos h]
  · rw [if_neg h, if_neg h, if_neg h]
theorem pt_s {J : Nat → Nat → Int} {r q : Nat → Int} {t k : Nat} {u : Int} : zup (zup (upr J 52 (ptR r q t k)) 50 3 u) 52 (108 * t + k) (q k) = zup (upr J 52 (ptR r q t (k + 1))) 50 3 u := by
  funext x i
  by_cases h : x = 52
  · subst h
    by_cases h2 : i = 108 * t + k
    · subst h2
      simp [zup, upr, ptR]
    · have e : ptR r q t (k + 1) i = ptR r q t k i := by
        unfold ptR
        by_cases h3 : 108 * t ≤ i ∧ i < 108 * t + k
        · rw [if_pos h3, if_pos (by omega)]
        · rw [if_neg h3, if_neg (by omega)]
      simp [zup, upr, h2, e]
  · simp [zup, upr, h]
theorem sh_s {J : Nat → Nat → Int} {r : Nat → Int} {k : Nat} : zup (upr J 52 (shR r k)) 52 k (r (k + 108)) = upr J 52 (shR r (k + 1)) := by
  rw [zup_upr]
  refine upr_congr (fun i => ?_)
  unfold shR
  by_cases h : i = k
  · subst h
    simp
  · by_cases h2 : i < k
    · simp [h, h2, show i < k + 1 by omega]
    · simp [h, h2, show ¬ i < k + 1 by omega]
theorem zup_sf {J : Nat → Nat → Int} {a i : Nat} : zup J a i (J a i) = J := by
  funext x j
  unfold zup
  by_cases h : x = a ∧ j = i
  · rw [if_pos h, h.1, h.2]
  · rw [if_neg h]
set_option maxHeartbeats 4000000 in
set_option maxRecDepth 100000 in
theorem k_X5_saves (lo d : Nat) (J : Nat → Nat → Int) (G : Nat → Nat → Int64) (F : Nat → Nat → Option Nat) (hF : zFk F) (h1 : 0 ≤ J 50 3) (h2 : J 50 3 ≤ 4) : zCt lo yX5_saves cX5_saves 2 none d 0 0 [.ref (lo + 50)] 57 57 (zM J) G F (zD [] (msJ J) G F) := by
  refine zCt.mk (by decide) (mv_X5_saves.2.2.2.1) (Nat.le_of_ble_eq_true rfl) ?_
  intro p l e s m args below meth c D cA X
  have ht3 : svT (J 50 3) ≤ 3 := by unfold svT; split <;> omega
  have loop2 : ∀ (q k : Nat), k + q = 108 → zG p l e { frames := d, cells := 0, slots := 0, locals := 35 * d } s m args below meth c D cA lo 2 0 0 (MQ below (zQ D cA lo 57 (zD [] (msJ J) G F)) args s 0 0 (fun q => lo ≤ q)) 57 (zM (zup (upr J 52 (ptR (msR J) (J 51) (svT (J 50 3)) k)) 50 3 ((svT (J 50 3) : Nat) : Int))) G F [some (.ref (lo + 50)), some (.int (zI (k : Int)))] [] 50 := by
    intro q
    induction q with
    | zero =>
      intro k  hk
      refine zG_iload_n X dX5_saves_50 rfl ?_
      refine zj_bipush X dX5_saves_51 (by decide) ?_
      refine zj_icmp_ge X dX5_saves_53 (tgt := 82) (by decide) (by first | decide | omega) (by first | decide | omega) (fun h_53 => ?_) (fun h_53 => ?_)
      · refine zG_aload_n X dX5_saves_82 rfl ?_
        refine zG_dup X dX5_saves_83 rfl ?_
        refine zj_getv (v := ((svT (J 50 3) : Nat) : Int)) X dX5_saves_84 fl_X5_30 (by first | rfl | assumption) (by first | decide | omega) (by decide) rfl (by simp [zup]) ?_
        refine zj_iconst X dX5_saves_87 ?_
        refine zj_iadd X dX5_saves_88 ?_
        refine zj_put X dX5_saves_89 fl_X5_30 (by first | rfl | assumption) (by first | decide | omega) (by decide) rfl rfl ?_
        refine zG_vret X dX5_saves_92 rfl ?_
        obtain rfl : k = 108 := by omega
        exact zD.of rfl (by unfold msJ; exact zup_tw) rfl rfl
      · exact absurd h_53 (by first | decide | omega)
    | succ q ih =>
      intro k  hk
      refine zG_iload_n X dX5_saves_50 rfl ?_
      refine zj_bipush X dX5_saves_51 (by decide) ?_
      refine zj_icmp_ge X dX5_saves_53 (tgt := 82) (by decide) (by first | decide | omega) (by first | decide | omega) (fun h_53 => ?_) (fun h_53 => ?_)
      · exact absurd h_53 (by first | decide | omega)
      · refine zG_aload_n X dX5_saves_56 rfl ?_
        refine zG_getR X dX5_saves_57 fl_X5_13 (by first | rfl | assumption) (by first | decide | omega) (by decide) rfl (by first | exact zF_at hF rfl rfl | assumption) ?_
        refine zj_bipush X dX5_saves_60 (by decide) ?_
        refine zG_aload_n X dX5_saves_62 rfl ?_
        refine zj_getv (v := ((svT (J 50 3) : Nat) : Int)) X dX5_saves_63 fl_X5_30 (by first | rfl | assumption) (by first | decide | omega) (by decide) rfl (by simp [zup]) ?_
        refine zj_imul X dX5_saves_66 ?_
        refine zG_iload_n X dX5_saves_67 rfl ?_
        refine zj_iadd X dX5_saves_68 ?_
        refine zG_aload_n X dX5_saves_69 rfl ?_
        refine zG_getR X dX5_saves_70 fl_X5_7 (by first | rfl | assumption) (by first | decide | omega) (by decide) rfl (by first | exact zF_at hF rfl rfl | assumption) ?_
        refine zG_iload_n X dX5_saves_73 rfl ?_
        refine zj_ialoadv (v := J 51 k) X dX5_saves_74 (by first | rfl | assumption) (by first | decide | omega) (k) (by omega) (by omega) (by exact (zup_ot (by decide)).trans (upr_ne (by decide))) ?_
        refine zj_iastore X dX5_saves_75 (by first | rfl | assumption) (by first | decide | omega) (108 * svT (J 50 3) + k) (by omega) (by omega) ?_
        refine zj_iinc X dX5_saves_76 rfl (by decide) rfl ?_
        refine zG_goto X dX5_saves_79 (tgt := 50) (by decide) ?_
        have hi := ih (k + 1) (by omega)
        rw [pt_s]
        exact hi
  have loop1 : J 50 3 = 4 → ∀ (q k : Nat), k + q = 324 → zG p l e { frames := d, cells := 0, slots := 0, locals := 35 * d } s m args below meth c D cA lo 2 0 0 (MQ below (zQ D cA lo 57 (zD [] (msJ J) G F)) args s 0 0 (fun q => lo ≤ q)) 57 (zM (upr J 52 (shR (J 52) k))) G F [some (.ref (lo + 50)), some (.int (zI (k : Int)))] [] 10 := by
    intro hs q
    induction q with
    | zero =>
      intro k hk
      refine zG_iload_n X dX5_saves_10 rfl ?_
      refine zj_sipush X dX5_saves_11 (by decide) ?_
      refine zj_icmp_ge X dX5_saves_14 (tgt := 38) (by decide) (by first | decide | omega) (by first | decide | omega) (fun h_14 => ?_) (fun h_14 => ?_)
      · refine zG_aload_n X dX5_saves_38 rfl ?_
        refine zG_dup X dX5_saves_39 rfl ?_
        refine zj_getv (v := J 50 3) X dX5_saves_40 fl_X5_30 (by first | rfl | assumption) (by first | decide | omega) (by decide) rfl (by exact upr_ne (by decide)) ?_
        refine zj_iconst X dX5_saves_43 ?_
        refine zj_isub X dX5_saves_44 ?_
        refine zj_put X dX5_saves_45 fl_X5_30 (by first | rfl | assumption) (by first | decide | omega) (by decide) rfl rfl ?_
        refine zj_iconst X dX5_saves_48 ?_
        refine zG_istore_n X dX5_saves_49 (by decide) rfl ?_
        obtain rfl : k = 324 := by omega
        have h0 := loop2 108 0 (by omega)
        rw [show ptR (msR J) (J 51) (svT (J 50 3)) 0 = msR J from funext (fun i => if_neg (by omega))] at h0
        rw [show msR J = shR (J 52) 324 from if_pos hs, show ((svT (J 50 3) : Nat) : Int) = J 50 3 - 1 by unfold svT; rw [if_pos hs]; omega] at h0
        exact h0
      · exact absurd h_14 (by first | decide | omega)
    | succ q ih =>
      intro k hk
      refine zG_iload_n X dX5_saves_10 rfl ?_
      refine zj_sipush X dX5_saves_11 (by decide) ?_
      refine zj_icmp_ge X dX5_saves_14 (tgt := 38) (by decide) (by first | decide | omega) (by first | decide | omega) (fun h_14 => ?_) (fun h_14 => ?_)
      · exact absurd h_14 (by first | decide | omega)
      · refine zG_aload_n X dX5_saves_17 rfl ?_
        refine zG_getR X dX5_saves_18 fl_X5_13 (by first | rfl | assumption) (by first | decide | omega) (by decide) rfl (by first | exact zF_at hF rfl rfl | assumption) ?_
        refine zG_iload_n X dX5_saves_21 rfl ?_
        refine zG_aload_n X dX5_saves_22 rfl ?_
        refine zG_getR X dX5_saves_23 fl_X5_13 (by first | rfl | assumption) (by first | decide | omega) (by decide) rfl (by first | exact zF_at hF rfl rfl | assumption) ?_
        refine zG_iload_n X dX5_saves_26 rfl ?_
        refine zj_bipush X dX5_saves_27 (by decide) ?_
        refine zj_iadd X dX5_saves_29 ?_
        refine zj_ialoadv (v := J 52 (k + 108)) X dX5_saves_30 (by first | rfl | assumption) (by first | decide | omega) (k + 108) (by omega) (by omega) (by show (if 52 = 52 then shR (J 52) k (k + 108) else _) = _; rw [if_pos rfl]; exact if_neg (by omega)) ?_
        refine zj_iastore X dX5_saves_31 (by first | rfl | assumption) (by first | decide | omega) (k) (by omega) (by omega) ?_
        refine zj_iinc X dX5_saves_32 rfl (by decide) rfl ?_
        refine zG_goto X dX5_saves_35 (tgt := 10) (by decide) ?_
        have hi := ih (k + 1) (by omega)
        rw [sh_s]
        exact hi
  by_cases hs : J 50 3 = 4
  · refine zG_aload_n X dX5_saves_0 rfl ?_
    refine zj_get X dX5_saves_1 fl_X5_30 (by first | rfl | assumption) (by first | decide | omega) (by decide) rfl ?_
    refine zj_iconst X dX5_saves_4 ?_
    refine zj_icmp_ne X dX5_saves_5 (tgt := 48) (by decide) (by first | decide | omega) (by first | decide | omega) (fun h_5 => ?_) (fun h_5 => ?_)
    · exact absurd h_5 (by first | decide | omega)
    · refine zj_iconst X dX5_saves_8 ?_
      refine zG_istore_n X dX5_saves_9 (by decide) rfl ?_
      have h1 := loop1 hs 324 0 (by omega)
      rw [show shR (J 52) 0 = J 52 from funext (fun i => if_neg (Nat.not_lt_zero i)), upr_self] at h1
      exact h1
  · refine zG_aload_n X dX5_saves_0 rfl ?_
    refine zj_get X dX5_saves_1 fl_X5_30 (by first | rfl | assumption) (by first | decide | omega) (by decide) rfl ?_
    refine zj_iconst X dX5_saves_4 ?_
    refine zj_icmp_ne X dX5_saves_5 (tgt := 48) (by decide) (by first | decide | omega) (by first | decide | omega) (fun h_5 => ?_) (fun h_5 => ?_)
    · refine zj_iconst X dX5_saves_48 ?_
      refine zG_istore_n X dX5_saves_49 (by decide) rfl ?_
      have h0 := loop2 108 0 (by omega)
      rw [show ptR (msR J) (J 51) (svT (J 50 3)) 0 = msR J from funext (fun i => if_neg (by omega))] at h0
      rw [show msR J = J 52 from if_neg hs, upr_self, show ((svT (J 50 3) : Nat) : Int) = J 50 3 by unfold svT; rw [if_neg hs]; omega, show zup J 50 3 (J 50 3) = J from zup_sf] at h0
      exact h0
    · exact absurd h_5 (by first | decide | omega)
