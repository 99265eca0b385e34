/-! the Model takes back what it set aside -/
def cpR (p q : Nat → Int) (k : Nat) : Nat → Int := fun i => if i < k then q i else p i
theorem cp_s {J : Nat → Nat → Int} {a : Nat} {p q : Nat → Int} {k : Nat} : zup (upr J a (cpR p q k)) a k (q k) = upr J a (cpR p q (k + 1)) := by
  rw [zup_upr]
  refine upr_congr (fun i => ?_)
  unfold cpR
  by_cases h : i = k
  · subst h
    simp
  · by_cases h2 : i < k
    · simp [h, h2, show i < k + 1 by omega]
    · simp [h, h2, show ¬ i < k + 1 by omega]
set_option maxHeartbeats 4000000 in
set_option maxRecDepth 100000 in
theorem k_X5_takesBack (lo d : Nat) (J : Nat → Nat → Int) (G : Nat → Nat → Int64) (F : Nat → Nat → Option Nat) (hF : zFk F) : zCt lo yX5_takesBack cX5_takesBack 2 none d 0 0 [.ref (lo + 50)] 57 57 (zM J) G F (zD [] (upr J 51 (cpR (J 51) (J 53) 108)) G F) := by
  refine zCt.mk (by decide) (mv_X5_takesBack.2.2.2.1) (Nat.le_of_ble_eq_true rfl) ?_
  intro p l e s m args below meth c D cA X
  have loop : ∀ (q k : Nat), k + q = 108 → zG p l e { frames := d, cells := 0, slots := 0, locals := 35 * d } s m args below meth c D cA lo 2 0 0 (MQ below (zQ D cA lo 57 (zD [] (upr J 51 (cpR (J 51) (J 53) 108)) G F)) args s 0 0 (fun q => lo ≤ q)) 57 (zM (upr J 51 (cpR (J 51) (J 53) k))) G F [some (.ref (lo + 50)), some (.int (zI (k : Int)))] [] 2 := by
    intro q
    induction q with
    | zero =>
      intro k  hk
      refine zG_iload_n X dX5_takesBack_2 rfl ?_
      refine zj_bipush X dX5_takesBack_3 (by decide) ?_
      refine zj_icmp_ge X dX5_takesBack_5 (tgt := 26) (by decide) (by first | decide | omega) (by first | decide | omega) (fun h_5 => ?_) (fun h_5 => ?_)
      · refine zG_vret X dX5_takesBack_26 rfl ?_
        obtain rfl : k = 108 := by omega
        exact zD.rf
      · exact absurd h_5 (by first | decide | omega)
    | succ q ih =>
      intro k  hk
      refine zG_iload_n X dX5_takesBack_2 rfl ?_
      refine zj_bipush X dX5_takesBack_3 (by decide) ?_
      refine zj_icmp_ge X dX5_takesBack_5 (tgt := 26) (by decide) (by first | decide | omega) (by first | decide | omega) (fun h_5 => ?_) (fun h_5 => ?_)
      · exact absurd h_5 (by first | decide | omega)
      · refine zG_aload_n X dX5_takesBack_8 rfl ?_
        refine zG_getR X dX5_takesBack_9 fl_X5_7 (by first | rfl | assumption) (by first | decide | omega) (by decide) rfl (by first | exact zF_at hF rfl rfl | assumption) ?_
        refine zG_iload_n X dX5_takesBack_12 rfl ?_
        refine zG_aload_n X dX5_takesBack_13 rfl ?_
        refine zG_getR X dX5_takesBack_14 fl_X5_16 (by first | rfl | assumption) (by first | decide | omega) (by decide) rfl (by first | exact zF_at hF rfl rfl | assumption) ?_
        refine zG_iload_n X dX5_takesBack_17 rfl ?_
        refine zj_ialoadv (v := J 53 k) X dX5_takesBack_18 (by first | rfl | assumption) (by first | decide | omega) (k) (by omega) (by omega) (by exact upr_ne (by decide)) ?_
        refine zj_iastore X dX5_takesBack_19 (by first | rfl | assumption) (by first | decide | omega) (k) (by omega) (by omega) ?_
        refine zj_iinc X dX5_takesBack_20 rfl (by decide) rfl ?_
        refine zG_goto X dX5_takesBack_23 (tgt := 2) (by decide) ?_
        have hi := ih (k + 1) (by omega)
        rw [cp_s]
        exact hi
  refine zj_iconst X dX5_takesBack_0 ?_
  refine zG_istore_n X dX5_takesBack_1 (by decide) rfl ?_
  have h0 := loop 108 0 (by omega)
  rw [show cpR (J 51) (J 53) 0 = J 51 from funext (fun i => if_neg (Nat.not_lt_zero i)), upr_self] at h0
  exact h0
theorem up_cm {J : Nat → Nat → Int} {a b i : Nat} {f : Nat → Int} {v : Int} (h : a ≠ b) : zup (upr J b f) a i v = upr (zup J a i v) b f := by
  funext x j
  by_cases h1 : x = b
  · subst h1
    simp [zup, upr, show ¬ x = a from fun z => h z.symm]
  · simp [zup, upr, h1]
set_option maxHeartbeats 4000000 in
set_option maxRecDepth 100000 in
theorem k_X5_swapsAside (lo d : Nat) (J : Nat → Nat → Int) (G : Nat → Nat → Int64) (F : Nat → Nat → Option Nat) (hF : zFk F) : zCt lo yX5_swapsAside cX5_swapsAside 3 none d 0 0 [.ref (lo + 50)] 57 57 (zM J) G F (zD [] (upr (upr J 51 (cpR (J 51) (J 53) 108)) 53 (cpR (J 53) (J 51) 108)) G F) := by
  refine zCt.mk (by decide) (mv_X5_swapsAside.2.2.2.1) (Nat.le_of_ble_eq_true rfl) ?_
  intro p l e s m args below meth c D cA X
  have loop : ∀ (q k : Nat), k + q = 108 → zG p l e { frames := d, cells := 0, slots := 0, locals := 35 * d } s m args below meth c D cA lo 3 0 0 (MQ below (zQ D cA lo 57 (zD [] (upr (upr J 51 (cpR (J 51) (J 53) 108)) 53 (cpR (J 53) (J 51) 108)) G F)) args s 0 0 (fun q => lo ≤ q)) 57 (zM (upr (upr J 51 (cpR (J 51) (J 53) k)) 53 (cpR (J 53) (J 51) k))) G F [some (.ref (lo + 50)), some (.int (zI (k : Int))), none] [] 2 := by
    intro q
    induction q with
    | zero =>
      intro k  hk
      refine zG_iload_n X dX5_swapsAside_2 rfl ?_
      refine zj_bipush X dX5_swapsAside_3 (by decide) ?_
      refine zj_icmp_ge X dX5_swapsAside_5 (tgt := 40) (by decide) (by first | decide | omega) (by first | decide | omega) (fun h_5 => ?_) (fun h_5 => ?_)
      · refine zG_vret X dX5_swapsAside_40 rfl ?_
        obtain rfl : k = 108 := by omega
        exact zD.rf
      · exact absurd h_5 (by first | decide | omega)
    | succ q ih =>
      intro k  hk
      refine zG_iload_n X dX5_swapsAside_2 rfl ?_
      refine zj_bipush X dX5_swapsAside_3 (by decide) ?_
      refine zj_icmp_ge X dX5_swapsAside_5 (tgt := 40) (by decide) (by first | decide | omega) (by first | decide | omega) (fun h_5 => ?_) (fun h_5 => ?_)
      · exact absurd h_5 (by first | decide | omega)
      · refine zG_aload_n X dX5_swapsAside_8 rfl ?_
        refine zG_getR X dX5_swapsAside_9 fl_X5_7 (by first | rfl | assumption) (by first | decide | omega) (by decide) rfl (by first | exact zF_at hF rfl rfl | assumption) ?_
        refine zG_iload_n X dX5_swapsAside_12 rfl ?_
        refine zj_ialoadv (v := J 51 k) X dX5_swapsAside_13 (by first | rfl | assumption) (by first | decide | omega) (k) (by omega) (by omega) (by exact (upr_ne (by decide)).trans (upr_eq.trans (if_neg (Nat.lt_irrefl k)))) ?_
        refine zG_istore_n X dX5_swapsAside_14 (by decide) rfl ?_
        refine zG_aload_n X dX5_swapsAside_15 rfl ?_
        refine zG_getR X dX5_swapsAside_16 fl_X5_7 (by first | rfl | assumption) (by first | decide | omega) (by decide) rfl (by first | exact zF_at hF rfl rfl | assumption) ?_
        refine zG_iload_n X dX5_swapsAside_19 rfl ?_
        refine zG_aload_n X dX5_swapsAside_20 rfl ?_
        refine zG_getR X dX5_swapsAside_21 fl_X5_16 (by first | rfl | assumption) (by first | decide | omega) (by decide) rfl (by first | exact zF_at hF rfl rfl | assumption) ?_
        refine zG_iload_n X dX5_swapsAside_24 rfl ?_
        refine zj_ialoadv (v := J 53 k) X dX5_swapsAside_25 (by first | rfl | assumption) (by first | decide | omega) (k) (by omega) (by omega) (by exact upr_eq.trans (if_neg (Nat.lt_irrefl k))) ?_
        refine zj_iastore X dX5_swapsAside_26 (by first | rfl | assumption) (by first | decide | omega) (k) (by omega) (by omega) ?_
        refine zG_aload_n X dX5_swapsAside_27 rfl ?_
        refine zG_getR X dX5_swapsAside_28 fl_X5_16 (by first | rfl | assumption) (by first | decide | omega) (by decide) rfl (by first | exact zF_at hF rfl rfl | assumption) ?_
        refine zG_iload_n X dX5_swapsAside_31 rfl ?_
        refine zG_iload_n X dX5_swapsAside_32 rfl ?_
        refine zj_iastore X dX5_swapsAside_33 (by first | rfl | assumption) (by first | decide | omega) (k) (by omega) (by omega) ?_
        refine zj_iinc X dX5_swapsAside_34 rfl (by decide) rfl ?_
        refine zG_goto X dX5_swapsAside_37 (tgt := 2) (by decide) ?_
        have hi := ih (k + 1) (by omega)
        rw [up_cm (by decide), cp_s, cp_s]
        exact zG_sub (zle_some (zle_some (zle_none zle_nil))) hi
  refine zj_iconst X dX5_swapsAside_0 ?_
  refine zG_istore_n X dX5_swapsAside_1 (by decide) rfl ?_
  have h0 := loop 108 0 (by omega)
  rw [show cpR (J 51) (J 53) 0 = J 51 from funext (fun i => if_neg (Nat.not_lt_zero i)), show cpR (J 53) (J 51) 0 = J 53 from funext (fun i => if_neg (Nat.not_lt_zero i)), upr_self, upr_self] at h0
  exact h0
