/-! the Model's changes -/
def sameM (J2 J : Nat → Nat → Int) : Prop := ∀ x i, x ≠ 53 → x ≠ 55 → ¬ (x = 50 ∧ i = 4) → J2 x i = J x i
theorem sameM_rf {J : Nat → Nat → Int} : sameM J J := fun _ _ _ _ _ => rfl
theorem sameM_tr {J J2 J3 : Nat → Nat → Int} (h : sameM J3 J2) (h2 : sameM J2 J) : sameM J3 J := fun x i a b c => (h x i a b c).trans (h2 x i a b c)
theorem sameM_r {J : Nat → Nat → Int} {r : Int} : sameM (zup J 50 4 r) J := fun x i _ _ c => zup_ne c
/-- the Model's call: r the refusal, A the answer, Jn the world behind it -/
def zMR (r A : Int) (J Jn : Nat → Nat → Int) (G : Nat → Nat → Int64) (F : Nat → Nat → Option Nat) : List Value → (Nat → Nat → Int32) → (Nat → Nat → Int64) → (Nat → Nat → Option Nat) → Prop := fun v I2 G2 F2 => G2 = G ∧ F2 = F ∧ ∃ (a : Int) (J2 : Nat → Nat → Int), v = [.int (zI a)] ∧ I2 = zM J2 ∧ J2 50 4 = r ∧ (r = 0 → a = A) ∧ sameM J2 (if r = 0 then Jn else J)
theorem zMR.no {r A k a : Int} {J Jn : Nat → Nat → Int} {G : Nat → Nat → Int64} {F : Nat → Nat → Option Nat} (h : r = k) (hk : k ≠ 0) : zMR r A J Jn G F [.int (zI a)] (zM (zup J 50 4 k)) G F := by
  subst h
  exact ⟨rfl, rfl, _, _, rfl, rfl, zup_eq, fun z => absurd z hk, by rw [if_neg hk]; exact sameM_r⟩
theorem zMR.yes {r A a : Int} {J Jn J2 : Nat → Nat → Int} {G : Nat → Nat → Int64} {F : Nat → Nat → Option Nat} (h : r = 0) (h4 : J2 50 4 = 0) (ha : a = A) (hs : sameM J2 Jn) : zMR r A J Jn G F [.int (zI a)] (zM J2) G F := by
  subst h
  exact ⟨rfl, rfl, _, _, rfl, rfl, h4, fun _ => ha, by rw [if_pos rfl]; exact hs⟩
def sk3 (J : Nat → Nat → Int) (k : Nat) (a b c : Int) : Nat → Nat → Int := zup (zup (zup J 51 (13 + 7 * k + 3) a) 51 (13 + 7 * k + 4) b) 51 (13 + 7 * k + 5) c
def comJ (J : Nat → Nat → Int) (c : Nat) (u v : Int) : Nat → Nat → Int := zup (zup (zup (zup (zup (zup (zup (zup J 51 (13 + 7 * c + 0) u) 51 (13 + 7 * c + 1) v) 51 (13 + 7 * c + 2) 0) 51 (13 + 7 * c + 3) (-1)) 51 (13 + 7 * c + 4) (-1)) 51 (13 + 7 * c + 5) 0) 51 (13 + 7 * c + 6) ((v - J 51 1 + J 51 12) % u)) 51 0 ((c : Int) + 1)
def emR (r : Nat → Int) (k : Nat) : Nat → Int := fun i => if 48 ≤ i ∧ i < 48 + k then 0 else r i
def zsm (f : Nat → Int) : Nat → Int
  | 0 => 0
  | n + 1 => zsm f n + f n
theorem zsm_0 {f : Nat → Int} : zsm f 0 = 0 := rfl
theorem zsm_s {f : Nat → Int} {n : Nat} : zsm f (n + 1) = zsm f n + f n := rfl
def prR (r : Nat → Int) (c : Nat) : Nat → Int := fun i => if i % 7 = 5 ∧ 19 ≤ i ∧ i < 19 + 7 * c then r (i - 5) else r i
def kpJ (J : Nat → Nat → Int) : Nat → Nat → Int := upr J 53 (cpR (J 53) (J 51) 108)
set_option maxHeartbeats 4000000 in
set_option maxRecDepth 100000 in
theorem k_X5_keeps (lo d : Nat) (J : Nat → Nat → Int) (G : Nat → Nat → Int64) (F : Nat → Nat → Option Nat) (hF : zFk F) : zCt lo yX5_keeps cX5_keeps 2 none d 0 0 [.ref (lo + 50)] 57 57 (zM J) G F (zD [] (kpJ J) G F) := by
  refine zCt.mk (by decide) (mv_X5_keeps.2.2.2.1) (Nat.le_of_ble_eq_true rfl) ?_
  intro p l e s m args below meth c D cA X
  have loop : ∀ (q k : Nat), k + q = 108 → zG p l e { frames := d, cells := 0, slots := 0, locals := 35 * d } s m args below meth c D cA lo 2 0 0 (MQ below (zQ D cA lo 57 (zD [] (kpJ J) G F)) args s 0 0 (fun q => lo ≤ q)) 57 (zM (upr J 53 (cpR (J 53) (J 51) k))) G F [some (.ref (lo + 50)), some (.int (zI (k : Int)))] [] 2 := by
    intro q
    induction q with
    | zero =>
      intro k  hk
      refine zG_iload_n X dX5_keeps_2 rfl ?_
      refine zj_bipush X dX5_keeps_3 (by decide) ?_
      refine zj_icmp_ge X dX5_keeps_5 (tgt := 26) (by decide) (by first | decide | omega) (by first | decide | omega) (fun h_5 => ?_) (fun h_5 => ?_)
      · refine zG_vret X dX5_keeps_26 rfl ?_
        obtain rfl : k = 108 := by omega
        exact zD.rf
      · exact absurd h_5 (by first | decide | omega)
    | succ q ih =>
      intro k  hk
      refine zG_iload_n X dX5_keeps_2 rfl ?_
      refine zj_bipush X dX5_keeps_3 (by decide) ?_
      refine zj_icmp_ge X dX5_keeps_5 (tgt := 26) (by decide) (by first | decide | omega) (by first | decide | omega) (fun h_5 => ?_) (fun h_5 => ?_)
      · exact absurd h_5 (by first | decide | omega)
      · refine zG_aload_n X dX5_keeps_8 rfl ?_
        refine zG_getR X dX5_keeps_9 fl_X5_16 (by first | rfl | assumption) (by first | decide | omega) (by decide) rfl (by first | exact zF_at hF rfl rfl | assumption) ?_
        refine zG_iload_n X dX5_keeps_12 rfl ?_
        refine zG_aload_n X dX5_keeps_13 rfl ?_
        refine zG_getR X dX5_keeps_14 fl_X5_7 (by first | rfl | assumption) (by first | decide | omega) (by decide) rfl (by first | exact zF_at hF rfl rfl | assumption) ?_
        refine zG_iload_n X dX5_keeps_17 rfl ?_
        refine zj_ialoadv (v := J 51 k) X dX5_keeps_18 (by first | rfl | assumption) (by first | decide | omega) (k) (by omega) (by omega) (by exact upr_ne (by decide)) ?_
        refine zj_iastore X dX5_keeps_19 (by first | rfl | assumption) (by first | decide | omega) (k) (by omega) (by omega) ?_
        refine zj_iinc X dX5_keeps_20 rfl (by decide) rfl ?_
        refine zG_goto X dX5_keeps_23 (tgt := 2) (by decide) ?_
        have hi := ih (k + 1) (by omega)
        rw [cp_s]
        exact hi
  refine zj_iconst X dX5_keeps_0 ?_
  refine zG_istore_n X dX5_keeps_1 (by decide) rfl ?_
  have h0 := loop 108 0 (by omega)
  rw [show cpR (J 53) (J 51) 0 = J 53 from funext (fun i => if_neg (Nat.not_lt_zero i)), upr_self] at h0
  exact h0
set_option maxHeartbeats 4000000 in
set_option maxRecDepth 100000 in
theorem k_X5_skips (lo d : Nat) (hd : 1 ≤ d) (J : Nat → Nat → Int) (G : Nat → Nat → Int64) (F : Nat → Nat → Option Nat) (hF : zFk F) {k : Nat} (hk : k < 5) {a b c : Int} (hz : zr (J 51 (13 + 7 * k + 3))) : zCt lo yX5_skips cX5_skips 7 (some .int) d 0 0 [.ref (lo + 50), .int (zI (k : Int)), .int (zI a), .int (zI b), .int (zI c)] 57 57 (zM J) G F (zD [.int (zI (if J 51 (13 + 7 * k + 3) = -1 then 0 else 1))] (sk3 J k a b c) G F) := by
  refine zCt.mk (by decide) (mv_X5_skips.2.2.2.1) (Nat.le_of_ble_eq_true rfl) ?_
  intro p l e s m args below meth c D cA X
  refine zG_iload_n X dX5_skips_0 rfl ?_
  refine zj_callS1 (as2 := [_]) X (k_X5_at lo (d - 1) J G F (k := (k : Int))) dX5_skips_1 ms_X5_at ml_X5_37 rfl rfl (by show d - 1 + 1 ≤ d; omega) (by show 19 + 1 + 35 * (d - 1) ≤ 35 * (d); omega) (Nat.le_of_ble_eq_true rfl) (Nat.le_of_ble_eq_true rfl) (Nat.le_of_ble_eq_true rfl) ?_
  refine zG_istore X dX5_skips_4 (by decide) rfl ?_
  refine zG_aload_n X dX5_skips_6 rfl ?_
  refine zG_getR X dX5_skips_7 fl_X5_7 (by first | rfl | assumption) (by first | decide | omega) (by decide) rfl (by first | exact zF_at hF rfl rfl | assumption) ?_
  refine zG_iload X dX5_skips_10 rfl ?_
  refine zj_iconst X dX5_skips_12 ?_
  refine zj_iadd X dX5_skips_13 ?_
  refine zj_iaload X dX5_skips_14 (by first | rfl | assumption) (by first | decide | omega) (13 + 7 * k + 3) (by omega) (by omega) ?_
  refine zj_iconst X dX5_skips_15 ?_
  refine zj_icmp_ne X dX5_skips_16 (tgt := 23) (by decide) (by first | decide | omega) (by first | decide | omega) (fun h_16 => ?_) (fun h_16 => ?_)
  · refine zj_iconst X dX5_skips_23 ?_
    refine zG_istore X dX5_skips_24 (by decide) rfl ?_
    refine zG_aload_n X dX5_skips_26 rfl ?_
    refine zG_getR X dX5_skips_27 fl_X5_7 (by first | rfl | assumption) (by first | decide | omega) (by decide) rfl (by first | exact zF_at hF rfl rfl | assumption) ?_
    refine zG_iload X dX5_skips_30 rfl ?_
    refine zj_iconst X dX5_skips_32 ?_
    refine zj_iadd X dX5_skips_33 ?_
    refine zG_iload_n X dX5_skips_34 rfl ?_
    refine zj_iastore X dX5_skips_35 (by first | rfl | assumption) (by first | decide | omega) (13 + 7 * k + 3) (by omega) (by omega) ?_
    refine zG_aload_n X dX5_skips_36 rfl ?_
    refine zG_getR X dX5_skips_37 fl_X5_7 (by first | rfl | assumption) (by first | decide | omega) (by decide) rfl (by first | exact zF_at hF rfl rfl | assumption) ?_
    refine zG_iload X dX5_skips_40 rfl ?_
    refine zj_iconst X dX5_skips_42 ?_
    refine zj_iadd X dX5_skips_43 ?_
    refine zG_iload_n X dX5_skips_44 rfl ?_
    refine zj_iastore X dX5_skips_45 (by first | rfl | assumption) (by first | decide | omega) (13 + 7 * k + 4) (by omega) (by omega) ?_
    refine zG_aload_n X dX5_skips_46 rfl ?_
    refine zG_getR X dX5_skips_47 fl_X5_7 (by first | rfl | assumption) (by first | decide | omega) (by decide) rfl (by first | exact zF_at hF rfl rfl | assumption) ?_
    refine zG_iload X dX5_skips_50 rfl ?_
    refine zj_iconst X dX5_skips_52 ?_
    refine zj_iadd X dX5_skips_53 ?_
    refine zG_iload X dX5_skips_54 rfl ?_
    refine zj_iastore X dX5_skips_56 (by first | rfl | assumption) (by first | decide | omega) (13 + 7 * k + 5) (by omega) (by omega) ?_
    refine zG_iload X dX5_skips_57 rfl ?_
    refine zG_iret X dX5_skips_59 rfl ?_
    first
      | exact zD.of (congrArg (fun z => [Value.int (zI z)]) (if_pos (by first | assumption | omega)).symm) rfl rfl rfl
      | exact zD.of (congrArg (fun z => [Value.int (zI z)]) (if_neg (by first | assumption | omega)).symm) rfl rfl rfl
  · refine zj_iconst X dX5_skips_19 ?_
    refine zG_goto X dX5_skips_20 (tgt := 24) (by decide) ?_
    refine zG_istore X dX5_skips_24 (by decide) rfl ?_
    refine zG_aload_n X dX5_skips_26 rfl ?_
    refine zG_getR X dX5_skips_27 fl_X5_7 (by first | rfl | assumption) (by first | decide | omega) (by decide) rfl (by first | exact zF_at hF rfl rfl | assumption) ?_
    refine zG_iload X dX5_skips_30 rfl ?_
    refine zj_iconst X dX5_skips_32 ?_
    refine zj_iadd X dX5_skips_33 ?_
    refine zG_iload_n X dX5_skips_34 rfl ?_
    refine zj_iastore X dX5_skips_35 (by first | rfl | assumption) (by first | decide | omega) (13 + 7 * k + 3) (by omega) (by omega) ?_
    refine zG_aload_n X dX5_skips_36 rfl ?_
    refine zG_getR X dX5_skips_37 fl_X5_7 (by first | rfl | assumption) (by first | decide | omega) (by decide) rfl (by first | exact zF_at hF rfl rfl | assumption) ?_
    refine zG_iload X dX5_skips_40 rfl ?_
    refine zj_iconst X dX5_skips_42 ?_
    refine zj_iadd X dX5_skips_43 ?_
    refine zG_iload_n X dX5_skips_44 rfl ?_
    refine zj_iastore X dX5_skips_45 (by first | rfl | assumption) (by first | decide | omega) (13 + 7 * k + 4) (by omega) (by omega) ?_
    refine zG_aload_n X dX5_skips_46 rfl ?_
    refine zG_getR X dX5_skips_47 fl_X5_7 (by first | rfl | assumption) (by first | decide | omega) (by decide) rfl (by first | exact zF_at hF rfl rfl | assumption) ?_
    refine zG_iload X dX5_skips_50 rfl ?_
    refine zj_iconst X dX5_skips_52 ?_
    refine zj_iadd X dX5_skips_53 ?_
    refine zG_iload X dX5_skips_54 rfl ?_
    refine zj_iastore X dX5_skips_56 (by first | rfl | assumption) (by first | decide | omega) (13 + 7 * k + 5) (by omega) (by omega) ?_
    refine zG_iload X dX5_skips_57 rfl ?_
    refine zG_iret X dX5_skips_59 rfl ?_
    first
      | exact zD.of (congrArg (fun z => [Value.int (zI z)]) (if_pos (by first | assumption | omega)).symm) rfl rfl rfl
      | exact zD.of (congrArg (fun z => [Value.int (zI z)]) (if_neg (by first | assumption | omega)).symm) rfl rfl rfl
set_option maxHeartbeats 4000000 in
set_option maxRecDepth 100000 in
theorem k_X5_comes (lo d : Nat) (hd : 1 ≤ d) (J : Nat → Nat → Int) (G : Nat → Nat → Int64) (F : Nat → Nat → Option Nat) (hF : zFk F) {k : Nat} (hc : k < 5) (h0 : J 51 0 = k) {u v : Int} (u1 : 0 < u) (u2 : zr u) (v1 : 0 ≤ v) (v2 : v ≤ 1000) (d1 : 0 ≤ J 51 1) (d2 : J 51 1 ≤ 1000000) (p1 : 0 ≤ J 51 12) (p2 : J 51 12 ≤ 1000000) : zCt lo yX5_comes cX5_comes 4 (some .int) d 0 0 [.ref (lo + 50), .int (zI u), .int (zI v)] 57 57 (zM J) G F (zD [.int (zI (k : Int))] (comJ J k u v) G F) := by
  refine zCt.mk (by decide) (mv_X5_comes.2.2.2.1) (Nat.le_of_ble_eq_true rfl) ?_
  intro p l e s m args below meth c D cA X
  refine zG_aload_n X dX5_comes_0 rfl ?_
  refine zG_getR X dX5_comes_1 fl_X5_7 (by first | rfl | assumption) (by first | decide | omega) (by decide) rfl (by first | exact zF_at hF rfl rfl | assumption) ?_
  refine zj_iconst X dX5_comes_4 ?_
  refine zj_ialoadv (v := (k : Int)) X dX5_comes_5 (by first | rfl | assumption) (by first | decide | omega) (0) (by decide) (by decide) (h0) ?_
  refine zj_callS1 (as2 := [_]) X (k_X5_at lo (d - 1) J G F (k := (k : Int))) dX5_comes_6 ms_X5_at ml_X5_37 rfl rfl (by show d - 1 + 1 ≤ d; omega) (by show 19 + 1 + 35 * (d - 1) ≤ 35 * (d); omega) (Nat.le_of_ble_eq_true rfl) (Nat.le_of_ble_eq_true rfl) (Nat.le_of_ble_eq_true rfl) ?_
  refine zG_istore_n X dX5_comes_9 (by decide) rfl ?_
  refine zG_aload_n X dX5_comes_10 rfl ?_
  refine zG_getR X dX5_comes_11 fl_X5_7 (by first | rfl | assumption) (by first | decide | omega) (by decide) rfl (by first | exact zF_at hF rfl rfl | assumption) ?_
  refine zG_iload_n X dX5_comes_14 rfl ?_
  refine zj_iconst X dX5_comes_15 ?_
  refine zj_iadd X dX5_comes_16 ?_
  refine zG_iload_n X dX5_comes_17 rfl ?_
  refine zj_iastore X dX5_comes_18 (by first | rfl | assumption) (by first | decide | omega) (13 + 7 * k + 0) (by omega) (by omega) ?_
  refine zG_aload_n X dX5_comes_19 rfl ?_
  refine zG_getR X dX5_comes_20 fl_X5_7 (by first | rfl | assumption) (by first | decide | omega) (by decide) rfl (by first | exact zF_at hF rfl rfl | assumption) ?_
  refine zG_iload_n X dX5_comes_23 rfl ?_
  refine zj_iconst X dX5_comes_24 ?_
  refine zj_iadd X dX5_comes_25 ?_
  refine zG_iload_n X dX5_comes_26 rfl ?_
  refine zj_iastore X dX5_comes_27 (by first | rfl | assumption) (by first | decide | omega) (13 + 7 * k + 1) (by omega) (by omega) ?_
  refine zG_aload_n X dX5_comes_28 rfl ?_
  refine zG_getR X dX5_comes_29 fl_X5_7 (by first | rfl | assumption) (by first | decide | omega) (by decide) rfl (by first | exact zF_at hF rfl rfl | assumption) ?_
  refine zG_iload_n X dX5_comes_32 rfl ?_
  refine zj_iconst X dX5_comes_33 ?_
  refine zj_iadd X dX5_comes_34 ?_
  refine zj_iconst X dX5_comes_35 ?_
  refine zj_iastore X dX5_comes_36 (by first | rfl | assumption) (by first | decide | omega) (13 + 7 * k + 2) (by omega) (by omega) ?_
  refine zG_aload_n X dX5_comes_37 rfl ?_
  refine zG_getR X dX5_comes_38 fl_X5_7 (by first | rfl | assumption) (by first | decide | omega) (by decide) rfl (by first | exact zF_at hF rfl rfl | assumption) ?_
  refine zG_iload_n X dX5_comes_41 rfl ?_
  refine zj_iconst X dX5_comes_42 ?_
  refine zj_iadd X dX5_comes_43 ?_
  refine zj_iconst X dX5_comes_44 ?_
  refine zj_iastore X dX5_comes_45 (by first | rfl | assumption) (by first | decide | omega) (13 + 7 * k + 3) (by omega) (by omega) ?_
  refine zG_aload_n X dX5_comes_46 rfl ?_
  refine zG_getR X dX5_comes_47 fl_X5_7 (by first | rfl | assumption) (by first | decide | omega) (by decide) rfl (by first | exact zF_at hF rfl rfl | assumption) ?_
  refine zG_iload_n X dX5_comes_50 rfl ?_
  refine zj_iconst X dX5_comes_51 ?_
  refine zj_iadd X dX5_comes_52 ?_
  refine zj_iconst X dX5_comes_53 ?_
  refine zj_iastore X dX5_comes_54 (by first | rfl | assumption) (by first | decide | omega) (13 + 7 * k + 4) (by omega) (by omega) ?_
  refine zG_aload_n X dX5_comes_55 rfl ?_
  refine zG_getR X dX5_comes_56 fl_X5_7 (by first | rfl | assumption) (by first | decide | omega) (by decide) rfl (by first | exact zF_at hF rfl rfl | assumption) ?_
  refine zG_iload_n X dX5_comes_59 rfl ?_
  refine zj_iconst X dX5_comes_60 ?_
  refine zj_iadd X dX5_comes_61 ?_
  refine zj_iconst X dX5_comes_62 ?_
  refine zj_iastore X dX5_comes_63 (by first | rfl | assumption) (by first | decide | omega) (13 + 7 * k + 5) (by omega) (by omega) ?_
  refine zG_aload_n X dX5_comes_64 rfl ?_
  refine zG_getR X dX5_comes_65 fl_X5_7 (by first | rfl | assumption) (by first | decide | omega) (by decide) rfl (by first | exact zF_at hF rfl rfl | assumption) ?_
  refine zG_iload_n X dX5_comes_68 rfl ?_
  refine zj_bipush X dX5_comes_69 (by decide) ?_
  refine zj_iadd X dX5_comes_71 ?_
  refine zG_iload_n X dX5_comes_72 rfl ?_
  refine zG_aload_n X dX5_comes_73 rfl ?_
  refine zG_getR X dX5_comes_74 fl_X5_7 (by first | rfl | assumption) (by first | decide | omega) (by decide) rfl (by first | exact zF_at hF rfl rfl | assumption) ?_
  refine zj_iconst X dX5_comes_77 ?_
  refine zj_ialoadv (v := J 51 1) X dX5_comes_78 (by first | rfl | assumption) (by first | decide | omega) (1) (by decide) (by decide) (by repeat' (first | rfl | refine (zup_ne (by omega)).trans ?_)) ?_
  refine zj_isub X dX5_comes_79 ?_
  refine zG_aload_n X dX5_comes_80 rfl ?_
  refine zG_getR X dX5_comes_81 fl_X5_7 (by first | rfl | assumption) (by first | decide | omega) (by decide) rfl (by first | exact zF_at hF rfl rfl | assumption) ?_
  refine zj_bipush X dX5_comes_84 (by decide) ?_
  refine zj_ialoadv (v := J 51 12) X dX5_comes_86 (by first | rfl | assumption) (by first | decide | omega) (12) (by decide) (by decide) (by repeat' (first | rfl | refine (zup_ne (by omega)).trans ?_)) ?_
  refine zj_iadd X dX5_comes_87 ?_
  refine zG_iload_n X dX5_comes_88 rfl ?_
  refine zj_callS1 (as2 := [_, _]) X (k_X5_modulo lo (d - 1) (zup (zup (zup (zup (zup (zup J 51 (13 + 7 * k + 0) u) 51 (13 + 7 * k + 1) v) 51 (13 + 7 * k + 2) 0) 51 (13 + 7 * k + 3) (-1)) 51 (13 + 7 * k + 4) (-1)) 51 (13 + 7 * k + 5) 0) G F (a := v - J 51 1 + J 51 12) (b := u) (by unfold zr; omega) u2 u1) dX5_comes_89 ms_X5_modulo ml_X5_49 rfl rfl (by show d - 1 + 1 ≤ d; omega) (by show 19 + 3 + 35 * (d - 1) ≤ 35 * (d); omega) (Nat.le_of_ble_eq_true rfl) (Nat.le_of_ble_eq_true rfl) (Nat.le_of_ble_eq_true rfl) ?_
  refine zj_iastore X dX5_comes_92 (by first | rfl | assumption) (by first | decide | omega) (13 + 7 * k + 6) (by omega) (by omega) ?_
  refine zG_aload_n X dX5_comes_93 rfl ?_
  refine zG_getR X dX5_comes_94 fl_X5_7 (by first | rfl | assumption) (by first | decide | omega) (by decide) rfl (by first | exact zF_at hF rfl rfl | assumption) ?_
  refine zj_iconst X dX5_comes_97 ?_
  refine zG_dup2 X dX5_comes_98 rfl rfl ?_
  refine zj_ialoadv (v := (k : Int)) X dX5_comes_99 (by first | rfl | assumption) (by first | decide | omega) (0) (by decide) (by decide) (by repeat' (first | exact h0 | refine (zup_ne (by omega)).trans ?_)) ?_
  refine zj_iconst X dX5_comes_100 ?_
  refine zj_iadd X dX5_comes_101 ?_
  refine zj_iastore X dX5_comes_102 (by first | rfl | assumption) (by first | decide | omega) (0) (by decide) (by decide) ?_
  refine zG_aload_n X dX5_comes_103 rfl ?_
  refine zG_getR X dX5_comes_104 fl_X5_7 (by first | rfl | assumption) (by first | decide | omega) (by decide) rfl (by first | exact zF_at hF rfl rfl | assumption) ?_
  refine zj_iconst X dX5_comes_107 ?_
  refine zj_ialoadv (v := (k : Int) + 1) X dX5_comes_108 (by first | rfl | assumption) (by first | decide | omega) (0) (by decide) (by decide) (by exact zup_eq) ?_
  refine zj_iconst X dX5_comes_109 ?_
  refine zj_isub X dX5_comes_110 ?_
  refine zG_iret X dX5_comes_111 rfl ?_
  exact zD.of (congrArg (fun z => [Value.int (zI z)]) (by omega)) rfl rfl rfl
theorem em_s {J : Nat → Nat → Int} {r : Nat → Int} {k : Nat} : zup (upr J 51 (emR r k)) 51 (48 + k) 0 = upr J 51 (emR r (k + 1)) := by
  rw [zup_upr]
  refine upr_congr (fun i => ?_)
  unfold emR
  by_cases h : i = 48 + k
  · rw [if_pos h, if_pos (by omega)]
  · rw [if_neg h]
    by_cases h2 : 48 ≤ i ∧ i < 48 + k
    · rw [if_pos h2, if_pos (by omega)]
    · rw [if_neg h2, if_neg (by omega)]
theorem em_0 {r : Nat → Int} : emR r 0 = r := funext fun i => if_neg (by omega)
set_option maxHeartbeats 4000000 in
set_option maxRecDepth 100000 in
theorem k_X5_emptiesSet (lo d : Nat) (J : Nat → Nat → Int) (G : Nat → Nat → Int64) (F : Nat → Nat → Option Nat) (hF : zFk F) : zCt lo yX5_emptiesSet cX5_emptiesSet 2 none d 0 0 [.ref (lo + 50)] 57 57 (zM J) G F (zD [] (upr J 51 (emR (J 51) 60)) G F) := by
  refine zCt.mk (by decide) (mv_X5_emptiesSet.2.2.2.1) (Nat.le_of_ble_eq_true rfl) ?_
  intro p l e s m args below meth c D cA X
  have loop : ∀ (q k : Nat), k + q = 60 → zG p l e { frames := d, cells := 0, slots := 0, locals := 35 * d } s m args below meth c D cA lo 2 0 0 (MQ below (zQ D cA lo 57 (zD [] (upr J 51 (emR (J 51) 60)) G F)) args s 0 0 (fun q => lo ≤ q)) 57 (zM (upr J 51 (emR (J 51) k))) G F [some (.ref (lo + 50)), some (.int (zI (48 + (k : Int))))] [] 3 := by
    intro q
    induction q with
    | zero =>
      intro k  hk
      refine zG_iload_n X dX5_emptiesSet_3 rfl ?_
      refine zj_bipush X dX5_emptiesSet_4 (by decide) ?_
      refine zj_icmp_ge X dX5_emptiesSet_6 (tgt := 22) (by decide) (by first | decide | omega) (by first | decide | omega) (fun h_6 => ?_) (fun h_6 => ?_)
      · refine zG_vret X dX5_emptiesSet_22 rfl ?_
        obtain rfl : k = 60 := by omega
        exact zD.rf
      · exact absurd h_6 (by first | decide | omega)
    | succ q ih =>
      intro k  hk
      refine zG_iload_n X dX5_emptiesSet_3 rfl ?_
      refine zj_bipush X dX5_emptiesSet_4 (by decide) ?_
      refine zj_icmp_ge X dX5_emptiesSet_6 (tgt := 22) (by decide) (by first | decide | omega) (by first | decide | omega) (fun h_6 => ?_) (fun h_6 => ?_)
      · exact absurd h_6 (by first | decide | omega)
      · refine zG_aload_n X dX5_emptiesSet_9 rfl ?_
        refine zG_getR X dX5_emptiesSet_10 fl_X5_7 (by first | rfl | assumption) (by first | decide | omega) (by decide) rfl (by first | exact zF_at hF rfl rfl | assumption) ?_
        refine zG_iload_n X dX5_emptiesSet_13 rfl ?_
        refine zj_iconst X dX5_emptiesSet_14 ?_
        refine zj_iastore X dX5_emptiesSet_15 (by first | rfl | assumption) (by first | decide | omega) (48 + k) (by omega) (by omega) ?_
        refine zj_iinc X dX5_emptiesSet_16 rfl (by decide) rfl ?_
        refine zG_goto X dX5_emptiesSet_19 (tgt := 3) (by decide) ?_
        have hi := ih (k + 1) (by omega)
        rw [show (48 : Int) + ((k + 1 : Nat) : Int) = 48 + (k : Int) + 1 by omega] at hi
        rw [em_s]
        exact hi
  refine zj_bipush X dX5_emptiesSet_0 (by decide) ?_
  refine zG_istore_n X dX5_emptiesSet_2 (by decide) rfl ?_
  have h0 := loop 60 0 (by omega)
  rw [em_0, upr_self] at h0
  exact h0
set_option maxHeartbeats 4000000 in
set_option maxRecDepth 100000 in
theorem k_X5_inSet (lo d : Nat) (J : Nat → Nat → Int) (G : Nat → Nat → Int64) (F : Nat → Nat → Option Nat) (hF : zFk F) : zCt lo yX5_inSet cX5_inSet 3 (some .int) d 0 0 [.ref (lo + 50)] 57 57 (zM J) G F (zD [.int (zI (zsm (fun t => J 51 (48 + t)) 60))] J G F) := by
  refine zCt.mk (by decide) (mv_X5_inSet.2.2.2.1) (Nat.le_of_ble_eq_true rfl) ?_
  intro p l e s m args below meth c D cA X
  have loop : ∀ (q k : Nat), k + q = 60 → zG p l e { frames := d, cells := 0, slots := 0, locals := 35 * d } s m args below meth c D cA lo 3 0 0 (MQ below (zQ D cA lo 57 (zD [.int (zI (zsm (fun t => J 51 (48 + t)) 60))] J G F)) args s 0 0 (fun q => lo ≤ q)) 57 (zM (J)) G F [some (.ref (lo + 50)), some (.int (zI (zsm (fun t => J 51 (48 + t)) k))), some (.int (zI (48 + (k : Int))))] [] 5 := by
    intro q
    induction q with
    | zero =>
      intro k  hk
      refine zG_iload_n X dX5_inSet_5 rfl ?_
      refine zj_bipush X dX5_inSet_6 (by decide) ?_
      refine zj_icmp_ge X dX5_inSet_8 (tgt := 26) (by decide) (by first | decide | omega) (by first | decide | omega) (fun h_8 => ?_) (fun h_8 => ?_)
      · refine zG_iload_n X dX5_inSet_26 rfl ?_
        refine zG_iret X dX5_inSet_27 rfl ?_
        obtain rfl : k = 60 := by omega
        exact zD.rf
      · exact absurd h_8 (by first | decide | omega)
    | succ q ih =>
      intro k  hk
      refine zG_iload_n X dX5_inSet_5 rfl ?_
      refine zj_bipush X dX5_inSet_6 (by decide) ?_
      refine zj_icmp_ge X dX5_inSet_8 (tgt := 26) (by decide) (by first | decide | omega) (by first | decide | omega) (fun h_8 => ?_) (fun h_8 => ?_)
      · exact absurd h_8 (by first | decide | omega)
      · refine zG_iload_n X dX5_inSet_11 rfl ?_
        refine zG_aload_n X dX5_inSet_12 rfl ?_
        refine zG_getR X dX5_inSet_13 fl_X5_7 (by first | rfl | assumption) (by first | decide | omega) (by decide) rfl (by first | exact zF_at hF rfl rfl | assumption) ?_
        refine zG_iload_n X dX5_inSet_16 rfl ?_
        refine zj_iaload X dX5_inSet_17 (by first | rfl | assumption) (by first | decide | omega) (48 + k) (by omega) (by omega) ?_
        refine zj_iadd X dX5_inSet_18 ?_
        refine zG_istore_n X dX5_inSet_19 (by decide) rfl ?_
        refine zj_iinc X dX5_inSet_20 rfl (by decide) rfl ?_
        refine zG_goto X dX5_inSet_23 (tgt := 5) (by decide) ?_
        have hi := ih (k + 1) (by omega)
        rw [show (48 : Int) + ((k + 1 : Nat) : Int) = 48 + (k : Int) + 1 by omega] at hi
        rw [zsm_s] at hi
        exact hi
  refine zj_iconst X dX5_inSet_0 ?_
  refine zG_istore_n X dX5_inSet_1 (by decide) rfl ?_
  refine zj_bipush X dX5_inSet_2 (by decide) ?_
  refine zG_istore_n X dX5_inSet_4 (by decide) rfl ?_
  have h0 := loop 60 0 (by omega)
  rw [zsm_0] at h0
  exact h0
def unR (J : Nat → Nat → Int) : Nat → Int := cpR (J 51) (fun i => J 52 (108 * (J 50 3 - 1).toNat + i)) 108
set_option maxHeartbeats 4000000 in
set_option maxRecDepth 100000 in
theorem k_X5_undo (lo d : Nat) (hd : 1 ≤ d) (J : Nat → Nat → Int) (G : Nat → Nat → Int64) (F : Nat → Nat → Option Nat) (hF : zFk F) (h1 : 0 ≤ J 50 3) (h2 : J 50 3 ≤ 4) : zCt lo yX5_undo cX5_undo 2 (some .int) d 0 0 [.ref (lo + 50)] 57 57 (zM J) G F (zMR (if J 50 3 = 0 then 1 else 0) (J 50 3 - 1) J (upr (zup (zup J 50 4 0) 50 3 (J 50 3 - 1)) 51 (unR J)) G F) := by
  refine zCt.mk (by decide) (mv_X5_undo.2.2.2.1) (Nat.le_of_ble_eq_true rfl) ?_
  intro p l e s m args below meth c D cA X
  by_cases hz : J 50 3 = 0
  · refine zG_aload_n X dX5_undo_0 rfl ?_
    refine zG_aload_n X dX5_undo_1 rfl ?_
    refine zj_get X dX5_undo_2 fl_X5_30 (by first | rfl | assumption) (by first | decide | omega) (by decide) rfl ?_
    refine zj_if_ne X dX5_undo_5 (tgt := 12) (by decide) (by first | decide | omega) (fun h_5 => ?_) (fun h_5 => ?_)
    · exact absurd h_5 (by first | decide | omega)
    · refine zj_iconst X dX5_undo_8 ?_
      refine zG_goto X dX5_undo_9 (tgt := 13) (by decide) ?_
      refine zj_callV1 (as2 := [_]) X (k_X5_refused lo (d - 1) J G F (x := 1) (by decide)) dX5_undo_13 mv_X5_refused ml_X5_33 (by first | rfl | assumption) rfl (by first | decide | omega) rfl rfl (by show d - 1 + 1 ≤ d; omega) (by show 19 + 2 + 35 * (d - 1) ≤ 35 * (d); omega) (Nat.le_of_ble_eq_true rfl) (Nat.le_of_ble_eq_true rfl) (Nat.le_of_ble_eq_true rfl) ?_
      refine zj_if_eq X dX5_undo_16 (tgt := 21) (by decide) (by first | decide | omega) (fun h_16 => ?_) (fun h_16 => ?_)
      · exact absurd h_16 (by first | decide | omega)
      · refine zj_iconst X dX5_undo_19 ?_
        refine zG_iret X dX5_undo_20 rfl ?_
        exact zMR.no (if_pos hz) (by decide)
  · have loop : ∀ (q k : Nat), k + q = 108 → zG p l e { frames := d, cells := 0, slots := 0, locals := 35 * d } s m args below meth c D cA lo 2 0 0 (MQ below (zQ D cA lo 57 (zMR (if J 50 3 = 0 then 1 else 0) (J 50 3 - 1) J (upr (zup (zup J 50 4 0) 50 3 (J 50 3 - 1)) 51 (unR J)) G F)) args s 0 0 (fun q => lo ≤ q)) 57 (zM (upr (zup (zup J 50 4 0) 50 3 (J 50 3 - 1)) 51 (cpR (J 51) (fun i => J 52 (108 * (J 50 3 - 1).toNat + i)) k))) G F [some (.ref (lo + 50)), some (.int (zI (k : Int)))] [] 33 := by
      intro q
      induction q with
      | zero =>
        intro k  hk
        refine zG_iload_n X dX5_undo_33 rfl ?_
        refine zj_bipush X dX5_undo_34 (by decide) ?_
        refine zj_icmp_ge X dX5_undo_36 (tgt := 65) (by decide) (by first | decide | omega) (by first | decide | omega) (fun h_36 => ?_) (fun h_36 => ?_)
        · refine zG_aload_n X dX5_undo_65 rfl ?_
          refine zj_getv (v := J 50 3 - 1) X dX5_undo_66 fl_X5_30 (by first | rfl | assumption) (by first | decide | omega) (by decide) rfl (by exact (upr_ne (by decide)).trans zup_eq) ?_
          refine zG_iret X dX5_undo_69 rfl ?_
          obtain rfl : k = 108 := by omega
          exact zMR.yes (if_neg hz) (by exact (upr_ne (by decide)).trans ((zup_ne (by decide)).trans zup_eq)) rfl sameM_rf
        · exact absurd h_36 (by first | decide | omega)
      | succ q ih =>
        intro k  hk
        refine zG_iload_n X dX5_undo_33 rfl ?_
        refine zj_bipush X dX5_undo_34 (by decide) ?_
        refine zj_icmp_ge X dX5_undo_36 (tgt := 65) (by decide) (by first | decide | omega) (by first | decide | omega) (fun h_36 => ?_) (fun h_36 => ?_)
        · exact absurd h_36 (by first | decide | omega)
        · refine zG_aload_n X dX5_undo_39 rfl ?_
          refine zG_getR X dX5_undo_40 fl_X5_7 (by first | rfl | assumption) (by first | decide | omega) (by decide) rfl (by first | exact zF_at hF rfl rfl | assumption) ?_
          refine zG_iload_n X dX5_undo_43 rfl ?_
          refine zG_aload_n X dX5_undo_44 rfl ?_
          refine zG_getR X dX5_undo_45 fl_X5_13 (by first | rfl | assumption) (by first | decide | omega) (by decide) rfl (by first | exact zF_at hF rfl rfl | assumption) ?_
          refine zj_bipush X dX5_undo_48 (by decide) ?_
          refine zG_aload_n X dX5_undo_50 rfl ?_
          refine zj_getv (v := J 50 3 - 1) X dX5_undo_51 fl_X5_30 (by first | rfl | assumption) (by first | decide | omega) (by decide) rfl (by exact (upr_ne (by decide)).trans zup_eq) ?_
          refine zj_imul X dX5_undo_54 ?_
          refine zG_iload_n X dX5_undo_55 rfl ?_
          refine zj_iadd X dX5_undo_56 ?_
          refine zj_ialoadv (v := J 52 (108 * (J 50 3 - 1).toNat + k)) X dX5_undo_57 (by first | rfl | assumption) (by first | decide | omega) (108 * (J 50 3 - 1).toNat + k) (by omega) (by omega) (by exact (upr_ne (by decide)).trans ((zup_ne (by omega)).trans (zup_ne (by omega)))) ?_
          refine zj_iastore X dX5_undo_58 (by first | rfl | assumption) (by first | decide | omega) (k) (by omega) (by omega) ?_
          refine zj_iinc X dX5_undo_59 rfl (by decide) rfl ?_
          refine zG_goto X dX5_undo_62 (tgt := 33) (by decide) ?_
          have hi := ih (k + 1) (by omega)
          rw [show zup (upr (zup (zup J 50 4 0) 50 3 (J 50 3 - 1)) 51 (cpR (J 51) (fun i => J 52 (108 * (J 50 3 - 1).toNat + i)) k)) 51 k (J 52 (108 * (J 50 3 - 1).toNat + k)) = _ from cp_s (q := fun i => J 52 (108 * (J 50 3 - 1).toNat + i))]
          exact hi
    refine zG_aload_n X dX5_undo_0 rfl ?_
    refine zG_aload_n X dX5_undo_1 rfl ?_
    refine zj_get X dX5_undo_2 fl_X5_30 (by first | rfl | assumption) (by first | decide | omega) (by decide) rfl ?_
    refine zj_if_ne X dX5_undo_5 (tgt := 12) (by decide) (by first | decide | omega) (fun h_5 => ?_) (fun h_5 => ?_)
    · refine zj_iconst X dX5_undo_12 ?_
      refine zj_callV1 (as2 := [_]) X (k_X5_refused lo (d - 1) J G F (x := 0) (by decide)) dX5_undo_13 mv_X5_refused ml_X5_33 (by first | rfl | assumption) rfl (by first | decide | omega) rfl rfl (by show d - 1 + 1 ≤ d; omega) (by show 19 + 2 + 35 * (d - 1) ≤ 35 * (d); omega) (Nat.le_of_ble_eq_true rfl) (Nat.le_of_ble_eq_true rfl) (Nat.le_of_ble_eq_true rfl) ?_
      refine zj_if_eq X dX5_undo_16 (tgt := 21) (by decide) (by first | decide | omega) (fun h_16 => ?_) (fun h_16 => ?_)
      · refine zG_aload_n X dX5_undo_21 rfl ?_
        refine zG_dup X dX5_undo_22 rfl ?_
        refine zj_getv (v := J 50 3) X dX5_undo_23 fl_X5_30 (by first | rfl | assumption) (by first | decide | omega) (by decide) rfl (by exact zup_ne (by decide)) ?_
        refine zj_iconst X dX5_undo_26 ?_
        refine zj_isub X dX5_undo_27 ?_
        refine zj_put X dX5_undo_28 fl_X5_30 (by first | rfl | assumption) (by first | decide | omega) (by decide) rfl rfl ?_
        refine zj_iconst X dX5_undo_31 ?_
        refine zG_istore_n X dX5_undo_32 (by decide) rfl ?_
        have h0 := loop 108 0 (by omega)
        rw [show cpR (J 51) (fun i => J 52 (108 * (J 50 3 - 1).toNat + i)) 0 = J 51 from funext (fun i => if_neg (Nat.not_lt_zero i)), show J 51 = (zup (zup J 50 4 0) 50 3 (J 50 3 - 1)) 51 from funext (fun i => by exact ((zup_ne (by omega)).trans (zup_ne (by omega))).symm), upr_self] at h0
        exact h0
      · exact absurd h_16 (by first | decide | omega)
    · exact absurd h_5 (by first | decide | omega)
def prM (J : Nat → Nat → Int) : Nat → Nat → Int := upr J 51 (prR (fun i => if i = 12 then J 51 1 else J 51 i) (J 51 0).toNat)
theorem prR_0 {r : Nat → Int} : prR r 0 = r := funext fun i => if_neg (by omega)
theorem prR_s {J : Nat → Nat → Int} {r : Nat → Int} {k : Nat} : zup (upr J 51 (prR r k)) 51 (13 + 7 * k + 6) (r (13 + 7 * k + 1)) = upr J 51 (prR r (k + 1)) := by
  rw [zup_upr]
  refine upr_congr (fun i => ?_)
  unfold prR
  by_cases h : i = 13 + 7 * k + 6
  · subst h
    rw [if_pos rfl, if_pos (by omega)]
    exact congrArg r (by omega)
  · rw [if_neg h]
    by_cases h2 : i % 7 = 5 ∧ 19 ≤ i ∧ i < 19 + 7 * k
    · rw [if_pos h2, if_pos (by omega)]
    · rw [if_neg h2, if_neg (by omega)]
theorem prR_ne {r : Nat → Int} {k i : Nat} (h : ¬ (i % 7 = 5 ∧ 19 ≤ i ∧ i < 19 + 7 * k)) : prR r k i = r i := if_neg h
set_option maxHeartbeats 4000000 in
set_option maxRecDepth 100000 in
theorem k_X5_prints (lo d : Nat) (hd : 2 ≤ d) (J : Nat → Nat → Int) (G : Nat → Nat → Int64) (F : Nat → Nat → Option Nat) (hF : zFk F) (c1 : 0 ≤ J 51 0) (c2 : J 51 0 ≤ 5) : zCt lo yX5_prints cX5_prints 3 (some .int) d 0 0 [.ref (lo + 50)] 57 57 (zM J) G F (zD [.int (zI (J 51 12))] (prM J) G F) := by
  refine zCt.mk (by decide) (mv_X5_prints.2.2.2.1) (Nat.le_of_ble_eq_true rfl) ?_
  intro p l e s m args below meth c D cA X
  have loop : ∀ (q k : Nat), k + q = (J 51 0).toNat → zG p l e { frames := d, cells := 0, slots := 0, locals := 35 * d } s m args below meth c D cA lo 3 0 0 (MQ below (zQ D cA lo 57 (zD [.int (zI (J 51 12))] (prM J) G F)) args s 0 0 (fun q => lo ≤ q)) 57 (zM (upr J 51 (prR (fun i => if i = 12 then J 51 1 else J 51 i) k))) G F [some (.ref (lo + 50)), some (.int (zI (J 51 12))), some (.int (zI (k : Int)))] [] 23 := by
    intro q
    induction q with
    | zero =>
      intro k  hk
      refine zG_iload_n X dX5_prints_23 rfl ?_
      refine zG_aload_n X dX5_prints_24 rfl ?_
      refine zG_getR X dX5_prints_25 fl_X5_7 (by first | rfl | assumption) (by first | decide | omega) (by decide) rfl (by first | exact zF_at hF rfl rfl | assumption) ?_
      refine zj_iconst X dX5_prints_28 ?_
      refine zj_ialoadv (v := ((J 51 0).toNat : Int)) X dX5_prints_29 (by first | rfl | assumption) (by first | decide | omega) (0) (by decide) (by decide) (by exact upr_eq.trans ((prR_ne (by omega)).trans (by show (if 0 = 12 then _ else J 51 0) = _; rw [if_neg (by decide)]; omega))) ?_
      refine zj_icmp_ge X dX5_prints_30 (tgt := 57) (by decide) (by first | decide | omega) (by first | decide | omega) (fun h_30 => ?_) (fun h_30 => ?_)
      · refine zG_iload_n X dX5_prints_57 rfl ?_
        refine zG_iret X dX5_prints_58 rfl ?_
        obtain rfl : k = (J 51 0).toNat := by omega
        exact zD.rf
      · exact absurd h_30 (by first | decide | omega)
    | succ q ih =>
      intro k  hk
      refine zG_iload_n X dX5_prints_23 rfl ?_
      refine zG_aload_n X dX5_prints_24 rfl ?_
      refine zG_getR X dX5_prints_25 fl_X5_7 (by first | rfl | assumption) (by first | decide | omega) (by decide) rfl (by first | exact zF_at hF rfl rfl | assumption) ?_
      refine zj_iconst X dX5_prints_28 ?_
      refine zj_ialoadv (v := ((J 51 0).toNat : Int)) X dX5_prints_29 (by first | rfl | assumption) (by first | decide | omega) (0) (by decide) (by decide) (by exact upr_eq.trans ((prR_ne (by omega)).trans (by show (if 0 = 12 then _ else J 51 0) = _; rw [if_neg (by decide)]; omega))) ?_
      refine zj_icmp_ge X dX5_prints_30 (tgt := 57) (by decide) (by first | decide | omega) (by first | decide | omega) (fun h_30 => ?_) (fun h_30 => ?_)
      · exact absurd h_30 (by first | decide | omega)
      · refine zG_aload_n X dX5_prints_33 rfl ?_
        refine zG_getR X dX5_prints_34 fl_X5_7 (by first | rfl | assumption) (by first | decide | omega) (by decide) rfl (by first | exact zF_at hF rfl rfl | assumption) ?_
        refine zG_iload_n X dX5_prints_37 rfl ?_
        refine zj_callS1 (as2 := [_]) X (k_X5_at lo (d - 1) (upr J 51 (prR (fun i => if i = 12 then J 51 1 else J 51 i) k)) G F (k := (k : Int))) dX5_prints_38 ms_X5_at ml_X5_37 rfl rfl (by show d - 1 + 1 ≤ d; omega) (by show 19 + 1 + 35 * (d - 1) ≤ 35 * (d); omega) (Nat.le_of_ble_eq_true rfl) (Nat.le_of_ble_eq_true rfl) (Nat.le_of_ble_eq_true rfl) ?_
        refine zj_bipush X dX5_prints_41 (by decide) ?_
        refine zj_iadd X dX5_prints_43 ?_
        refine zG_aload_n X dX5_prints_44 rfl ?_
        refine zG_iload_n X dX5_prints_45 rfl ?_
        refine zj_iconst X dX5_prints_46 ?_
        refine zj_callV1 (as2 := [_, _]) X (k_X5_ofv lo (d - 1) (by omega) (upr J 51 (prR (fun i => if i = 12 then J 51 1 else J 51 i) k)) G F hF (u := (k : Int)) (v := 1) (x := (fun i => if i = 12 then J 51 1 else J 51 i) (13 + 7 * k + 1)) k 1 (by omega) (by omega) rfl rfl (upr_eq.trans (prR_ne (by omega)))) dX5_prints_47 mv_X5_of ml_X5_45 (by first | rfl | assumption) rfl (by first | decide | omega) rfl rfl (by show d - 1 + 1 ≤ d; omega) (by show 19 + 3 + 35 * (d - 1) ≤ 35 * (d); omega) (Nat.le_of_ble_eq_true rfl) (Nat.le_of_ble_eq_true rfl) (Nat.le_of_ble_eq_true rfl) ?_
        refine zj_iastore X dX5_prints_50 (by first | rfl | assumption) (by first | decide | omega) (13 + 7 * k + 6) (by omega) (by omega) ?_
        refine zj_iinc X dX5_prints_51 rfl (by decide) rfl ?_
        refine zG_goto X dX5_prints_54 (tgt := 23) (by decide) ?_
        have hi := ih (k + 1) (by omega)
        rw [prR_s]
        exact hi
  refine zG_aload_n X dX5_prints_0 rfl ?_
  refine zG_getR X dX5_prints_1 fl_X5_7 (by first | rfl | assumption) (by first | decide | omega) (by decide) rfl (by first | exact zF_at hF rfl rfl | assumption) ?_
  refine zj_bipush X dX5_prints_4 (by decide) ?_
  refine zj_iaload X dX5_prints_6 (by first | rfl | assumption) (by first | decide | omega) (12) (by decide) (by decide) ?_
  refine zG_istore_n X dX5_prints_7 (by decide) rfl ?_
  refine zG_aload_n X dX5_prints_8 rfl ?_
  refine zG_getR X dX5_prints_9 fl_X5_7 (by first | rfl | assumption) (by first | decide | omega) (by decide) rfl (by first | exact zF_at hF rfl rfl | assumption) ?_
  refine zj_bipush X dX5_prints_12 (by decide) ?_
  refine zG_aload_n X dX5_prints_14 rfl ?_
  refine zG_getR X dX5_prints_15 fl_X5_7 (by first | rfl | assumption) (by first | decide | omega) (by decide) rfl (by first | exact zF_at hF rfl rfl | assumption) ?_
  refine zj_iconst X dX5_prints_18 ?_
  refine zj_iaload X dX5_prints_19 (by first | rfl | assumption) (by first | decide | omega) (1) (by decide) (by decide) ?_
  refine zj_iastore X dX5_prints_20 (by first | rfl | assumption) (by first | decide | omega) (12) (by decide) (by decide) ?_
  refine zj_iconst X dX5_prints_21 ?_
  refine zG_istore_n X dX5_prints_22 (by decide) rfl ?_
  have h0 := loop (J 51 0).toNat 0 (by omega)
  rw [prR_0] at h0
  rw [show zup J 51 12 (J 51 1) = upr J 51 (fun i => if i = 12 then J 51 1 else J 51 i) from by rw [← zup_upr, upr_self]]
  exact h0
