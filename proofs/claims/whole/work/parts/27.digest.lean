/-! digest -/
theorem zpopN_le (x : Int64) : ∀ n, zpopN x n ≤ n
  | 0 => Nat.le_refl _
  | n + 1 => by
    have ih := zpopN_le x n
    unfold zpopN
    split <;> omega
theorem zpop_in (x : Int64) : 0 ≤ zpop x ∧ zpop x ≤ 64 := by
  have h := zpopN_le x 64
  unfold zpop
  omega
theorem tnC_in {J : Nat → Nat → Int} {G : Nat → Nat → Int64} (hc : cOk J 1) {q : Int} (h1 : 0 ≤ q) (h2 : q ≤ 13) : zr (tnC J G q) := by
  have hf := cOk_f hc
  have hp := zpop_in (G 1 9)
  have : q = 0 ∨ q = 1 ∨ q = 2 ∨ q = 3 ∨ q = 4 ∨ q = 5 ∨ q = 6 ∨ q = 7 ∨ q = 8 ∨ q = 9 ∨ q = 10 ∨ q = 11 ∨ q = 12 ∨ q = 13 := by omega
  unfold zr
  rcases this with rfl | rfl | rfl | rfl | rfl | rfl | rfl | rfl | rfl | rfl | rfl | rfl | rfl | rfl <;> simp [tnC] <;> omega
def twC (J : Nat → Nat → Int) (k : Nat) (q : Int) : Int := if q = 6 then (J (3 + k) 6 + (J 1 2 - J 1 14)) % J (3 + k) 0 else J (3 + k) q.toNat
theorem twC_in {J : Nat → Nat → Int} (hc : cOk J 1) {k : Nat} (hk : k < 5) {q : Int} (h1 : 0 ≤ q) (h2 : q ≤ 6) : -1 ≤ twC J k q ∧ twC J k q ≤ 60 := by
  have hw := cOk_w1 hc hk
  have e1 := Int.emod_nonneg (J (3 + k) 6 + (J 1 2 - J 1 14)) (show J (3 + k) 0 ≠ 0 by omega)
  have e2 := Int.emod_lt_of_pos (J (3 + k) 6 + (J 1 2 - J 1 14)) (show 0 < J (3 + k) 0 by omega)
  have : q = 0 ∨ q = 1 ∨ q = 2 ∨ q = 3 ∨ q = 4 ∨ q = 5 ∨ q = 6 := by omega
  rcases this with rfl | rfl | rfl | rfl | rfl | rfl | rfl <;> simp [twC] <;> omega
def dg1 (J : Nat → Nat → Int) (G : Nat → Nat → Int64) (h : Int64) : Nat → Int64
  | 0 => h
  | k + 1 => 31 * dg1 J G h k + lI (tnC J G (k : Int))
def dg2 (J : Nat → Nat → Int) (h : Int64) (k : Nat) : Nat → Int64
  | 0 => h
  | i + 1 => 31 * dg2 J h k i + lI (twC J k (i : Int))
def dg3 (J : Nat → Nat → Int) (h : Int64) : Nat → Int64
  | 0 => h
  | k + 1 => dg2 J (dg3 J h k) k 7
def dg4 (hs : Nat → Int) (wd : Nat → Nat → Int) (sb : Nat → Bool) (h : Int64) : Nat → Int64
  | 0 => h
  | n + 1 => 31 * (31 * dg4 hs wd sb h n + lI (hwR hs wd n)) + lI (mkR hs wd sb n)
theorem dg1_0 {J : Nat → Nat → Int} {G : Nat → Nat → Int64} {h : Int64} : dg1 J G h 0 = h := rfl
theorem dg1_s {J : Nat → Nat → Int} {G : Nat → Nat → Int64} {h : Int64} {k : Nat} : dg1 J G h (k + 1) = 31 * dg1 J G h k + lI (tnC J G (k : Int)) := rfl
theorem dg2_0 {J : Nat → Nat → Int} {h : Int64} {k : Nat} : dg2 J h k 0 = h := rfl
theorem dg2_s {J : Nat → Nat → Int} {h : Int64} {k i : Nat} : dg2 J h k (i + 1) = 31 * dg2 J h k i + lI (twC J k (i : Int)) := rfl
theorem dg3_0 {J : Nat → Nat → Int} {h : Int64} : dg3 J h 0 = h := rfl
theorem dg3_s {J : Nat → Nat → Int} {h : Int64} {k : Nat} : dg3 J h (k + 1) = dg2 J (dg3 J h k) k 7 := rfl
theorem dg4_0 {hs : Nat → Int} {wd : Nat → Nat → Int} {sb : Nat → Bool} {h : Int64} : dg4 hs wd sb h 0 = h := rfl
theorem dg4_s {hs : Nat → Int} {wd : Nat → Nat → Int} {sb : Nat → Bool} {h : Int64} {n : Nat} : dg4 hs wd sb h (n + 1) = 31 * (31 * dg4 hs wd sb h n + lI (hwR hs wd n)) + lI (mkR hs wd sb n) := rfl
def dgR (hs : Nat → Int) (wd : Nat → Nat → Int) (sb : Nat → Bool) (N : Nat) (J : Nat → Nat → Int) (G : Nat → Nat → Int64) : Int64 :=
  31 * (31 * dg4 hs wd sb (dg3 J (dg1 J G (31 * (3463) + lI (J 0 7)) 14) (hs 0).toNat) 10 + lI (zfind (nmP hs wd sb) N 0)) + lI (J 0 2)
theorem hwR_in {hs : Nat → Int} {wd : Nat → Nat → Int} {n : Nat} : -1 ≤ hwR hs wd n ∧ hwR hs wd n < 720 := by
  unfold hwR mhigh
  split <;> omega
theorem mkR_in {hs : Nat → Int} {wd : Nat → Nat → Int} {sb : Nat → Bool} {n : Nat} : 0 ≤ mkR hs wd sb n ∧ mkR hs wd sb n ≤ 3 := mfate_in
theorem zfind_in (P : Nat → Bool) : ∀ (f d : Nat), -1 ≤ zfind P f d ∧ zfind P f d ≤ ((f + d : Nat) : Int)
  | 0, d => by
    show (-1 : Int) ≤ -1 ∧ (-1 : Int) ≤ _
    omega
  | f + 1, d => by
    have ih := zfind_in P f (d + 1)
    rw [zfs]
    split <;> omega
set_option maxHeartbeats 4000000 in
set_option maxRecDepth 100000 in
theorem k_X4_digest (lo d : Nat) (hd : 6 ≤ d) (J : Nat → Nat → Int) (G : Nat → Nat → Int64) (F : Nat → Nat → Option Nat) (hF : zFk F) {hs : Nat → Int} {wd : Nat → Nat → Int} (vh : vH J hs wd) (ok : hwOk hs wd) (ht1 : 0 ≤ J 0 7) (ht2 : J 0 7 ≤ 90) (hs1 : 0 ≤ J 0 2) (hs2 : J 0 2 ≤ 4) {N : Nat} (hN : N = 2001) : zCt lo yX4_digest cX4_digest 5 (some .long) d 0 0 [.ref (lo + 0)] 57 57 (zM J) G F (zDw [.long (dgR hs wd (sbC G 1) N J G)] J G F) := by
  refine zCt.mk (by decide) (mv_X4_digest.2.2.2.1) (Nat.le_of_ble_eq_true rfl) ?_
  intro p l e s m args below meth c D cA X
  have hcf := ok.1
  unfold hOk at hcf
  have hc : cOk J 1 := vH_ok vh ok
  have hcf2 := cOk_f hc
  have hJ0 : J 1 1 = hs 0 := vh.1 0 (by decide)
  have loop4 : ∀ (q n : Nat), n + q = 10 → ∀ J1, sameB J1 J → zG p l e { frames := d, cells := 0, slots := 0, locals := 35 * d } s m args below meth c D cA lo 5 0 0 (MQ below (zQ D cA lo 57 (zDw [.long (dgR hs wd (sbC G 1) N J G)] J G F)) args s 0 0 (fun q => lo ≤ q)) 57 (zM (J1)) G F [some (.ref (lo + 0)), some (.long (dg4 hs wd (sbC G 1) (dg3 J (dg1 J G (31 * (3463) + lI (J 0 7)) 14) (hs 0).toNat) n)), none, some (.int (zI (n : Int))), none] [] 101 := by
    intro q
    induction q with
    | zero =>
      intro n hkn
      have h1n := zfind_in (nmP hs wd (sbC G 1)) N 0
      intro J1 hj
      obtain rfl : n = 10 := by omega
      have vh1 := vH_same hj vh
      have hJ02 : J1 0 2 = J 0 2 := hj 0 2 (by omega)
      refine zG_iload_n X dX4_digest_101 rfl ?_
      refine zj_bipush X dX4_digest_102 (by decide) ?_
      refine zj_icmp_gt X dX4_digest_104 (tgt := 135) (by decide) (by first | decide | omega) (by first | decide | omega) (fun h_104 => ?_) (fun h_104 => ?_)
      · refine zG_lload_n X dX4_digest_135 rfl ?_
        refine zG_aload_n X dX4_digest_136 rfl ?_
        refine zG_callV (as2 := []) rfl X (k_X4_nextMarket lo (d - 1) (by omega) J1 G F hF vh1 ok (N := N) hN) dX4_digest_137 mv_X4_nextMarket ml_X4_266 (by first | rfl | assumption) rfl (by first | decide | omega) rfl (by show d - 1 + 1 ≤ d; omega) (by show 19 + 2 + 35 * (d - 1) ≤ 35 * (d); omega) (Nat.le_of_ble_eq_true rfl) (Nat.le_of_ble_eq_true rfl) (Nat.le_of_ble_eq_true rfl) ?_
        rintro v I3 G3 F3 ⟨rfl, ⟨J2, rfl, hsb⟩, rfl, rfl⟩
        try simp only [List.append_eq, List.cons_append, List.nil_append]
        refine zj_i2l X dX4_digest_140 (by omega) ?_
        refine zj_callS1 (as2 := [_, _]) X (k_X4_mixed lo (d - 1) _ _ _) dX4_digest_141 ms_X4_mixed ml_X4_262 rfl rfl (by show d - 1 + 1 ≤ d; omega) (by show 19 + 4 + 35 * (d - 1) ≤ 35 * (d); omega) (Nat.le_of_ble_eq_true rfl) (Nat.le_of_ble_eq_true rfl) (Nat.le_of_ble_eq_true rfl) ?_
        refine zG_lstore_n X dX4_digest_144 (by decide) rfl ?_
        refine zG_lload_n X dX4_digest_145 rfl ?_
        refine zG_aload_n X dX4_digest_146 rfl ?_
        refine zj_getv (v := J 0 2) X dX4_digest_147 fl_X4_252 (by first | rfl | assumption) (by first | decide | omega) (by decide) rfl (by exact (hsb 0 2 (by omega)).trans hJ02) ?_
        refine zj_i2l X dX4_digest_150 (by omega) ?_
        refine zj_callS1 (as2 := [_, _]) X (k_X4_mixed lo (d - 1) _ _ _) dX4_digest_151 ms_X4_mixed ml_X4_262 rfl rfl (by show d - 1 + 1 ≤ d; omega) (by show 19 + 4 + 35 * (d - 1) ≤ 35 * (d); omega) (Nat.le_of_ble_eq_true rfl) (Nat.le_of_ble_eq_true rfl) (Nat.le_of_ble_eq_true rfl) ?_
        refine zG_lret X dX4_digest_154 rfl ?_
        exact zDw.of (by unfold dgR; rfl) (sameB_tr hsb hj)
      · exact absurd h_104 (by first | decide | omega)
    | succ q ihn =>
      intro n hkn
      intro J1 hj
      have vh1 := vH_same hj vh
      have hhi := hwR_in (hs := hs) (wd := wd) (n := n)
      have hmi := mkR_in (hs := hs) (wd := wd) (sb := sbC G 1) (n := n)
      refine zG_iload_n X dX4_digest_101 rfl ?_
      refine zj_bipush X dX4_digest_102 (by decide) ?_
      refine zj_icmp_gt X dX4_digest_104 (tgt := 135) (by decide) (by first | decide | omega) (by first | decide | omega) (fun h_104 => ?_) (fun h_104 => ?_)
      · exact absurd h_104 (by first | decide | omega)
      · refine zG_lload_n X dX4_digest_107 rfl ?_
        refine zG_aload_n X dX4_digest_108 rfl ?_
        refine zG_iload_n X dX4_digest_109 rfl ?_
        refine zG_callV (as2 := [_]) rfl X (k_X4_highWaterOn lo (d - 1) (by omega) J1 G F hF vh1 ok (n := n) (by omega)) dX4_digest_110 mv_X4_highWaterOn ml_X4_192 (by first | rfl | assumption) rfl (by first | decide | omega) rfl (by show d - 1 + 1 ≤ d; omega) (by show 19 + 3 + 35 * (d - 1) ≤ 35 * (d); omega) (Nat.le_of_ble_eq_true rfl) (Nat.le_of_ble_eq_true rfl) (Nat.le_of_ble_eq_true rfl) ?_
        rintro v I3 G3 F3 ⟨rfl, ⟨J2, rfl, hsb⟩, rfl, rfl⟩
        try simp only [List.append_eq, List.cons_append, List.nil_append]
        refine zj_i2l X dX4_digest_113 (by omega) ?_
        refine zj_callS1 (as2 := [_, _]) X (k_X4_mixed lo (d - 1) _ _ _) dX4_digest_114 ms_X4_mixed ml_X4_262 rfl rfl (by show d - 1 + 1 ≤ d; omega) (by show 19 + 4 + 35 * (d - 1) ≤ 35 * (d); omega) (Nat.le_of_ble_eq_true rfl) (Nat.le_of_ble_eq_true rfl) (Nat.le_of_ble_eq_true rfl) ?_
        refine zG_lstore_n X dX4_digest_117 (by decide) rfl ?_
        refine zG_lload_n X dX4_digest_118 rfl ?_
        refine zG_aload_n X dX4_digest_119 rfl ?_
        refine zG_iload_n X dX4_digest_120 rfl ?_
        refine zG_callV (as2 := [_]) rfl X (k_X4_marketOn lo (d - 1) (by omega) J2 _ _ hF (vH_same hsb vh1) ok (n := n) (by omega)) dX4_digest_121 mv_X4_marketOn ml_X4_195 (by first | rfl | assumption) rfl (by first | decide | omega) rfl (by show d - 1 + 1 ≤ d; omega) (by show 19 + 3 + 35 * (d - 1) ≤ 35 * (d); omega) (Nat.le_of_ble_eq_true rfl) (Nat.le_of_ble_eq_true rfl) (Nat.le_of_ble_eq_true rfl) ?_
        rintro v I3 G3 F3 ⟨rfl, ⟨J3, rfl, hsb3⟩, rfl, rfl⟩
        try simp only [List.append_eq, List.cons_append, List.nil_append]
        refine zj_i2l X dX4_digest_124 (by omega) ?_
        refine zj_callS1 (as2 := [_, _]) X (k_X4_mixed lo (d - 1) _ _ _) dX4_digest_125 ms_X4_mixed ml_X4_262 rfl rfl (by show d - 1 + 1 ≤ d; omega) (by show 19 + 4 + 35 * (d - 1) ≤ 35 * (d); omega) (Nat.le_of_ble_eq_true rfl) (Nat.le_of_ble_eq_true rfl) (Nat.le_of_ble_eq_true rfl) ?_
        refine zG_lstore_n X dX4_digest_128 (by decide) rfl ?_
        refine zj_iinc X dX4_digest_129 rfl (by decide) rfl ?_
        refine zG_goto X dX4_digest_132 (tgt := 101) (by decide) ?_
        have hi := ihn (n + 1) (by omega) J3 (sameB_tr hsb3 (sameB_tr hsb hj))
        rw [dg4_s] at hi
        exact zG_sub (zle_some (zle_some (zle_none (zle_some (zle_none zle_nil))))) hi
  have loop3 : ∀ (q k : Nat), k + q = (hs 0).toNat → zG p l e { frames := d, cells := 0, slots := 0, locals := 35 * d } s m args below meth c D cA lo 5 0 0 (MQ below (zQ D cA lo 57 (zDw [.long (dgR hs wd (sbC G 1) N J G)] J G F)) args s 0 0 (fun q => lo ≤ q)) 57 (zM (J)) G F [some (.ref (lo + 0)), some (.long (dg3 J (dg1 J G (31 * (3463) + lI (J 0 7)) 14) k)), none, some (.int (zI (k : Int))), none] [] 42 := by
    intro q
    induction q with
    | zero =>
      intro k hkk
      refine zG_iload_n X dX4_digest_42 rfl ?_
      refine zG_aload_n X dX4_digest_43 rfl ?_
      refine zG_getR X dX4_digest_44 fl_X4_10 (by first | rfl | assumption) (by first | decide | omega) (by decide) rfl (by first | exact zF_at hF rfl rfl | assumption) ?_
      refine zj_getv (v := hs 0) X dX4_digest_47 fl_X4_50 (by first | rfl | assumption) (by first | decide | omega) (by decide) rfl (hJ0) ?_
      refine zj_icmp_ge X dX4_digest_50 (tgt := 99) (by decide) (by first | decide | omega) (by first | decide | omega) (fun h_50 => ?_) (fun h_50 => ?_)
      · refine zj_iconst X dX4_digest_99 ?_
        refine zG_istore_n X dX4_digest_100 (by decide) rfl ?_
        obtain rfl : k = (hs 0).toNat := by omega
        have h0 := loop4 10 0 (by omega) J sameB_rf
        rw [dg4_0] at h0
        exact zG_sub (zle_some (zle_some (zle_none (zle_some (zle_none zle_nil))))) h0
      · exact absurd h_50 (by first | decide | omega)
    | succ q ihk =>
      intro k hkk
      have hk5 : k < 5 := by omega
      have hw1 := cOk_w1 hc hk5
      have hsw := zSh_w hk5
      have hnw : 3 + k < 57 := by omega
      have hfw := zF_w1 hF hk5
      have inner : ∀ (q2 i : Nat), i + q2 = 7 → zG p l e { frames := d, cells := 0, slots := 0, locals := 35 * d } s m args below meth c D cA lo 5 0 0 (MQ below (zQ D cA lo 57 (zDw [.long (dgR hs wd (sbC G 1) N J G)] J G F)) args s 0 0 (fun q => lo ≤ q)) 57 (zM (J)) G F [some (.ref (lo + 0)), some (.long (dg2 J (dg3 J (dg1 J G (31 * (3463) + lI (J 0 7)) 14) k) k i)), none, some (.int (zI (k : Int))), some (.int (zI (i : Int)))] [] 56 := by
        intro q2
        induction q2 with
        | zero =>
          intro i hki
          refine zG_iload X dX4_digest_56 rfl ?_
          refine zj_bipush X dX4_digest_58 (by decide) ?_
          refine zj_icmp_gt X dX4_digest_60 (tgt := 93) (by decide) (by first | decide | omega) (by first | decide | omega) (fun h_60 => ?_) (fun h_60 => ?_)
          · refine zj_iinc X dX4_digest_93 rfl (by decide) rfl ?_
            refine zG_goto X dX4_digest_96 (tgt := 42) (by decide) ?_
            obtain rfl : i = 7 := by omega
            have hi := ihk (k + 1) (by omega)
            rw [dg3_s] at hi
            exact zG_sub (zle_some (zle_some (zle_none (zle_some (zle_none zle_nil))))) hi
          · exact absurd h_60 (by first | decide | omega)
        | succ q2 ihi =>
          intro i hki
          have hti := twC_in hc hk5 (q := (i : Int)) (by omega) (by omega)
          refine zG_iload X dX4_digest_56 rfl ?_
          refine zj_bipush X dX4_digest_58 (by decide) ?_
          refine zj_icmp_gt X dX4_digest_60 (tgt := 93) (by decide) (by first | decide | omega) (by first | decide | omega) (fun h_60 => ?_) (fun h_60 => ?_)
          · exact absurd h_60 (by first | decide | omega)
          · refine zG_lload_n X dX4_digest_63 rfl ?_
            refine zG_aload_n X dX4_digest_64 rfl ?_
            refine zG_getR X dX4_digest_65 fl_X4_10 (by first | rfl | assumption) (by first | decide | omega) (by decide) rfl (by first | exact zF_at hF rfl rfl | assumption) ?_
            refine zG_aload_n X dX4_digest_68 rfl ?_
            refine zG_getR X dX4_digest_69 fl_X4_10 (by first | rfl | assumption) (by first | decide | omega) (by decide) rfl (by first | exact zF_at hF rfl rfl | assumption) ?_
            refine zG_getR X dX4_digest_72 fl_X4_62 (by first | rfl | assumption) (by first | decide | omega) (by decide) rfl (by first | exact zF_at hF rfl rfl | assumption) ?_
            refine zG_iload_n X dX4_digest_75 rfl ?_
            refine zj_aaload5 X dX4_digest_76 (by first | rfl | assumption) (by first | decide | omega) (k) (by omega) (by omega) (hfw) ?_
            refine zG_iload X dX4_digest_77 rfl ?_
            refine zj_callV1 (as2 := [_, _]) X (k_X0_tellWheel lo (d - 1) (by omega) J G F hsw hnw (q := (i : Int)) (by omega) (by omega) (by unfold zr; omega) (by omega) (by omega)) dX4_digest_79 mv_X0_tellWheel ml_X4_182 (by first | rfl | assumption) rfl (by first | decide | omega) rfl rfl (by show d - 1 + 1 ≤ d; omega) (by show 19 + 3 + 35 * (d - 1) ≤ 35 * (d); omega) (Nat.le_of_ble_eq_true rfl) (Nat.le_of_ble_eq_true rfl) (Nat.le_of_ble_eq_true rfl) ?_
            rw [show (if (i : Int) = 6 then (J (3 + k) 6 + (J 1 2 - J 1 14)) % J (3 + k) 0 else J (3 + k) ((i : Int)).toNat) = twC J k (i : Int) from rfl]
            refine zj_i2l X dX4_digest_82 (by unfold zr; omega) ?_
            try simp only [List.append_eq, List.cons_append, List.nil_append]
            refine zj_callS1 (as2 := [_, _]) X (k_X4_mixed lo (d - 1) _ _ _) dX4_digest_83 ms_X4_mixed ml_X4_262 rfl rfl (by show d - 1 + 1 ≤ d; omega) (by show 19 + 4 + 35 * (d - 1) ≤ 35 * (d); omega) (Nat.le_of_ble_eq_true rfl) (Nat.le_of_ble_eq_true rfl) (Nat.le_of_ble_eq_true rfl) ?_
            refine zG_lstore_n X dX4_digest_86 (by decide) rfl ?_
            refine zj_iinc X dX4_digest_87 rfl (by decide) rfl ?_
            refine zG_goto X dX4_digest_90 (tgt := 56) (by decide) ?_
            have hi := ihi (i + 1) (by omega)
            rw [dg2_s] at hi
            exact hi
      refine zG_iload_n X dX4_digest_42 rfl ?_
      refine zG_aload_n X dX4_digest_43 rfl ?_
      refine zG_getR X dX4_digest_44 fl_X4_10 (by first | rfl | assumption) (by first | decide | omega) (by decide) rfl (by first | exact zF_at hF rfl rfl | assumption) ?_
      refine zj_getv (v := hs 0) X dX4_digest_47 fl_X4_50 (by first | rfl | assumption) (by first | decide | omega) (by decide) rfl (hJ0) ?_
      refine zj_icmp_ge X dX4_digest_50 (tgt := 99) (by decide) (by first | decide | omega) (by first | decide | omega) (fun h_50 => ?_) (fun h_50 => ?_)
      · exact absurd h_50 (by first | decide | omega)
      · refine zj_iconst X dX4_digest_53 ?_
        refine zG_istore X dX4_digest_54 (by decide) rfl ?_
        have h0 := inner 7 0 (by omega)
        rw [dg2_0] at h0
        exact zG_sub (zle_some (zle_some (zle_none (zle_some (zle_some zle_nil))))) h0
  have loop1 : ∀ (q k : Nat), k + q = 14 → zG p l e { frames := d, cells := 0, slots := 0, locals := 35 * d } s m args below meth c D cA lo 5 0 0 (MQ below (zQ D cA lo 57 (zDw [.long (dgR hs wd (sbC G 1) N J G)] J G F)) args s 0 0 (fun q => lo ≤ q)) 57 (zM (J)) G F [some (.ref (lo + 0)), some (.long (dg1 J G (31 * (3463) + lI (J 0 7)) k)), none, some (.int (zI (k : Int))), none] [] 14 := by
    intro q
    induction q with
    | zero =>
      intro k hkk
      refine zG_iload_n X dX4_digest_14 rfl ?_
      refine zj_bipush X dX4_digest_15 (by decide) ?_
      refine zj_icmp_gt X dX4_digest_17 (tgt := 40) (by decide) (by first | decide | omega) (by first | decide | omega) (fun h_17 => ?_) (fun h_17 => ?_)
      · refine zj_iconst X dX4_digest_40 ?_
        refine zG_istore_n X dX4_digest_41 (by decide) rfl ?_
        obtain rfl : k = 14 := by omega
        have h0 := loop3 (hs 0).toNat 0 (by omega)
        rw [dg3_0] at h0
        exact zG_sub (zle_some (zle_some (zle_none (zle_some (zle_none zle_nil))))) h0
      · exact absurd h_17 (by first | decide | omega)
    | succ q ihk =>
      intro k hkk
      refine zG_iload_n X dX4_digest_14 rfl ?_
      refine zj_bipush X dX4_digest_15 (by decide) ?_
      refine zj_icmp_gt X dX4_digest_17 (tgt := 40) (by decide) (by first | decide | omega) (by first | decide | omega) (fun h_17 => ?_) (fun h_17 => ?_)
      · exact absurd h_17 (by first | decide | omega)
      · refine zG_lload_n X dX4_digest_20 rfl ?_
        refine zG_aload_n X dX4_digest_21 rfl ?_
        refine zG_getR X dX4_digest_22 fl_X4_10 (by first | rfl | assumption) (by first | decide | omega) (by decide) rfl (by first | exact zF_at hF rfl rfl | assumption) ?_
        refine zG_iload_n X dX4_digest_25 rfl ?_
        refine zj_callV1 (as2 := [_]) X (k_X0_tellNumber lo (d - 1) (by omega) J G F (q := (k : Int)) (by omega) (by omega)) dX4_digest_26 mv_X0_tellNumber ml_X4_186 (by first | rfl | assumption) rfl (by first | decide | omega) rfl rfl (by show d - 1 + 1 ≤ d; omega) (by show 19 + 2 + 35 * (d - 1) ≤ 35 * (d); omega) (Nat.le_of_ble_eq_true rfl) (Nat.le_of_ble_eq_true rfl) (Nat.le_of_ble_eq_true rfl) ?_
        refine zj_i2l X dX4_digest_29 (tnC_in hc (by omega) (by omega)) ?_
        refine zj_callS1 (as2 := [_, _]) X (k_X4_mixed lo (d - 1) _ _ _) dX4_digest_30 ms_X4_mixed ml_X4_262 rfl rfl (by show d - 1 + 1 ≤ d; omega) (by show 19 + 4 + 35 * (d - 1) ≤ 35 * (d); omega) (Nat.le_of_ble_eq_true rfl) (Nat.le_of_ble_eq_true rfl) (Nat.le_of_ble_eq_true rfl) ?_
        refine zG_lstore_n X dX4_digest_33 (by decide) rfl ?_
        refine zj_iinc X dX4_digest_34 rfl (by decide) rfl ?_
        refine zG_goto X dX4_digest_37 (tgt := 14) (by decide) ?_
        have hi := ihk (k + 1) (by omega)
        rw [dg1_s] at hi
        exact hi
  refine zG_ldc2 (v := 3463) X dX4_digest_0 (by decide +kernel) ?_
  refine zG_aload_n X dX4_digest_3 rfl ?_
  refine zj_get X dX4_digest_4 fl_X4_237 (by first | rfl | assumption) (by first | decide | omega) (by decide) rfl ?_
  refine zj_i2l X dX4_digest_7 (by omega) ?_
  refine zj_callS1 (as2 := [_, _]) X (k_X4_mixed lo (d - 1) _ _ _) dX4_digest_8 ms_X4_mixed ml_X4_262 rfl rfl (by show d - 1 + 1 ≤ d; omega) (by show 19 + 4 + 35 * (d - 1) ≤ 35 * (d); omega) (Nat.le_of_ble_eq_true rfl) (Nat.le_of_ble_eq_true rfl) (Nat.le_of_ble_eq_true rfl) ?_
  refine zG_lstore_n X dX4_digest_11 (by decide) rfl ?_
  refine zj_iconst X dX4_digest_12 ?_
  refine zG_istore_n X dX4_digest_13 (by decide) rfl ?_
  have h0 := loop1 14 0 (by omega)
  rw [dg1_0] at h0
  exact zG_sub (zle_some (zle_some (zle_none (zle_some (zle_none zle_nil))))) h0
