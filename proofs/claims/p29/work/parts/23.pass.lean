theorem zj_ldc {p : Program} {l : Launch} {e : Env} {R : Room} {s : State} {m : MethodId} {args : Array Value} {below : List Frame} {meth : Method} {c : Code} {y : MethodName} {cc : ByteArray} {nL : Nat} {ret : Option FieldType} {D : va_G} {cA : Nat → ClassId} {lo : Nat} {cells slots : Nat} {Q : State → Prop} {n : Nat} {I : Nat → Nat → Int32} {G : Nat → Nat → Int64} {F : Nat → Nat → Option Nat} {L : List (Option Value)} {st : List Value} {pc : Nat} {i : Nat} {v : Int} (X : zCx p l s m meth c y cc nL ret D cA) (hd : decode cc pc = .ok (.ldc i, 2)) (hw : Cond.constant y.cls i (zI v) ∈ lw_tbl) (k : zG p l e R s m args below meth c D cA lo nL cells slots Q n I G F L (.int (zI v) :: st) (pc + 2)) : zG p l e R s m args below meth c D cA lo nL cells slots Q n I G F L (st) pc := zG_ldc X hd hw k
/-! pass: day after day, the market counted -/
def cntJ (J : Nat → Nat → Int) (a b c : Int) : Nat → Nat → Int := zup (zup (zup J 1 10 a) 1 11 b) 1 12 c
def hsU (hs : Nat → Int) (a b c : Int) : Nat → Int := fun j => if j = 8 then a else if j = 9 then b else if j = 10 then c else hs j
theorem vH_cnt {J : Nat → Nat → Int} {hs : Nat → Int} {wd : Nat → Nat → Int} {a b c : Int} (v : vH J hs wd) : vH (cntJ J a b c) (hsU hs a b c) wd := by
  refine ⟨fun j hj => ?_, fun k i hk => ?_⟩
  · have h := v.1 j hj
    have hc : j = 0 ∨ j = 1 ∨ j = 2 ∨ j = 3 ∨ j = 4 ∨ j = 5 ∨ j = 6 ∨ j = 7 ∨ j = 8 ∨ j = 9 ∨ j = 10 ∨ j = 11 ∨ j = 12 := by omega
    rcases hc with rfl | rfl | rfl | rfl | rfl | rfl | rfl | rfl | rfl | rfl | rfl | rfl | rfl <;> simp [hsC, cntJ, hsU, zup] at h ⊢ <;> exact h
  · rw [← v.2 k i hk]
    unfold cntJ
    rw [zup_ot (by omega), zup_ot (by omega), zup_ot (by omega)]
theorem hsU_ok {hs : Nat → Int} {wd : Nat → Nat → Int} {a b c : Int} (ok : hwOk hs wd) (h1 : 0 ≤ a) (h2 : 0 ≤ b) (h3 : 0 ≤ c) (h4 : a + b + c ≤ 200000) : hwOk (hsU hs a b c) wd := by
  refine ⟨?_, ok.2⟩
  have h := ok.1
  unfold hOk at h ⊢
  simp only [hsU]
  simp
  omega
theorem cntJ_37 {J : Nat → Nat → Int} {a b c : Int} {i : Nat} : cntJ J a b c 37 i = J 37 i := by
  unfold cntJ
  rw [zup_ot (by decide), zup_ot (by decide), zup_ot (by decide)]
theorem cntJ_self {J : Nat → Nat → Int} : cntJ J (J 1 10) (J 1 11) (J 1 12) = J := by
  funext x i
  unfold cntJ zup
  by_cases h1 : x = 1
  · subst h1
    by_cases h2 : i = 12
    · subst h2; simp
    · by_cases h3 : i = 11
      · subst h3; simp
      · by_cases h4 : i = 10
        · subst h4; simp
        · simp [h2, h3, h4]
  · simp [h1]
theorem cm_step {B : Nat → Nat → Int} {a b c : Int} {ps : Nat → Int} {wt f : Int} : (if f = 1 then zup (wkJ (cntJ B a b c) 37 ps wt) 1 10 (wkJ (cntJ B a b c) 37 ps wt 1 10 + 1) else if f = 2 then zup (wkJ (cntJ B a b c) 37 ps wt) 1 11 (wkJ (cntJ B a b c) 37 ps wt 1 11 + 1) else if f = 3 then zup (wkJ (cntJ B a b c) 37 ps wt) 1 12 (wkJ (cntJ B a b c) 37 ps wt 1 12 + 1) else wkJ (cntJ B a b c) 37 ps wt) = wkJ (cntJ B (a + if f = 1 then 1 else 0) (b + if f = 2 then 1 else 0) (c + if f = 3 then 1 else 0)) 37 ps wt := by
  have e1 : wkJ (cntJ B a b c) 37 ps wt 1 10 = a := by simp [wkJ, cntJ, zup, upr]
  have e2 : wkJ (cntJ B a b c) 37 ps wt 1 11 = b := by simp [wkJ, cntJ, zup, upr]
  have e3 : wkJ (cntJ B a b c) 37 ps wt 1 12 = c := by simp [wkJ, cntJ, zup, upr]
  rw [e1, e2, e3]
  have key : ∀ (x i : Nat) (j : Nat) (v : Int), (j = 10 ∨ j = 11 ∨ j = 12) → zup (wkJ (cntJ B a b c) 37 ps wt) 1 j v x i = wkJ (cntJ B (if j = 10 then v else a) (if j = 11 then v else b) (if j = 12 then v else c)) 37 ps wt x i := by
    intro x i j v hj
    by_cases h1 : x = 1
    · subst h1
      rcases hj with rfl | rfl | rfl
      · by_cases h2 : i = 10
        · subst h2; simp [wkJ, cntJ, zup, upr]
        · simp [wkJ, cntJ, zup, upr, h2]
      · by_cases h2 : i = 11
        · subst h2; simp [wkJ, cntJ, zup, upr]
        · simp [wkJ, cntJ, zup, upr, h2]
      · by_cases h2 : i = 12
        · subst h2; simp [wkJ, cntJ, zup, upr]
        · simp [wkJ, cntJ, zup, upr, h2]
    · simp [wkJ, cntJ, zup, upr, h1]
  funext x i
  by_cases f1 : f = 1
  · subst f1
    have := key x i 10 (a + 1) (Or.inl rfl)
    simpa using this
  · by_cases f2 : f = 2
    · subst f2
      have := key x i 11 (b + 1) (Or.inr (Or.inl rfl))
      simpa using this
    · by_cases f3 : f = 3
      · subst f3
        have := key x i 12 (c + 1) (Or.inr (Or.inr rfl))
        simpa using this
      · simp [f1, f2, f3]
def cN (hs : Nat → Int) (wd : Nat → Nat → Int) (sb : Nat → Bool) (j : Int) (n : Nat) : Int := zcnt (fun k => decide (fateN hs wd sb (hs 3) true k (pT wd, hs 11) = j)) n
theorem cN_s {hs : Nat → Int} {wd : Nat → Nat → Int} {sb : Nat → Bool} {j : Int} {n : Nat} {f : Int} (h : f = fateN hs wd sb (hs 3) true n (pT wd, hs 11)) : cN hs wd sb j (n + 1) = cN hs wd sb j n + if f = j then 1 else 0 := by
  unfold cN
  rw [zcs, h]
  by_cases q : fateN hs wd sb (hs 3) true n (pT wd, hs 11) = j
  · rw [if_pos q, if_pos (decide_eq_true q)]
  · rw [if_neg q, if_neg (fun z => q (of_decide_eq_true z))]
theorem cN_in (hs : Nat → Int) (wd : Nat → Nat → Int) (sb : Nat → Bool) (n : Nat) : 0 ≤ cN hs wd sb 1 n ∧ 0 ≤ cN hs wd sb 2 n ∧ 0 ≤ cN hs wd sb 3 n ∧ cN hs wd sb 1 n + cN hs wd sb 2 n + cN hs wd sb 3 n ≤ n := by
  induction n with
  | zero => exact ⟨Int.le_refl _, Int.le_refl _, Int.le_refl _, Int.le_refl _⟩
  | succ n ih =>
    rw [cN_s (j := 1) rfl, cN_s (j := 2) rfl, cN_s (j := 3) rfl]
    generalize fateN hs wd sb (hs 3) true n (pT wd, hs 11) = f
    by_cases h1 : f = 1
    · subst h1; simp; omega
    · by_cases h2 : f = 2
      · subst h2; simp; omega
      · by_cases h3 : f = 3
        · subst h3; simp; omega
        · simp [h1, h2, h3]; omega
set_option maxHeartbeats 1000000 in
theorem k_liveU (lo d : Nat) (hd : 4 ≤ d) (B : Nat → Nat → Int) (G : Nat → Nat → Int64) (F : Nat → Nat → Option Nat) (hF : zFk F) {hs : Nat → Int} {wd : Nat → Nat → Int} {ps : Nat → Int} {wt a b c : Int} (vh : vH B hs wd) (ok : hwOk hs wd) (po : pOk wd ps) (h1 : 0 ≤ a) (h2 : 0 ≤ b) (h3 : 0 ≤ c) (h4 : a + b + c ≤ 200000) (e3 : B 37 3 = hs 3) (e4 : B 37 4 = 1) (w1 : 0 ≤ wt) (w2 : wt ≤ 100) : zCt lo yX2_liveDay cX2_liveDay 2 (some .int) d 0 0 [.ref (lo + 37)] 57 57 (zM (wkJ (cntJ B a b c) 37 ps wt)) G F (zD [.int (zI (mfate hs wd (sbC G 1) ps (hs 3) wt))] (wkJ (cntJ B a b c) 37 (dayS hs wd (sbC G 1) (hs 3) true (ps, wt)).1 (dayS hs wd (sbC G 1) (hs 3) true (ps, wt)).2) G F) := by
  have hcf := ok.1
  unfold hOk at hcf
  have e3' : cntJ B a b c 37 3 = hs 3 := cntJ_37.trans e3
  have e4' : cntJ B a b c 37 4 = 1 := cntJ_37.trans e4
  have h := k_live lo d hd (cntJ B a b c) G F hF (Or.inl rfl) (vH_cnt (a := a) (b := b) (c := c) vh) (hsU_ok ok h1 h2 h3 h4) po (by rw [e3']; omega) (by rw [e3']; omega) (Or.inr e4') w1 w2
  rw [e3', e4'] at h
  exact h
def paW (hs : Nat → Int) (wd : Nat → Nat → Int) (sb : Nat → Bool) (n : Nat) (J : Nat → Nat → Int) : Nat → Nat → Int := wkJ (cntJ (bsJ J 37 (hs 3) 1) (hs 8 + cN hs wd sb 1 n) (hs 9 + cN hs wd sb 2 n) (hs 10 + cN hs wd sb 3 n)) 37 (dayN hs wd sb (hs 3) true n (psJ J 37, hs 11)).1 (dayN hs wd sb (hs 3) true n (psJ J 37, hs 11)).2
def paJ (hs : Nat → Int) (wd : Nat → Nat → Int) (sb : Nat → Bool) (n : Nat) (J : Nat → Nat → Int) : Nat → Nat → Int := zup (zup (arW (paW hs wd sb n J) 5) 1 13 (paW hs wd sb n J 37 2)) 1 2 (hs 1 + n)
theorem vH_sv {J J1 : Nat → Nat → Int} {hs : Nat → Int} {wd : Nat → Nat → Int} (hq : ∀ x i, ¬(x = 0 ∧ i = 2) → x ≤ 8 ∨ 37 ≤ x → J1 x i = J x i) (v : vH J hs wd) : vH J1 hs wd := by
  refine ⟨fun j hj => ?_, fun k i hk => ?_⟩
  · rw [← v.1 j hj]
    unfold hsC
    rw [hq _ _ (by omega) (Or.inl (by decide)), hq _ _ (by omega) (Or.inl (by decide))]
  · rw [hq _ _ (by omega) (Or.inl (by omega))]
    exact v.2 k i hk
theorem paE1 {hs : Nat → Int} {wd : Nat → Nat → Int} {sb : Nat → Bool} {n : Nat} {J : Nat → Nat → Int} {v : Int} : zup (arW (paW hs wd sb n J) 5) 1 13 v 1 2 = J 1 2 := by
  simp [zup, arW, paW, wkJ, upr, cntJ, bsJ]
theorem paE2 {hs : Nat → Int} {wd : Nat → Nat → Int} {sb : Nat → Bool} {n : Nat} {J : Nat → Nat → Int} {v x : Int} : zup (zup (arW (paW hs wd sb n J) 5) 1 13 v) 1 2 x 1 10 = hs 8 + cN hs wd sb 1 n := by
  simp [zup, arW, paW, wkJ, upr, cntJ, bsJ]
set_option maxHeartbeats 4000000 in
set_option maxRecDepth 100000 in
theorem k_X4_pass (lo d : Nat) (hd : 6 ≤ d) (J : Nat → Nat → Int) (G : Nat → Nat → Int64) (F : Nat → Nat → Option Nat) (hF : zFk F) {hs : Nat → Int} {wd : Nat → Nat → Int} (vh : vH J hs wd) (ok : hwOk hs wd) {b : Nat → Nat} (hb : bOk F b) (hs1 : 0 ≤ J 0 2) (hs2 : J 0 2 ≤ 4) {u : Int} (hu : zr u) (hday : hs 8 + hs 9 + hs 10 ≤ hs 1) : zCtX lo yX4_pass cX4_pass 4 (some .int) d 1 6 [.ref (lo + 0), .int (zI u)] (zM J) G F (zPI (if u < 1 ∨ 400 < u then 1 else if 100000 - J 1 2 < u then 2 else 0) (fV (cN hs wd (sbC G 1) 1 u.toNat) J G F b (paJ hs wd (sbC G 1) u.toNat) (fun G => G))) (zPX (if u < 1 ∨ 400 < u then 1 else if 100000 - J 1 2 < u then 2 else 0) "java/lang/IllegalArgumentException" "java/lang/IllegalStateException" (zM J) G F) := by
  refine zCtX.mk (by decide) (mv_X4_pass.2.2.2.1) (Nat.le_of_ble_eq_true rfl) ?_
  intro p l e s m args below meth c D cA X Y hx
  have hcf := ok.1
  unfold hOk at hcf
  have hJ12 : J 1 2 = hs 1 := vh.1 1 (by decide)
  unfold zr at hu
  refine zG_iload_n X dX4_pass_0 rfl ?_
  refine zj_iconst X dX4_pass_1 ?_
  refine zj_icmp_lt X dX4_pass_2 (tgt := 12) (by decide) (by first | decide | omega) (by first | decide | omega) (fun h_2 => ?_) (fun h_2 => ?_)
  · exact zG_throwS X Y hx rfl xE_a (by decide) dX4_pass_12 dX4_pass_15 dX4_pass_16 dX4_pass_18 dX4_pass_21 (by show 6 ≤ d; omega) (by show 0 + 82 ≤ 35 * d; omega) (Nat.le_of_ble_eq_true rfl) (Nat.le_of_ble_eq_true rfl) (Nat.le_of_ble_eq_true rfl) (Nat.le_of_ble_eq_true rfl) (⟨Or.inl ⟨if_pos (by omega), rfl⟩, rfl, rfl, rfl⟩)
  · refine zG_iload_n X dX4_pass_5 rfl ?_
    refine zj_sipush X dX4_pass_6 (by decide) ?_
    refine zj_icmp_le X dX4_pass_9 (tgt := 22) (by decide) (by first | decide | omega) (by first | decide | omega) (fun h_9 => ?_) (fun h_9 => ?_)
    · refine zG_iload_n X dX4_pass_22 rfl ?_
      refine zj_ldc (v := 100000) X dX4_pass_23 (List.mem_of_getElem? (i := 592) (by decide +kernel)) ?_
      refine zG_aload_n X dX4_pass_25 rfl ?_
      refine zG_getR X dX4_pass_26 fl_X4_10 (by first | rfl | assumption) (by first | decide | omega) (by decide) rfl (by first | exact zF_at hF rfl rfl | exact zF_at hF1 rfl rfl | assumption) ?_
      refine zj_getv (v := J 1 2) X dX4_pass_29 fl_X4_72 (by first | rfl | assumption) (by first | decide | omega) (by decide) rfl (rfl) ?_
      refine zj_isub X dX4_pass_32 ?_
      refine zj_icmp_le X dX4_pass_33 (tgt := 46) (by decide) (by first | decide | omega) (by first | decide | omega) (fun h_33 => ?_) (fun h_33 => ?_)
      · refine zG_aload_n X dX4_pass_46 rfl ?_
        refine zG_callV (as2 := []) rfl X (k_X4_save lo (d - 1) (by omega) J G F hF hb hs1 hs2) dX4_pass_47 mv_X4_save ml_X4_59 (by first | rfl | assumption) rfl (by first | decide | omega) rfl (by show d - 1 + 1 ≤ d; omega) (by show 19 + 1 + 35 * (d - 1) ≤ 35 * (d); omega) (Nat.le_of_ble_eq_true rfl) (Nat.le_of_ble_eq_true rfl) (Nat.le_of_ble_eq_true rfl) ?_
        rintro v9 I3 G1 F1 ⟨rfl, J1, b1, rfl, hF1, hb1, h41, hsv⟩
        have hq := hsv.2.2.2.1
        have hqg := hsv.2.2.2.2
        have vh1 := vH_sv hq vh
        have vb : vH (bsJ J1 37 (hs 3) 1) hs wd := vH_bs vh1 (Or.inl rfl)
        have pk0 := psJ_ok vh1 ok (w := 37)
        have e3 : bsJ J1 37 (hs 3) 1 37 3 = hs 3 := bsJ_3
        have e4 : bsJ J1 37 (hs 3) 1 37 4 = 1 := bsJ_4
        have hg9 : sbC G1 1 = sbC G 1 := by unfold sbC; rw [hqg 1 9 (Or.inl (by decide))]
        have hJ3 : J1 1 4 = hs 3 := vh1.1 3 (by decide)
        have hJ13 : J1 1 13 = hs 11 := vh1.1 11 (by decide)
        have hJd : J1 1 2 = hs 1 := vh1.1 1 (by decide)
        have hJa : J1 1 10 = hs 8 := vh1.1 8 (by decide)
        have hJb : J1 1 11 = hs 9 := vh1.1 9 (by decide)
        have hJc : J1 1 12 = hs 10 := vh1.1 10 (by decide)
        refine zG_aload_n X dX4_pass_50 rfl ?_
        refine zG_getR X dX4_pass_51 fl_X4_10 (by first | rfl | assumption) (by first | decide | omega) (by decide) rfl (by first | exact zF_at hF rfl rfl | exact zF_at hF1 rfl rfl | assumption) ?_
        refine zj_getv (v := hs 8) X dX4_pass_54 fl_X4_160 (by first | rfl | assumption) (by first | decide | omega) (by decide) rfl (by exact hJa) ?_
        refine zG_istore_n X dX4_pass_57 (by decide) rfl ?_
        refine zG_aload_n X dX4_pass_58 rfl ?_
        refine zG_getR X dX4_pass_59 fl_X4_25 (by first | rfl | assumption) (by first | decide | omega) (by decide) rfl (by first | exact zF_at hF rfl rfl | exact zF_at hF1 rfl rfl | assumption) ?_
        refine zj_callV0 (as2 := []) X (k_X2_startToday lo (d - 1) J1 G1 F1 hF1 (Or.inl rfl)) dX4_pass_62 mv_X2_startToday ml_X4_163 (by first | rfl | assumption) rfl (by first | decide | omega) rfl rfl (by show d - 1 + 1 ≤ d; omega) (by show 19 + 2 + 35 * (d - 1) ≤ 35 * (d); omega) (Nat.le_of_ble_eq_true rfl) (Nat.le_of_ble_eq_true rfl) (Nat.le_of_ble_eq_true rfl) ?_
        rw [stJ_wk, hJ3, hJ13]
        refine zj_iconst X dX4_pass_65 ?_
        refine zG_istore_n X dX4_pass_66 (by decide) rfl ?_
        have loop : ∀ (q k : Nat), k + q = u.toNat → zG p l e { frames := d, cells := 1, slots := 6, locals := 35 * d } s m args below meth c D cA lo 4 0 0 (vx_MQ below (zQ D cA lo 57 (zPI (if u < 1 ∨ 400 < u then 1 else if 100000 - J 1 2 < u then 2 else 0) (fV (cN hs wd (sbC G 1) 1 u.toNat) J G F b (paJ hs wd (sbC G 1) u.toNat) (fun G => G)))) (zXQ D cA lo (zPX (if u < 1 ∨ 400 < u then 1 else if 100000 - J 1 2 < u then 2 else 0) "java/lang/IllegalArgumentException" "java/lang/IllegalStateException" (zM J) G F)) args s 1 6 (fun q => lo ≤ q)) 57 (zM (paW hs wd (sbC G 1) k J1)) G1 F1 [some (.ref (lo + 0)), some (.int (zI u)), some (.int (zI (hs 8))), some (.int (zI (k : Int)))] [] 67 := by
          intro q
          induction q with
          | zero =>
            intro k hk
            have hun : k = u.toNat := by omega
            subst hun
            have hcn := cN_in hs wd (sbC G 1) u.toNat
            refine zG_iload_n X dX4_pass_67 rfl ?_
            refine zG_iload_n X dX4_pass_68 rfl ?_
            refine zj_icmp_ge X dX4_pass_69 (tgt := 92) (by decide) (by first | decide | omega) (by first | decide | omega) (fun h_69 => ?_) (fun h_69 => ?_)
            · refine zG_aload_n X dX4_pass_92 rfl ?_
              refine zG_getR X dX4_pass_93 fl_X4_25 (by first | rfl | assumption) (by first | decide | omega) (by decide) rfl (by first | exact zF_at hF rfl rfl | exact zF_at hF1 rfl rfl | assumption) ?_
              refine zj_callV0 (as2 := []) X (k_X2_arrive lo (d - 1) (paW hs wd (sbC G 1) u.toNat J1) G1 F1 hF1) dX4_pass_96 mv_X2_arrive ml_X4_174 (by first | rfl | assumption) rfl (by first | decide | omega) rfl rfl (by show d - 1 + 1 ≤ d; omega) (by show 19 + 2 + 35 * (d - 1) ≤ 35 * (d); omega) (Nat.le_of_ble_eq_true rfl) (Nat.le_of_ble_eq_true rfl) (Nat.le_of_ble_eq_true rfl) ?_
              refine zG_aload_n X dX4_pass_99 rfl ?_
              refine zG_getR X dX4_pass_100 fl_X4_10 (by first | rfl | assumption) (by first | decide | omega) (by decide) rfl (by first | exact zF_at hF rfl rfl | exact zF_at hF1 rfl rfl | assumption) ?_
              refine zG_dup X dX4_pass_103 rfl ?_
              refine zj_getv (v := hs 1) X dX4_pass_104 fl_X4_72 (by first | rfl | assumption) (by first | decide | omega) (by decide) rfl (by exact paE1.trans hJd) ?_
              refine zG_iload_n X dX4_pass_107 rfl ?_
              refine zj_iadd X dX4_pass_108 ?_
              refine zj_put X dX4_pass_109 fl_X4_72 (by first | rfl | assumption) (by first | decide | omega) (by decide) rfl rfl ?_
              refine zG_aload_n X dX4_pass_112 rfl ?_
              refine zG_getR X dX4_pass_113 fl_X4_10 (by first | rfl | assumption) (by first | decide | omega) (by decide) rfl (by first | exact zF_at hF rfl rfl | exact zF_at hF1 rfl rfl | assumption) ?_
              refine zj_getv (v := hs 8 + cN hs wd (sbC G 1) 1 u.toNat) X dX4_pass_116 fl_X4_160 (by first | rfl | assumption) (by first | decide | omega) (by decide) rfl (by exact paE2) ?_
              refine zG_iload_n X dX4_pass_119 rfl ?_
              refine zj_isub X dX4_pass_120 ?_
              refine zG_iretX X dX4_pass_121 rfl (Nat.le_of_ble_eq_true rfl) (Nat.le_of_ble_eq_true rfl) ?_
              have hun : ((u.toNat : Nat) : Int) = u := by omega
              exact ⟨(if_neg (by omega)).trans (if_neg (by omega)), _, _, rfl, rfl, (by omega), J1, G1, b1, (by unfold paJ; rw [hun]), rfl, hF1, hb1, h41, hsv⟩
            · exact absurd h_69 (by first | decide | omega)
          | succ q ih =>
            intro k hk
            have hcn := cN_in hs wd (sbC G 1) k
            have hdn := dayN_ok (sb := sbC G 1) (lag := hs 3) (sk := true) (r := (psJ J1 37, hs 11)) ok pk0 ⟨by omega, by omega⟩ k
            have hfi := mfate_in (hs := hs) (wd := wd) (sb := sbC G 1) (ps := (dayN hs wd (sbC G 1) (hs 3) true k (psJ J1 37, hs 11)).1) (lag := hs 3) (wt := (dayN hs wd (sbC G 1) (hs 3) true k (psJ J1 37, hs 11)).2)
            have hfe : mfate hs wd (sbC G 1) (dayN hs wd (sbC G 1) (hs 3) true k (psJ J1 37, hs 11)).1 (hs 3) (dayN hs wd (sbC G 1) (hs 3) true k (psJ J1 37, hs 11)).2 = fateN hs wd (sbC G 1) (hs 3) true k (pT wd, hs 11) := fateN_c5 ok (psJ_5 vh1) k
            refine zG_iload_n X dX4_pass_67 rfl ?_
            refine zG_iload_n X dX4_pass_68 rfl ?_
            refine zj_icmp_ge X dX4_pass_69 (tgt := 92) (by decide) (by first | decide | omega) (by first | decide | omega) (fun h_69 => ?_) (fun h_69 => ?_)
            · exact absurd h_69 (by first | decide | omega)
            · refine zG_aload_n X dX4_pass_72 rfl ?_
              refine zG_getR X dX4_pass_73 fl_X4_10 (by first | rfl | assumption) (by first | decide | omega) (by decide) rfl (by first | exact zF_at hF rfl rfl | exact zF_at hF1 rfl rfl | assumption) ?_
              refine zG_aload_n X dX4_pass_76 rfl ?_
              refine zG_getR X dX4_pass_77 fl_X4_25 (by first | rfl | assumption) (by first | decide | omega) (by decide) rfl (by first | exact zF_at hF rfl rfl | exact zF_at hF1 rfl rfl | assumption) ?_
              refine zj_callV1 (as2 := []) X (by have h7 := k_liveU lo (d - 1) (by omega) (bsJ J1 37 (hs 3) 1) G1 F1 hF1 vb ok hdn.1 (a := hs 8 + cN hs wd (sbC G 1) 1 k) (b := hs 9 + cN hs wd (sbC G 1) 2 k) (c := hs 10 + cN hs wd (sbC G 1) 3 k) (by omega) (by omega) (by omega) (by omega) e3 e4 hdn.2.1 hdn.2.2; rw [hg9] at h7; exact h7) dX4_pass_80 mv_X2_liveDay ml_X4_166 (by first | rfl | assumption) rfl (by first | decide | omega) rfl rfl (by show d - 1 + 1 ≤ d; omega) (by show 19 + 2 + 35 * (d - 1) ≤ 35 * (d); omega) (Nat.le_of_ble_eq_true rfl) (Nat.le_of_ble_eq_true rfl) (Nat.le_of_ble_eq_true rfl) ?_
              refine zj_callV0 (as2 := [_]) X (k_X0_countMarket lo (d - 1) _ G1 F1 (by unfold zr; omega)) dX4_pass_83 mv_X0_countMarket ml_X4_170 (by first | rfl | assumption) rfl (by first | decide | omega) rfl rfl (by show d - 1 + 1 ≤ d; omega) (by show 19 + 2 + 35 * (d - 1) ≤ 35 * (d); omega) (Nat.le_of_ble_eq_true rfl) (Nat.le_of_ble_eq_true rfl) (Nat.le_of_ble_eq_true rfl) ?_
              rw [cm_step]
              refine zj_iinc X dX4_pass_86 rfl (by decide) rfl ?_
              refine zG_goto X dX4_pass_89 (tgt := 67) (by decide) ?_
              have hi := ih (k + 1) (by omega)
              unfold paW at hi
              rw [cN_s (j := 1) hfe, cN_s (j := 2) hfe, cN_s (j := 3) hfe, ← Int.add_assoc, ← Int.add_assoc, ← Int.add_assoc] at hi
              exact hi
        have h0 := loop u.toNat 0 (by omega)
        have hE : paW hs wd (sbC G 1) 0 J1 = wkJ (bsJ J1 37 (hs 3) 1) 37 (psJ J1 37) (hs 11) := by
          unfold paW
          rw [show cN hs wd (sbC G 1) 1 0 = 0 from rfl, show cN hs wd (sbC G 1) 2 0 = 0 from rfl, show cN hs wd (sbC G 1) 3 0 = 0 from rfl, Int.add_zero, Int.add_zero, Int.add_zero, ← hJa, ← hJb, ← hJc]
          exact congrArg (fun B => wkJ B 37 (psJ J1 37) (hs 11)) (cntJ_self (J := bsJ J1 37 (hs 3) 1))
        rw [hE] at h0
        exact h0
      · exact zG_throwS X Y hx rfl xE_s (by decide) dX4_pass_36 dX4_pass_39 dX4_pass_40 dX4_pass_42 dX4_pass_45 (by show 6 ≤ d; omega) (by show 0 + 82 ≤ 35 * d; omega) (Nat.le_of_ble_eq_true rfl) (Nat.le_of_ble_eq_true rfl) (Nat.le_of_ble_eq_true rfl) (Nat.le_of_ble_eq_true rfl) (⟨Or.inr ⟨(if_neg (by omega)).trans (if_pos (by omega)), rfl⟩, rfl, rfl, rfl⟩)
    · exact zG_throwS X Y hx rfl xE_a (by decide) dX4_pass_12 dX4_pass_15 dX4_pass_16 dX4_pass_18 dX4_pass_21 (by show 6 ≤ d; omega) (by show 0 + 82 ≤ 35 * d; omega) (Nat.le_of_ble_eq_true rfl) (Nat.le_of_ble_eq_true rfl) (Nat.le_of_ble_eq_true rfl) (Nat.le_of_ble_eq_true rfl) (⟨Or.inl ⟨if_pos (by omega), rfl⟩, rfl, rfl, rfl⟩)
