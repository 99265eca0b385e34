/-! the Model: errors -/
theorem kb_gen {K : Nat → Nat → Int} {row : Nat → Int} (h53 : ∀ i, i < 108 → K 53 i = K 51 i) (h : ∀ i, 108 ≤ i → row i = K 51 i) : upr (upr K 51 row) 51 (cpR (upr K 51 row 51) (upr K 51 row 53) 108) = K := by
  rw [upr_upr]
  have e : cpR (upr K 51 row 51) (upr K 51 row 53) 108 = K 51 := by
    funext i
    unfold cpR
    by_cases hi : i < 108
    · rw [if_pos hi, upr_ne (by decide)]
      exact h53 i hi
    · rw [if_neg hi, upr_eq]
      exact h i (by omega)
  rw [e, upr_self]
def heR (hs : Nat → Int) (wd : Nat → Nat → Int) (sb : Nat → Bool) (r : Nat → Int) (k : Nat) : Nat → Int := fun i => if i < k then (if fateN hs wd sb (hs 3) true i (pT wd, hs 11) = 1 then 1 else 0) else r i
theorem he_s {K : Nat → Nat → Int} {hs : Nat → Int} {wd : Nat → Nat → Int} {sb : Nat → Bool} {r row : Nat → Int} {k : Nat} {v : Int} (hv : v = if fateN hs wd sb (hs 3) true k (pT wd, hs 11) = 1 then 1 else 0) : zup (upr (upr K 55 (heR hs wd sb r k)) 51 row) 55 k v = upr (upr K 55 (heR hs wd sb r (k + 1))) 51 row := by
  subst hv
  funext x i
  by_cases hx : x = 55
  · subst hx
    by_cases hi : i = k
    · subst hi
      simp [zup, upr, heR]
    · have e : (i < k) = (i < k + 1) := by apply propext; omega
      simp [zup, upr, heR, hi, e]
  · simp [zup, upr, hx]
theorem he_0 {hs : Nat → Int} {wd : Nat → Nat → Int} {sb : Nat → Bool} {r : Nat → Int} : heR hs wd sb r 0 = r := funext fun i => if_neg (Nat.not_lt_zero i)
def erR (r : Nat → Int) (k : Nat) : Nat → Int := fun i => if i = 1 then r 12 else if i = 11 then 0 else if i % 7 = 0 ∧ 14 ≤ i ∧ i < 14 + 7 * k then r (i + 5) else if i % 7 = 2 ∧ 16 ≤ i ∧ i < 16 + 7 * k then -1 else r i
theorem er_s {K : Nat → Nat → Int} {r : Nat → Int} {k : Nat} : zup (zup (upr K 51 (erR r k)) 51 (13 + 7 * k + 1) (r (13 + 7 * k + 6))) 51 (13 + 7 * k + 3) (-1) = upr K 51 (erR r (k + 1)) := by
  rw [zup_upr, zup_upr]
  refine upr_congr (fun i => ?_)
  unfold erR
  by_cases h1 : i = 13 + 7 * k + 3
  · rw [if_pos h1, if_neg (by omega), if_neg (by omega), if_neg (by omega), if_pos (by omega)]
  · rw [if_neg h1]
    by_cases h2 : i = 13 + 7 * k + 1
    · rw [if_pos h2, if_neg (by omega), if_neg (by omega), if_pos (by omega)]
      exact congrArg r (by omega)
    · rw [if_neg h2]
      by_cases h3 : i = 1
      · rw [if_pos h3, if_pos h3]
      · rw [if_neg h3, if_neg h3]
        by_cases h4 : i = 11
        · rw [if_pos h4, if_pos h4]
        · rw [if_neg h4, if_neg h4]
          by_cases h5 : i % 7 = 0 ∧ 14 ≤ i ∧ i < 14 + 7 * k
          · rw [if_pos h5, if_pos (by omega)]
          · rw [if_neg h5, if_neg (show ¬ (i % 7 = 0 ∧ 14 ≤ i ∧ i < 14 + 7 * (k + 1)) by omega)]
            by_cases h6 : i % 7 = 2 ∧ 16 ≤ i ∧ i < 16 + 7 * k
            · rw [if_pos h6, if_pos (by omega)]
            · rw [if_neg h6, if_neg (by omega)]
theorem erR_o {r : Nat → Int} {k i : Nat} (h1 : i ≠ 1) (h2 : i ≠ 11) (h3 : ¬ (i % 7 = 0 ∧ 14 ≤ i ∧ i < 14 + 7 * k)) (h4 : ¬ (i % 7 = 2 ∧ 16 ≤ i ∧ i < 16 + 7 * k)) : erR r k i = r i := by
  unfold erR
  rw [if_neg h1, if_neg h2, if_neg h3, if_neg h4]
def q6 (wd : Nat → Nat → Int) : Nat → Int := fun k => wd k 6
theorem mV_er {r hs : Nat → Int} {wd : Nat → Nat → Int} {sb : Nat → Bool} (h : mH r hs wd sb) (hc : (hs 0).toNat ≤ 5) : mV (erR r (hs 0).toNat) hs wd sb (q6 wd) (hs 3) 0 false := by
  refine ⟨?_, fun k hk => ?_, fun t ht => ?_⟩
  · rw [erR_o (by omega) (by omega) (by omega) (by omega), erR_o (by omega) (by omega) (by omega) (by omega), erR_o (by omega) (by omega) (by omega) (by omega), erR_o (by omega) (by omega) (by omega) (by omega), erR_o (by omega) (by omega) (by omega) (by omega), erR_o (by omega) (by omega) (by omega) (by omega), erR_o (by omega) (by omega) (by omega) (by omega)]
    exact ⟨h.1 0 (by decide), h.1 2 (by decide), h.1 3 (by decide), h.1 4 (by decide), h.1 5 (by decide), h.1 6 (by decide), h.1 7 (by decide), rfl⟩
  · have q := h.2.1 k hk
    rw [erR_o (i := 13 + 7 * k + 0) (by omega) (by omega) (by omega) (by omega)]
    refine ⟨q 0 (by decide), ?_, Or.inr ⟨rfl, ?_⟩⟩
    · unfold erR
      rw [if_neg (by omega), if_neg (by omega), if_pos (by omega)]
      exact q 6 (by decide)
    · unfold erR
      rw [if_neg (by omega), if_neg (by omega), if_neg (by omega), if_pos (by omega)]
  · rw [erR_o (by omega) (by omega) (by omega) (by omega)]
    exact h.2.2 t ht
theorem psN_1 {hs : Nat → Int} {wd : Nat → Nat → Int} {sb : Nat → Bool} {lag : Int} {sk : Bool} {r p : Nat → Int} {wt : Int} : ∀ n : Nat, psN hs wd sb lag sk r p wt n 1 = r 1 + n
  | 0 => by rw [psN_0]; omega
  | n + 1 => by
    rw [psN_s]
    show cnR (psN hs wd sb lag sk r p wt n) _ 1 + 1 = _
    show psN hs wd sb lag sk r p wt n 1 + 1 = _
    rw [psN_1 n]
    omega
def erM (hs : Nat → Int) (wd : Nat → Nat → Int) (sb : Nat → Bool) (k : Nat) : Bool := decide (¬ (fateN hs wd sb (hs 3) true k (pT wd, hs 11) = 1 ↔ fateN hs wd sb (hs 3) false ((hs 1 - hs 12).toNat + k) (q6 wd, 0) = 1))
theorem q6_ok {hs : Nat → Int} {wd : Nat → Nat → Int} (ok : hwOk hs wd) : pOk wd (q6 wd) := fun k hk => by
  have := hwOk_w ok hk
  show 0 ≤ wd k 6 ∧ wd k 6 < wd k 0
  omega
set_option maxHeartbeats 4000000 in
set_option maxRecDepth 100000 in
theorem k_X5_errors (lo d : Nat) (hd : 6 ≤ d) (J : Nat → Nat → Int) (G : Nat → Nat → Int64) (F : Nat → Nat → Option Nat) (hF : zFk F) {hs : Nat → Int} {wd : Nat → Nat → Int} {sb : Nat → Bool} (mh : mH (J 51) hs wd sb) (ok : hwOk hs wd) (hpd : hs 12 ≤ hs 1) {u : Int} (hu : zr u) : zCt lo yX5_errors cX5_errors 5 (some .int) d 0 0 [.ref (lo + 50), .int (zI u)] 57 57 (zM J) G F (zMR (if u < 1 ∨ 1000 < u then 1 else 0) (zcnt (erM hs wd sb) u.toNat) J J G F) := by
  refine zCt.mk (by decide) (mv_X5_errors.2.2.2.1) (Nat.le_of_ble_eq_true rfl) ?_
  intro p l e s m args below meth c D cA X
  have hok := ok.1
  unfold hOk at hok
  have hc5 : (hs 0).toNat ≤ 5 := by omega
  have e0 := mh.1 0 (by decide)
  have po := pT_ok ok
  have vm := mV_H mh
  by_cases hb : 1 ≤ u ∧ u ≤ 1000
  · have hK51 : ∀ i, (upr (kpJ (zup J 50 4 0)) 55 (heR hs wd sb (J 55) u.toNat)) 51 i = J 51 i := fun i => (upr_ne (by decide)).trans ((congrFun kp51 i).trans z51)
    have hKU : ∀ i, i < 108 → (upr (kpJ (zup J 50 4 0)) 55 (heR hs wd sb (J 55) u.toNat)) 53 i = (upr (kpJ (zup J 50 4 0)) 55 (heR hs wd sb (J 55) u.toNat)) 51 i := fun i hi => ((upr_ne (by decide)).trans (upr_eq.trans (if_pos hi))).trans ((z51.trans (hK51 i).symm))
    have loop4 : ∀ (q k : Nat), k + q = u.toNat → zG p l e { frames := d, cells := 0, slots := 0, locals := 35 * d } s m args below meth c D cA lo 5 0 0 (MQ below (zQ D cA lo 57 (zMR (if u < 1 ∨ 1000 < u then 1 else 0) (zcnt (erM hs wd sb) u.toNat) J J G F)) args s 0 0 (fun q => lo ≤ q)) 57 (zM (upr (upr (kpJ (zup J 50 4 0)) 55 (heR hs wd sb (J 55) u.toNat)) 51 (psN hs wd sb (hs 3) false (erR (J 51) (hs 0).toNat) (q6 wd) 0 ((hs 1 - hs 12).toNat + k)))) G F [some (.ref (lo + 50)), some (.int (zI u)), none, some (.int (zI (zcnt (erM hs wd sb) k))), some (.int (zI (k : Int)))] [] 164 := by
      intro q
      induction q with
      | zero =>
        intro k  hk
        obtain rfl : k = u.toNat := by omega
        have hkb4 := kb_gen (K := (upr (kpJ (zup J 50 4 0)) 55 (heR hs wd sb (J 55) u.toNat))) (row := psN hs wd sb (hs 3) false (erR (J 51) (hs 0).toNat) (q6 wd) 0 ((hs 1 - hs 12).toNat + u.toNat)) hKU (fun y hy => by
          rw [psN_hi hc5 (by omega) (by omega), erR_o (by omega) (by omega) (by omega) (by omega)]
          exact (hK51 y).symm)
        refine zG_iload X dX5_errors_164 rfl ?_
        refine zG_iload_n X dX5_errors_166 rfl ?_
        refine zj_icmp_ge X dX5_errors_167 (tgt := 207) (by decide) (by first | decide | omega) (by first | decide | omega) (fun h_167 => ?_) (fun h_167 => ?_)
        · refine zG_aload_n X dX5_errors_207 rfl ?_
          refine zj_callV0 (as2 := []) X (k_X5_takesBack lo (d - 1) (upr (upr (kpJ (zup J 50 4 0)) 55 (heR hs wd sb (J 55) u.toNat)) 51 (psN hs wd sb (hs 3) false (erR (J 51) (hs 0).toNat) (q6 wd) 0 ((hs 1 - hs 12).toNat + u.toNat))) G F hF) dX5_errors_208 mv_X5_takesBack ml_X5_111 (by first | rfl | assumption) rfl (by first | decide | omega) rfl rfl (by show d - 1 + 1 ≤ d; omega) (by show 19 + 2 + 35 * (d - 1) ≤ 35 * (d); omega) (Nat.le_of_ble_eq_true rfl) (Nat.le_of_ble_eq_true rfl) (Nat.le_of_ble_eq_true rfl) ?_
          rw [hkb4]
          refine zG_iload_n X dX5_errors_211 rfl ?_
          refine zG_iret X dX5_errors_212 rfl ?_
          exact zMR.lk (if_neg (by omega)) rfl (fun x y a b c => (upr_ne b).trans (upr_ne a)) ((upr_ne (by decide)).trans (upr_ne (by decide)))
        · exact absurd h_167 (by first | decide | omega)
      | succ q ih =>
        intro k  hk
        have hN := mV_N (mV_er mh hc5) hc5 ((hs 1 - hs 12).toNat + k)
        have hD := dayN_ok (sb := sb) (lag := hs 3) (sk := false) (r := (q6 wd, 0)) ok (q6_ok ok) ⟨by omega, by omega⟩ ((hs 1 - hs 12).toNat + k)
        have hfi := mfate_in (hs := hs) (wd := wd) (sb := sb) (ps := (dayN hs wd sb (hs 3) false ((hs 1 - hs 12).toNat + k) (q6 wd, 0)).1) (lag := hs 3) (wt := (dayN hs wd sb (hs 3) false ((hs 1 - hs 12).toNat + k) (q6 wd, 0)).2)
        have hps := k_X5_passes lo (d - 1) (by omega) (upr (upr (kpJ (zup J 50 4 0)) 55 (heR hs wd sb (J 55) u.toNat)) 51 (psN hs wd sb (hs 3) false (erR (J 51) (hs 0).toNat) (q6 wd) 0 ((hs 1 - hs 12).toNat + k))) G F hF (ps := (dayN hs wd sb (hs 3) false ((hs 1 - hs 12).toNat + k) (q6 wd, 0)).1) (lag := hs 3) (wt := (dayN hs wd sb (hs 3) false ((hs 1 - hs 12).toNat + k) (q6 wd, 0)).2) (sk := false) (by rw [show (upr (upr (kpJ (zup J 50 4 0)) 55 (heR hs wd sb (J 55) u.toNat)) 51 (psN hs wd sb (hs 3) false (erR (J 51) (hs 0).toNat) (q6 wd) 0 ((hs 1 - hs 12).toNat + k))) 51 = psN hs wd sb (hs 3) false (erR (J 51) (hs 0).toNat) (q6 wd) 0 ((hs 1 - hs 12).toNat + k) from funext (fun i => upr_eq)]; exact hN) ok hD.1 (by omega) (by omega) hD.2.1 (by omega)
        rw [show (upr (upr (kpJ (zup J 50 4 0)) 55 (heR hs wd sb (J 55) u.toNat)) 51 (psN hs wd sb (hs 3) false (erR (J 51) (hs 0).toNat) (q6 wd) 0 ((hs 1 - hs 12).toNat + k))) 51 = psN hs wd sb (hs 3) false (erR (J 51) (hs 0).toNat) (q6 wd) 0 ((hs 1 - hs 12).toNat + k) from funext (fun i => upr_eq), upr_upr] at hps
        have hfe : mfate hs wd sb (dayN hs wd sb (hs 3) false ((hs 1 - hs 12).toNat + k) (q6 wd, 0)).1 (hs 3) (dayN hs wd sb (hs 3) false ((hs 1 - hs 12).toNat + k) (q6 wd, 0)).2 = fateN hs wd sb (hs 3) false ((hs 1 - hs 12).toNat + k) (q6 wd, 0) := rfl
        have hz := zcs (erM hs wd sb) k
        have hem : erM hs wd sb k = true ↔ ¬ (fateN hs wd sb (hs 3) true k (pT wd, hs 11) = 1 ↔ fateN hs wd sb (hs 3) false ((hs 1 - hs 12).toNat + k) (q6 wd, 0) = 1) := by
          unfold erM
          rw [decide_eq_true_iff]
        have hh : ∀ row : Nat → Int, upr (upr (kpJ (zup J 50 4 0)) 55 (heR hs wd sb (J 55) u.toNat)) 51 row 55 k = if fateN hs wd sb (hs 3) true k (pT wd, hs 11) = 1 then 1 else 0 := fun row => (upr_ne (by decide)).trans (upr_eq.trans (if_pos (by omega)))
        refine zG_iload X dX5_errors_164 rfl ?_
        refine zG_iload_n X dX5_errors_166 rfl ?_
        refine zj_icmp_ge X dX5_errors_167 (tgt := 207) (by decide) (by first | decide | omega) (by first | decide | omega) (fun h_167 => ?_) (fun h_167 => ?_)
        · exact absurd h_167 (by first | decide | omega)
        · refine zG_iload_n X dX5_errors_170 rfl ?_
          refine zG_aload_n X dX5_errors_171 rfl ?_
          refine zj_callV1 (as2 := []) X (hps) dX5_errors_172 mv_X5_passes ml_X5_92 (by first | rfl | assumption) rfl (by first | decide | omega) rfl rfl (by show d - 1 + 1 ≤ d; omega) (by show 19 + 2 + 35 * (d - 1) ≤ 35 * (d); omega) (Nat.le_of_ble_eq_true rfl) (Nat.le_of_ble_eq_true rfl) (Nat.le_of_ble_eq_true rfl) ?_
          refine zj_iconst X dX5_errors_175 ?_
          refine zj_icmp_ne X dX5_errors_176 (tgt := 183) (by decide) (by first | decide | omega) (by first | decide | omega) (fun h_176 => ?_) (fun h_176 => ?_)
          · refine zj_iconst X dX5_errors_183 ?_
            refine zG_aload_n X dX5_errors_184 rfl ?_
            refine zG_getR X dX5_errors_185 fl_X5_22 (by first | rfl | assumption) (by first | decide | omega) (by decide) rfl (by first | exact zF_at hF rfl rfl | assumption) ?_
            refine zG_iload X dX5_errors_188 rfl ?_
            refine zj_zaload X dX5_errors_190 (by first | rfl | assumption) (by first | decide | omega) k (by omega) (by omega) ?_
            rw [hh]
            by_cases hb4 : fateN hs wd sb (hs 3) true k (pT wd, hs 11) = 1
            · rw [if_pos hb4]
              refine zj_icmp_eq X dX5_errors_191 (tgt := 198) (by decide) (by first | decide | omega) (by first | decide | omega) (fun h_191 => ?_) (fun h_191 => ?_)
              · exact absurd h_191 (by first | decide | omega)
              · refine zj_iconst X dX5_errors_194 ?_
                refine zG_goto X dX5_errors_195 (tgt := 199) (by decide) ?_
                refine zj_iadd X dX5_errors_199 ?_
                refine zG_istore_n X dX5_errors_200 (by decide) rfl ?_
                refine zj_iinc X dX5_errors_201 rfl (by decide) rfl ?_
                refine zG_goto X dX5_errors_204 (tgt := 164) (by decide) ?_
                have hi := ih (k + 1) (by omega)
                first
                  | (rw [zcs1 (erM hs wd sb) k (hem.mpr (by omega))] at hi; exact hi)
                  | (rw [zcs0 (erM hs wd sb) k (fun z => by have := hem.mp z; omega)] at hi; exact hi)
            · rw [if_neg hb4]
              refine zj_icmp_eq X dX5_errors_191 (tgt := 198) (by decide) (by first | decide | omega) (by first | decide | omega) (fun h_191 => ?_) (fun h_191 => ?_)
              · refine zj_iconst X dX5_errors_198 ?_
                refine zj_iadd X dX5_errors_199 ?_
                refine zG_istore_n X dX5_errors_200 (by decide) rfl ?_
                refine zj_iinc X dX5_errors_201 rfl (by decide) rfl ?_
                refine zG_goto X dX5_errors_204 (tgt := 164) (by decide) ?_
                have hi := ih (k + 1) (by omega)
                first
                  | (rw [zcs1 (erM hs wd sb) k (hem.mpr (by omega))] at hi; exact hi)
                  | (rw [zcs0 (erM hs wd sb) k (fun z => by have := hem.mp z; omega)] at hi; exact hi)
              · exact absurd h_191 (by first | decide | omega)
          · refine zj_iconst X dX5_errors_179 ?_
            refine zG_goto X dX5_errors_180 (tgt := 184) (by decide) ?_
            refine zG_aload_n X dX5_errors_184 rfl ?_
            refine zG_getR X dX5_errors_185 fl_X5_22 (by first | rfl | assumption) (by first | decide | omega) (by decide) rfl (by first | exact zF_at hF rfl rfl | assumption) ?_
            refine zG_iload X dX5_errors_188 rfl ?_
            refine zj_zaload X dX5_errors_190 (by first | rfl | assumption) (by first | decide | omega) k (by omega) (by omega) ?_
            rw [hh]
            by_cases hb4 : fateN hs wd sb (hs 3) true k (pT wd, hs 11) = 1
            · rw [if_pos hb4]
              refine zj_icmp_eq X dX5_errors_191 (tgt := 198) (by decide) (by first | decide | omega) (by first | decide | omega) (fun h_191 => ?_) (fun h_191 => ?_)
              · refine zj_iconst X dX5_errors_198 ?_
                refine zj_iadd X dX5_errors_199 ?_
                refine zG_istore_n X dX5_errors_200 (by decide) rfl ?_
                refine zj_iinc X dX5_errors_201 rfl (by decide) rfl ?_
                refine zG_goto X dX5_errors_204 (tgt := 164) (by decide) ?_
                have hi := ih (k + 1) (by omega)
                first
                  | (rw [zcs1 (erM hs wd sb) k (hem.mpr (by omega))] at hi; exact hi)
                  | (rw [zcs0 (erM hs wd sb) k (fun z => by have := hem.mp z; omega)] at hi; exact hi)
              · exact absurd h_191 (by first | decide | omega)
            · rw [if_neg hb4]
              refine zj_icmp_eq X dX5_errors_191 (tgt := 198) (by decide) (by first | decide | omega) (by first | decide | omega) (fun h_191 => ?_) (fun h_191 => ?_)
              · exact absurd h_191 (by first | decide | omega)
              · refine zj_iconst X dX5_errors_194 ?_
                refine zG_goto X dX5_errors_195 (tgt := 199) (by decide) ?_
                refine zj_iadd X dX5_errors_199 ?_
                refine zG_istore_n X dX5_errors_200 (by decide) rfl ?_
                refine zj_iinc X dX5_errors_201 rfl (by decide) rfl ?_
                refine zG_goto X dX5_errors_204 (tgt := 164) (by decide) ?_
                have hi := ih (k + 1) (by omega)
                first
                  | (rw [zcs1 (erM hs wd sb) k (hem.mpr (by omega))] at hi; exact hi)
                  | (rw [zcs0 (erM hs wd sb) k (fun z => by have := hem.mp z; omega)] at hi; exact hi)
    have loop3 : ∀ (q k : Nat), k + q = (hs 1 - hs 12).toNat → zG p l e { frames := d, cells := 0, slots := 0, locals := 35 * d } s m args below meth c D cA lo 5 0 0 (MQ below (zQ D cA lo 57 (zMR (if u < 1 ∨ 1000 < u then 1 else 0) (zcnt (erM hs wd sb) u.toNat) J J G F)) args s 0 0 (fun q => lo ≤ q)) 57 (zM (upr (upr (kpJ (zup J 50 4 0)) 55 (heR hs wd sb (J 55) u.toNat)) 51 (psN hs wd sb (hs 3) false (erR (J 51) (hs 0).toNat) (q6 wd) 0 k))) G F [some (.ref (lo + 50)), some (.int (zI u)), some (.int (zI (hs 1))), none, none] [] 141 := by
      intro q
      induction q with
      | zero =>
        intro k  hk
        obtain rfl : k = (hs 1 - hs 12).toNat := by omega
        refine zG_aload_n X dX5_errors_141 rfl ?_
        refine zG_getR X dX5_errors_142 fl_X5_7 (by first | rfl | assumption) (by first | decide | omega) (by decide) rfl (by first | exact zF_at hF rfl rfl | assumption) ?_
        refine zj_iconst X dX5_errors_145 ?_
        refine zj_ialoadv (v := hs 12 + (((hs 1 - hs 12).toNat : Nat) : Int)) X dX5_errors_146 (by first | rfl | assumption) (by first | decide | omega) (1) (by decide) (by decide) (by exact upr_eq.trans ((psN_1 _).trans (by rw [show (erR (J 51) (hs 0).toNat) 1 = J 51 12 from rfl, mh.1 12 (by decide)]))) ?_
        refine zG_iload_n X dX5_errors_147 rfl ?_
        refine zj_icmp_ge X dX5_errors_148 (tgt := 159) (by decide) (by first | decide | omega) (by first | decide | omega) (fun h_148 => ?_) (fun h_148 => ?_)
        · refine zj_iconst X dX5_errors_159 ?_
          refine zG_istore_n X dX5_errors_160 (by decide) rfl ?_
          refine zj_iconst X dX5_errors_161 ?_
          refine zG_istore X dX5_errors_162 (by decide) rfl ?_
          have h0 := loop4 u.toNat 0 (by omega)
          rw [Nat.add_zero] at h0
          exact zG_sub (zle_some (zle_some (zle_none (zle_some (zle_some zle_nil))))) h0
        · exact absurd h_148 (by first | decide | omega)
      | succ q ih =>
        intro k  hk
        have hN := mV_N (mV_er mh hc5) hc5 k
        have hD := dayN_ok (sb := sb) (lag := hs 3) (sk := false) (r := (q6 wd, 0)) ok (q6_ok ok) ⟨by omega, by omega⟩ k
        have hfi := mfate_in (hs := hs) (wd := wd) (sb := sb) (ps := (dayN hs wd sb (hs 3) false k (q6 wd, 0)).1) (lag := hs 3) (wt := (dayN hs wd sb (hs 3) false k (q6 wd, 0)).2)
        have hps := k_X5_passes lo (d - 1) (by omega) (upr (upr (kpJ (zup J 50 4 0)) 55 (heR hs wd sb (J 55) u.toNat)) 51 (psN hs wd sb (hs 3) false (erR (J 51) (hs 0).toNat) (q6 wd) 0 k)) G F hF (ps := (dayN hs wd sb (hs 3) false k (q6 wd, 0)).1) (lag := hs 3) (wt := (dayN hs wd sb (hs 3) false k (q6 wd, 0)).2) (sk := false) (by rw [show (upr (upr (kpJ (zup J 50 4 0)) 55 (heR hs wd sb (J 55) u.toNat)) 51 (psN hs wd sb (hs 3) false (erR (J 51) (hs 0).toNat) (q6 wd) 0 k)) 51 = psN hs wd sb (hs 3) false (erR (J 51) (hs 0).toNat) (q6 wd) 0 k from funext (fun i => upr_eq)]; exact hN) ok hD.1 (by omega) (by omega) hD.2.1 (by omega)
        rw [show (upr (upr (kpJ (zup J 50 4 0)) 55 (heR hs wd sb (J 55) u.toNat)) 51 (psN hs wd sb (hs 3) false (erR (J 51) (hs 0).toNat) (q6 wd) 0 k)) 51 = psN hs wd sb (hs 3) false (erR (J 51) (hs 0).toNat) (q6 wd) 0 k from funext (fun i => upr_eq), upr_upr] at hps
        have hfe : mfate hs wd sb (dayN hs wd sb (hs 3) false k (q6 wd, 0)).1 (hs 3) (dayN hs wd sb (hs 3) false k (q6 wd, 0)).2 = fateN hs wd sb (hs 3) false k (q6 wd, 0) := rfl
        refine zG_aload_n X dX5_errors_141 rfl ?_
        refine zG_getR X dX5_errors_142 fl_X5_7 (by first | rfl | assumption) (by first | decide | omega) (by decide) rfl (by first | exact zF_at hF rfl rfl | assumption) ?_
        refine zj_iconst X dX5_errors_145 ?_
        refine zj_ialoadv (v := hs 12 + (k : Int)) X dX5_errors_146 (by first | rfl | assumption) (by first | decide | omega) (1) (by decide) (by decide) (by exact upr_eq.trans ((psN_1 k).trans (by rw [show (erR (J 51) (hs 0).toNat) 1 = J 51 12 from rfl, mh.1 12 (by decide)]))) ?_
        refine zG_iload_n X dX5_errors_147 rfl ?_
        refine zj_icmp_ge X dX5_errors_148 (tgt := 159) (by decide) (by first | decide | omega) (by first | decide | omega) (fun h_148 => ?_) (fun h_148 => ?_)
        · exact absurd h_148 (by first | decide | omega)
        · refine zG_aload_n X dX5_errors_151 rfl ?_
          refine zj_callV1 (as2 := []) X (hps) dX5_errors_152 mv_X5_passes ml_X5_92 (by first | rfl | assumption) rfl (by first | decide | omega) rfl rfl (by show d - 1 + 1 ≤ d; omega) (by show 19 + 2 + 35 * (d - 1) ≤ 35 * (d); omega) (Nat.le_of_ble_eq_true rfl) (Nat.le_of_ble_eq_true rfl) (Nat.le_of_ble_eq_true rfl) ?_
          refine zG_istore_n X dX5_errors_155 (by decide) rfl ?_
          refine zG_goto X dX5_errors_156 (tgt := 141) (by decide) ?_
          exact zG_sub (zle_some (zle_some (zle_some (zle_none (zle_none zle_nil))))) (ih (k + 1) (by omega))
    have loop2 : ∀ (q k : Nat), k + q = (hs 0).toNat → zG p l e { frames := d, cells := 0, slots := 0, locals := 35 * d } s m args below meth c D cA lo 5 0 0 (MQ below (zQ D cA lo 57 (zMR (if u < 1 ∨ 1000 < u then 1 else 0) (zcnt (erM hs wd sb) u.toNat) J J G F)) args s 0 0 (fun q => lo ≤ q)) 57 (zM (upr (upr (kpJ (zup J 50 4 0)) 55 (heR hs wd sb (J 55) u.toNat)) 51 (erR (J 51) k))) G F [some (.ref (lo + 50)), some (.int (zI u)), some (.int (zI (hs 1))), some (.int (zI (k : Int))), none] [] 95 := by
      intro q
      induction q with
      | zero =>
        intro k  hk
        obtain rfl : k = (hs 0).toNat := by omega
        refine zG_iload_n X dX5_errors_95 rfl ?_
        refine zG_aload_n X dX5_errors_96 rfl ?_
        refine zG_getR X dX5_errors_97 fl_X5_7 (by first | rfl | assumption) (by first | decide | omega) (by decide) rfl (by first | exact zF_at hF rfl rfl | assumption) ?_
        refine zj_iconst X dX5_errors_100 ?_
        refine zj_ialoadv (v := hs 0) X dX5_errors_101 (by first | rfl | assumption) (by first | decide | omega) (0) (by decide) (by decide) (by exact upr_eq.trans ((erR_o (by omega) (by omega) (by omega) (by omega)).trans e0)) ?_
        refine zj_icmp_ge X dX5_errors_102 (tgt := 141) (by decide) (by first | decide | omega) (by first | decide | omega) (fun h_102 => ?_) (fun h_102 => ?_)
        · have h0 := loop3 (hs 1 - hs 12).toNat 0 (by omega)
          rw [psN_0] at h0
          exact zG_sub (zle_some (zle_some (zle_some (zle_none (zle_none zle_nil))))) h0
        · exact absurd h_102 (by first | decide | omega)
      | succ q ih =>
        intro k  hk
        refine zG_iload_n X dX5_errors_95 rfl ?_
        refine zG_aload_n X dX5_errors_96 rfl ?_
        refine zG_getR X dX5_errors_97 fl_X5_7 (by first | rfl | assumption) (by first | decide | omega) (by decide) rfl (by first | exact zF_at hF rfl rfl | assumption) ?_
        refine zj_iconst X dX5_errors_100 ?_
        refine zj_ialoadv (v := hs 0) X dX5_errors_101 (by first | rfl | assumption) (by first | decide | omega) (0) (by decide) (by decide) (by exact upr_eq.trans ((erR_o (by omega) (by omega) (by omega) (by omega)).trans e0)) ?_
        refine zj_icmp_ge X dX5_errors_102 (tgt := 141) (by decide) (by first | decide | omega) (by first | decide | omega) (fun h_102 => ?_) (fun h_102 => ?_)
        · exact absurd h_102 (by first | decide | omega)
        · refine zG_aload_n X dX5_errors_105 rfl ?_
          refine zG_getR X dX5_errors_106 fl_X5_7 (by first | rfl | assumption) (by first | decide | omega) (by decide) rfl (by first | exact zF_at hF rfl rfl | assumption) ?_
          refine zG_iload_n X dX5_errors_109 rfl ?_
          refine zj_callS1 (as2 := [_]) X (k_X5_at lo (d - 1) (upr (upr (kpJ (zup J 50 4 0)) 55 (heR hs wd sb (J 55) u.toNat)) 51 (erR (J 51) k)) G F (k := (k : Int))) dX5_errors_110 ms_X5_at ml_X5_37 rfl rfl (by show d - 1 + 1 ≤ d; omega) (by show 19 + 1 + 35 * (d - 1) ≤ 35 * (d); omega) (Nat.le_of_ble_eq_true rfl) (Nat.le_of_ble_eq_true rfl) (Nat.le_of_ble_eq_true rfl) ?_
          refine zj_iconst X dX5_errors_113 ?_
          refine zj_iadd X dX5_errors_114 ?_
          refine zG_aload_n X dX5_errors_115 rfl ?_
          refine zG_iload_n X dX5_errors_116 rfl ?_
          refine zj_bipush X dX5_errors_117 (by decide) ?_
          refine zj_callV1 (as2 := [_, _]) X (k_X5_ofv lo (d - 1) (by omega) (upr (upr (kpJ (zup J 50 4 0)) 55 (heR hs wd sb (J 55) u.toNat)) 51 (erR (J 51) k)) G F hF (u := (k : Int)) (v := 6) (x := J 51 (13 + 7 * k + 6)) k 6 (by omega) (by omega) rfl rfl (upr_eq.trans (erR_o (by omega) (by omega) (by omega) (by omega)))) dX5_errors_119 mv_X5_of ml_X5_45 (by first | rfl | assumption) rfl (by first | decide | omega) rfl rfl (by show d - 1 + 1 ≤ d; omega) (by show 19 + 3 + 35 * (d - 1) ≤ 35 * (d); omega) (Nat.le_of_ble_eq_true rfl) (Nat.le_of_ble_eq_true rfl) (Nat.le_of_ble_eq_true rfl) ?_
          refine zj_iastore X dX5_errors_122 (by first | rfl | assumption) (by first | decide | omega) (13 + 7 * k + 1) (by omega) (by omega) ?_
          refine zG_aload_n X dX5_errors_123 rfl ?_
          refine zG_getR X dX5_errors_124 fl_X5_7 (by first | rfl | assumption) (by first | decide | omega) (by decide) rfl (by first | exact zF_at hF rfl rfl | assumption) ?_
          refine zG_iload_n X dX5_errors_127 rfl ?_
          refine zj_callS1 (as2 := [_]) X (k_X5_at lo (d - 1) _ G F (k := (k : Int))) dX5_errors_128 ms_X5_at ml_X5_37 rfl rfl (by show d - 1 + 1 ≤ d; omega) (by show 19 + 1 + 35 * (d - 1) ≤ 35 * (d); omega) (Nat.le_of_ble_eq_true rfl) (Nat.le_of_ble_eq_true rfl) (Nat.le_of_ble_eq_true rfl) ?_
          refine zj_iconst X dX5_errors_131 ?_
          refine zj_iadd X dX5_errors_132 ?_
          refine zj_iconst X dX5_errors_133 ?_
          refine zj_iastore X dX5_errors_134 (by first | rfl | assumption) (by first | decide | omega) (13 + 7 * k + 3) (by omega) (by omega) ?_
          refine zj_iinc X dX5_errors_135 rfl (by decide) rfl ?_
          refine zG_goto X dX5_errors_138 (tgt := 95) (by decide) ?_
          have hi := ih (k + 1) (by omega)
          rw [er_s]
          exact hi
    have loop1 : ∀ (q k : Nat), k + q = u.toNat → zG p l e { frames := d, cells := 0, slots := 0, locals := 35 * d } s m args below meth c D cA lo 5 0 0 (MQ below (zQ D cA lo 57 (zMR (if u < 1 ∨ 1000 < u then 1 else 0) (zcnt (erM hs wd sb) u.toNat) J J G F)) args s 0 0 (fun q => lo ≤ q)) 57 (zM (upr (upr (kpJ (zup J 50 4 0)) 55 (heR hs wd sb (J 55) k)) 51 (psN hs wd sb (hs 3) true (J 51) (pT wd) (hs 11) k))) G F [some (.ref (lo + 50)), some (.int (zI u)), some (.int (zI (k : Int))), none, none] [] 31 := by
      intro q
      induction q with
      | zero =>
        intro k  hk
        obtain rfl : k = u.toNat := by omega
        have hkb1 := kb_gen (K := (upr (kpJ (zup J 50 4 0)) 55 (heR hs wd sb (J 55) u.toNat))) (row := psN hs wd sb (hs 3) true (J 51) (pT wd) (hs 11) u.toNat) hKU (fun y hy => by
          rw [psN_hi hc5 (by omega) (by omega)]
          exact (hK51 y).symm)
        refine zG_iload_n X dX5_errors_31 rfl ?_
        refine zG_iload_n X dX5_errors_32 rfl ?_
        refine zj_icmp_ge X dX5_errors_33 (tgt := 61) (by decide) (by first | decide | omega) (by first | decide | omega) (fun h_33 => ?_) (fun h_33 => ?_)
        · refine zG_aload_n X dX5_errors_61 rfl ?_
          refine zj_callV0 (as2 := []) X (k_X5_takesBack lo (d - 1) (upr (upr (kpJ (zup J 50 4 0)) 55 (heR hs wd sb (J 55) u.toNat)) 51 (psN hs wd sb (hs 3) true (J 51) (pT wd) (hs 11) u.toNat)) G F hF) dX5_errors_62 mv_X5_takesBack ml_X5_111 (by first | rfl | assumption) rfl (by first | decide | omega) rfl rfl (by show d - 1 + 1 ≤ d; omega) (by show 19 + 2 + 35 * (d - 1) ≤ 35 * (d); omega) (Nat.le_of_ble_eq_true rfl) (Nat.le_of_ble_eq_true rfl) (Nat.le_of_ble_eq_true rfl) ?_
          rw [hkb1]
          refine zG_aload_n X dX5_errors_65 rfl ?_
          refine zG_getR X dX5_errors_66 fl_X5_7 (by first | rfl | assumption) (by first | decide | omega) (by decide) rfl (by first | exact zF_at hF rfl rfl | assumption) ?_
          refine zj_iconst X dX5_errors_69 ?_
          refine zj_ialoadv (v := hs 1) X dX5_errors_70 (by first | rfl | assumption) (by first | decide | omega) (1) (by decide) (by decide) (by exact (hK51 1).trans (mh.1 1 (by decide))) ?_
          refine zG_istore_n X dX5_errors_71 (by decide) rfl ?_
          refine zG_aload_n X dX5_errors_72 rfl ?_
          refine zG_getR X dX5_errors_73 fl_X5_7 (by first | rfl | assumption) (by first | decide | omega) (by decide) rfl (by first | exact zF_at hF rfl rfl | assumption) ?_
          refine zj_iconst X dX5_errors_76 ?_
          refine zG_aload_n X dX5_errors_77 rfl ?_
          refine zG_getR X dX5_errors_78 fl_X5_7 (by first | rfl | assumption) (by first | decide | omega) (by decide) rfl (by first | exact zF_at hF rfl rfl | assumption) ?_
          refine zj_bipush X dX5_errors_81 (by decide) ?_
          refine zj_ialoadv (v := J 51 12) X dX5_errors_83 (by first | rfl | assumption) (by first | decide | omega) (12) (by decide) (by decide) (by exact hK51 12) ?_
          refine zj_iastore X dX5_errors_84 (by first | rfl | assumption) (by first | decide | omega) (1) (by decide) (by decide) ?_
          refine zG_aload_n X dX5_errors_85 rfl ?_
          refine zG_getR X dX5_errors_86 fl_X5_7 (by first | rfl | assumption) (by first | decide | omega) (by decide) rfl (by first | exact zF_at hF rfl rfl | assumption) ?_
          refine zj_bipush X dX5_errors_89 (by decide) ?_
          refine zj_iconst X dX5_errors_91 ?_
          refine zj_iastore X dX5_errors_92 (by first | rfl | assumption) (by first | decide | omega) (11) (by decide) (by decide) ?_
          refine zj_iconst X dX5_errors_93 ?_
          refine zG_istore_n X dX5_errors_94 (by decide) rfl ?_
          have h0 := loop2 (hs 0).toNat 0 (by omega)
          rw [show upr (upr (kpJ (zup J 50 4 0)) 55 (heR hs wd sb (J 55) u.toNat)) 51 (erR (J 51) 0) = zup (zup (upr (kpJ (zup J 50 4 0)) 55 (heR hs wd sb (J 55) u.toNat)) 51 1 (J 51 12)) 51 11 0 from by
            funext x i
            by_cases hx : x = 51
            · subst hx
              by_cases h1 : i = 1
              · subst h1; simp [zup, upr, erR]
              · by_cases h2 : i = 11
                · subst h2; simp [zup, upr, erR]
                · rw [upr_eq, erR_o h1 h2 (by omega) (by omega), zup_ne (by omega), zup_ne (by omega)]
                  exact (hK51 i).symm
            · rw [upr_ne hx, zup_ne (by omega), zup_ne (by omega)]] at h0
          exact zG_sub (zle_some (zle_some (zle_some (zle_some (zle_none zle_nil))))) h0
        · exact absurd h_33 (by first | decide | omega)
      | succ q ih =>
        intro k  hk
        have hN := mV_N (vm hc5) hc5 k
        have hD := dayN_ok (sb := sb) (lag := hs 3) (sk := true) (r := (pT wd, hs 11)) ok po ⟨by omega, by omega⟩ k
        have hfi := mfate_in (hs := hs) (wd := wd) (sb := sb) (ps := (dayN hs wd sb (hs 3) true k (pT wd, hs 11)).1) (lag := hs 3) (wt := (dayN hs wd sb (hs 3) true k (pT wd, hs 11)).2)
        have hps := k_X5_passes lo (d - 1) (by omega) (upr (upr (kpJ (zup J 50 4 0)) 55 (heR hs wd sb (J 55) k)) 51 (psN hs wd sb (hs 3) true (J 51) (pT wd) (hs 11) k)) G F hF (ps := (dayN hs wd sb (hs 3) true k (pT wd, hs 11)).1) (lag := hs 3) (wt := (dayN hs wd sb (hs 3) true k (pT wd, hs 11)).2) (sk := true) (by rw [show (upr (upr (kpJ (zup J 50 4 0)) 55 (heR hs wd sb (J 55) k)) 51 (psN hs wd sb (hs 3) true (J 51) (pT wd) (hs 11) k)) 51 = psN hs wd sb (hs 3) true (J 51) (pT wd) (hs 11) k from funext (fun i => upr_eq)]; exact hN) ok hD.1 (by omega) (by omega) hD.2.1 (by omega)
        rw [show (upr (upr (kpJ (zup J 50 4 0)) 55 (heR hs wd sb (J 55) k)) 51 (psN hs wd sb (hs 3) true (J 51) (pT wd) (hs 11) k)) 51 = psN hs wd sb (hs 3) true (J 51) (pT wd) (hs 11) k from funext (fun i => upr_eq), upr_upr] at hps
        have hfe : mfate hs wd sb (dayN hs wd sb (hs 3) true k (pT wd, hs 11)).1 (hs 3) (dayN hs wd sb (hs 3) true k (pT wd, hs 11)).2 = fateN hs wd sb (hs 3) true k (pT wd, hs 11) := rfl
        refine zG_iload_n X dX5_errors_31 rfl ?_
        refine zG_iload_n X dX5_errors_32 rfl ?_
        refine zj_icmp_ge X dX5_errors_33 (tgt := 61) (by decide) (by first | decide | omega) (by first | decide | omega) (fun h_33 => ?_) (fun h_33 => ?_)
        · exact absurd h_33 (by first | decide | omega)
        · refine zG_aload_n X dX5_errors_36 rfl ?_
          refine zG_getR X dX5_errors_37 fl_X5_22 (by first | rfl | assumption) (by first | decide | omega) (by decide) rfl (by first | exact zF_at hF rfl rfl | assumption) ?_
          refine zG_iload_n X dX5_errors_40 rfl ?_
          refine zG_aload_n X dX5_errors_41 rfl ?_
          refine zj_callV1 (as2 := []) X (hps) dX5_errors_42 mv_X5_passes ml_X5_92 (by first | rfl | assumption) rfl (by first | decide | omega) rfl rfl (by show d - 1 + 1 ≤ d; omega) (by show 19 + 2 + 35 * (d - 1) ≤ 35 * (d); omega) (Nat.le_of_ble_eq_true rfl) (Nat.le_of_ble_eq_true rfl) (Nat.le_of_ble_eq_true rfl) ?_
          refine zj_iconst X dX5_errors_45 ?_
          refine zj_icmp_ne X dX5_errors_46 (tgt := 53) (by decide) (by first | decide | omega) (by first | decide | omega) (fun h_46 => ?_) (fun h_46 => ?_)
          · refine zj_iconst X dX5_errors_53 ?_
            refine zj_zastore X dX5_errors_54 (by first | rfl | assumption) (by first | decide | omega) (k) (by omega) (by omega) (by first | exact Or.inl rfl | exact Or.inr rfl | assumption) ?_
            refine zj_iinc X dX5_errors_55 rfl (by decide) rfl ?_
            refine zG_goto X dX5_errors_58 (tgt := 31) (by decide) ?_
            have hi := ih (k + 1) (by omega)
            first
              | (rw [he_s (v := 1) (if_pos (by omega)).symm]; exact hi)
              | (rw [he_s (v := 0) (if_neg (by omega)).symm]; exact hi)
          · refine zj_iconst X dX5_errors_49 ?_
            refine zG_goto X dX5_errors_50 (tgt := 54) (by decide) ?_
            refine zj_zastore X dX5_errors_54 (by first | rfl | assumption) (by first | decide | omega) (k) (by omega) (by omega) (by first | exact Or.inl rfl | exact Or.inr rfl | assumption) ?_
            refine zj_iinc X dX5_errors_55 rfl (by decide) rfl ?_
            refine zG_goto X dX5_errors_58 (tgt := 31) (by decide) ?_
            have hi := ih (k + 1) (by omega)
            first
              | (rw [he_s (v := 1) (if_pos (by omega)).symm]; exact hi)
              | (rw [he_s (v := 0) (if_neg (by omega)).symm]; exact hi)
    refine zG_aload_n X dX5_errors_0 rfl ?_
    refine zG_iload_n X dX5_errors_1 rfl ?_
    refine zj_iconst X dX5_errors_2 ?_
    refine zj_sipush X dX5_errors_3 (by decide) ?_
    refine zj_callS1 (as2 := [_, _, _]) X (k_X5_in lo (d - 1) J G F (x := u) (a := 1) (b := 1000) (by first | assumption | (unfold zr; omega)) (by first | decide | (unfold zr; omega)) (by first | decide | (unfold zr; omega))) dX5_errors_6 ms_X5_in ml_X5_41 rfl rfl (by show d - 1 + 1 ≤ d; omega) (by show 19 + 3 + 35 * (d - 1) ≤ 35 * (d); omega) (Nat.le_of_ble_eq_true rfl) (Nat.le_of_ble_eq_true rfl) (Nat.le_of_ble_eq_true rfl) ?_
    rw [if_pos hb]
    refine zj_if_eq X dX5_errors_9 (tgt := 16) (by decide) (by first | decide | omega) (fun h_9 => ?_) (fun h_9 => ?_)
    · exact absurd h_9 (by first | decide | omega)
    · refine zj_iconst X dX5_errors_12 ?_
      refine zG_goto X dX5_errors_13 (tgt := 17) (by decide) ?_
      refine zj_callV1 (as2 := [_]) X (k_X5_refused lo (d - 1) J G F (x := 0) (by decide)) dX5_errors_17 mv_X5_refused ml_X5_33 (by first | rfl | assumption) rfl (by first | decide | omega) rfl rfl (by show d - 1 + 1 ≤ d; omega) (by show 19 + 2 + 35 * (d - 1) ≤ 35 * (d); omega) (Nat.le_of_ble_eq_true rfl) (Nat.le_of_ble_eq_true rfl) (Nat.le_of_ble_eq_true rfl) ?_
      refine zj_if_eq X dX5_errors_20 (tgt := 25) (by decide) (by first | decide | omega) (fun h_20 => ?_) (fun h_20 => ?_)
      · refine zG_aload_n X dX5_errors_25 rfl ?_
        refine zj_callV0 (as2 := []) X (k_X5_keeps lo (d - 1) (zup J 50 4 0) G F hF) dX5_errors_26 mv_X5_keeps ml_X5_108 (by first | rfl | assumption) rfl (by first | decide | omega) rfl rfl (by show d - 1 + 1 ≤ d; omega) (by show 19 + 2 + 35 * (d - 1) ≤ 35 * (d); omega) (Nat.le_of_ble_eq_true rfl) (Nat.le_of_ble_eq_true rfl) (Nat.le_of_ble_eq_true rfl) ?_
        refine zj_iconst X dX5_errors_29 ?_
        refine zG_istore_n X dX5_errors_30 (by decide) rfl ?_
        have h0 := loop1 u.toNat 0 (by omega)
        rw [psN_0, he_0, show upr (upr (kpJ (zup J 50 4 0)) 55 (J 55)) 51 (J 51) = kpJ (zup J 50 4 0) from by
          rw [show upr (kpJ (zup J 50 4 0)) 55 (J 55) = kpJ (zup J 50 4 0) from by
            rw [show J 55 = kpJ (zup J 50 4 0) 55 from funext (fun i => ((upr_ne (by decide)).trans (zup_ne (by omega))).symm), upr_self], show upr (kpJ (zup J 50 4 0)) 51 (J 51) = kpJ (zup J 50 4 0) from by rw [show J 51 = zup J 50 4 0 51 from funext (fun i => z51.symm), kp_row]]] at h0
        exact zG_sub (zle_some (zle_some (zle_some (zle_none (zle_none zle_nil))))) h0
      · exact absurd h_20 (by first | decide | omega)
  · refine zG_aload_n X dX5_errors_0 rfl ?_
    refine zG_iload_n X dX5_errors_1 rfl ?_
    refine zj_iconst X dX5_errors_2 ?_
    refine zj_sipush X dX5_errors_3 (by decide) ?_
    refine zj_callS1 (as2 := [_, _, _]) X (k_X5_in lo (d - 1) J G F (x := u) (a := 1) (b := 1000) (by first | assumption | (unfold zr; omega)) (by first | decide | (unfold zr; omega)) (by first | decide | (unfold zr; omega))) dX5_errors_6 ms_X5_in ml_X5_41 rfl rfl (by show d - 1 + 1 ≤ d; omega) (by show 19 + 3 + 35 * (d - 1) ≤ 35 * (d); omega) (Nat.le_of_ble_eq_true rfl) (Nat.le_of_ble_eq_true rfl) (Nat.le_of_ble_eq_true rfl) ?_
    rw [if_neg hb]
    refine zj_if_eq X dX5_errors_9 (tgt := 16) (by decide) (by first | decide | omega) (fun h_9 => ?_) (fun h_9 => ?_)
    · refine zj_iconst X dX5_errors_16 ?_
      refine zj_callV1 (as2 := [_]) X (k_X5_refused lo (d - 1) J G F (x := 1) (by decide)) dX5_errors_17 mv_X5_refused ml_X5_33 (by first | rfl | assumption) rfl (by first | decide | omega) rfl rfl (by show d - 1 + 1 ≤ d; omega) (by show 19 + 2 + 35 * (d - 1) ≤ 35 * (d); omega) (Nat.le_of_ble_eq_true rfl) (Nat.le_of_ble_eq_true rfl) (Nat.le_of_ble_eq_true rfl) ?_
      refine zj_if_eq X dX5_errors_20 (tgt := 25) (by decide) (by first | decide | omega) (fun h_20 => ?_) (fun h_20 => ?_)
      · exact absurd h_20 (by first | decide | omega)
      · refine zj_iconst X dX5_errors_23 ?_
        refine zG_iret X dX5_errors_24 rfl ?_
        exact zMR.no (if_pos (by omega)) (by decide)
    · exact absurd h_9 (by first | decide | omega)
