/-! the class's reader and the Model's read the same -/
def Sm (Jc Jm : Nat → Nat → Int) (k : Nat) : Prop := (Jc 41 5 = -1 ∧ Jc 41 4 = Jm 50 8 ∧ Jc 41 3 = Jm 50 6 ∧ psOk Jm) ∧ (∀ i, i < (Jm 50 6).toNat → Jc 49 i = Jm 54 i) ∧ ∀ j, j < k → ∀ f, f < 6 → Jc (43 + j) f = Jm 51 (13 + 7 * j + f)
theorem ek_F {J : Nat → Nat → Int} {u : Int} (h : J 41 5 ≠ -1) : rdF J u = J := if_neg h
theorem er_F {J : Nat → Nat → Int} {u : Int} (h : J 41 5 = -1) : rdF J u 41 5 = u := by
  unfold rdF
  rw [if_pos h, zup_eq]
theorem ek_S {J : Nat → Nat → Int} {u : Int} (h : J 41 5 ≠ -1) : rdS J u 41 5 = J 41 5 := by
  unfold rdS
  split
  · exact zup_ne (by decide)
  · rw [ek_F h]
theorem at_5 {J : Nat → Nat → Int} {k : Nat} : atJ J k 41 5 = J 41 5 := atJ_o (Or.inr (by decide))
theorem ek_N {J : Nat → Nat → Int} {a b : Int} (h : J 41 5 ≠ -1) : nuJ J a b 41 5 = J 41 5 := by
  unfold nuJ nuJc
  split
  · rw [ek_F (by rw [at_5]; exact h), at_5]
  · split
    · rw [ek_F (by rw [at_5]; exact h), at_5]
    · exact at_5
theorem ek_D {J : Nat → Nat → Int} {u : Int} (h : J 41 5 ≠ -1) : drJ J u 41 5 = J 41 5 := by
  unfold drJ
  split
  · exact zup_ne (by decide)
  · rw [ek_F h]
theorem ek_K {J : Nat → Nat → Int} {k : Nat} (h : J 41 5 ≠ -1) : rskJ J k 41 5 = J 41 5 := by
  have h1 := ek_D (u := (k : Int)) h
  have h2 := ek_S (J := drJ J k) (u := 44) (by rw [h1]; exact h)
  unfold rskJ
  rw [zup_ne (by omega), zup_ne (by omega), zup_ne (by omega)]
  have h3 := ek_N (J := rdS (drJ J k) 44) (a := 0) (b := rdS (drJ J k) 44 (43 + (drR J k).toNat) 0 - 1) (by rw [h2, h1]; exact h)
  rw [ek_S (by rw [h3, h2, h1]; exact h), h3, h2, h1]
theorem mk_5 {J : Nat → Nat → Int} {k : Nat} {u v : Int} : mkJ J (43 + k) u v 41 5 = J 41 5 := mkJ_o (by omega)
theorem sm_sp {Jc Jm : Nat → Nat → Int} {k : Nat} (h : Sm Jc Jm k) : Jm 50 8 ≠ -1 := by
  have := h.1.2.2.2.1
  omega
theorem sm_tx {Jc Jm : Nat → Nat → Int} {k : Nat} (h : Sm Jc Jm k) {s : Int} (h0 : 0 ≤ s) (h1 : s < Jm 50 6) : Jc 49 s.toNat = Jm 54 s.toNat := h.2.1 _ (by omega)
theorem sm_at {Jc Jm : Nat → Nat → Int} {k : Nat} (h : Sm Jc Jm k) (u : Int) : isNx Jc u ↔ atP Jm u u := by
  obtain ⟨⟨e5, e4, e3, po⟩, ht, hw⟩ := h
  have h0 := po.1
  unfold isNx atP
  rw [e4, e3]
  constructor
  · rintro ⟨a, c⟩
    rw [ht _ (by omega)] at c
    omega
  · rintro ⟨a, c, d⟩
    refine ⟨a, ?_⟩
    rw [ht _ (by omega)]
    omega
theorem sm_8 {Jc Jm : Nat → Nat → Int} {k : Nat} {x : Int} (h : Sm Jc Jm k) (h0 : 0 ≤ x) (h1 : x ≤ Jm 50 6) : Sm (zup Jc 41 4 x) (zup Jm 50 8 x) k := by
  obtain ⟨⟨e5, e4, e3, po⟩, ht, hw⟩ := h
  have e6 : zup Jm 50 8 x 50 6 = Jm 50 6 := zup_ne (by decide)
  refine ⟨⟨by rw [zup_ne (by decide)]; exact e5, by rw [zup_eq, zup_eq], by rw [zup_ne (by decide), e6]; exact e3, psOk_8 po h0 h1⟩, fun i hi => ?_, fun j hj f hf => ?_⟩
  · rw [zup_ne (by omega), zup_ne (by omega)]
    exact ht i (by rw [← e6]; exact hi)
  · rw [zup_ne (by omega), zup_ne (by omega)]
    exact hw j hj f hf
theorem sm_9 {Jc Jm : Nat → Nat → Int} {k : Nat} {x : Int} (h : Sm Jc Jm k) : Sm Jc (zup Jm 50 9 x) k := by
  obtain ⟨⟨e5, e4, e3, po⟩, ht, hw⟩ := h
  have e6 : zup Jm 50 9 x 50 6 = Jm 50 6 := zup_ne (by decide)
  refine ⟨⟨e5, by rw [zup_ne (by decide)]; exact e4, by rw [e6]; exact e3, psOk_o po (by decide) (Or.inr (by decide))⟩, fun i hi => ?_, fun j hj f hf => ?_⟩
  · rw [zup_ne (by omega)]
    exact ht i (by rw [← e6]; exact hi)
  · rw [zup_ne (by omega)]
    exact hw j hj f hf
theorem sm_Sy {Jc Jm : Nat → Nat → Int} {k : Nat} {u : Int} (h : Sm Jc Jm k) (ha : atP Jm u u) : Sm (rdS Jc u) (zup Jm 50 8 (Jm 50 8 + 1)) k := by
  have e : rdS Jc u = zup Jc 41 4 (Jm 50 8 + 1) := by
    unfold rdS
    rw [if_pos ((sm_at h u).mpr ha), h.1.2.1]
  rw [e]
  exact sm_8 h (by have := h.1.2.2.2.1; omega) (by have := ha.1; omega)
theorem sm_Sn {Jc Jm : Nat → Nat → Int} {k : Nat} {u : Int} (h : Sm Jc Jm k) (ha : ¬ atP Jm u u) : rdS Jc u 41 5 = Jm 50 8 := by
  unfold rdS
  rw [if_neg (fun z => ha ((sm_at h u).mp z)), er_F h.1.1, h.1.2.1]
theorem sm_dg {Jc Jm : Nat → Nat → Int} {k : Nat} (h : Sm Jc Jm k) (j : Nat) : isDg (atJ Jc j) ↔ dgM Jm j := by
  have h0 := h.1.2.2.2.1
  have e3 : atJ Jc j 41 3 = Jm 50 6 := (atJ_o (Or.inr (by decide))).trans h.1.2.2.1
  have e4 : atJ Jc j 41 4 = Jm 50 8 + j := by rw [atJ_4, h.1.2.1]
  unfold isDg dgM
  rw [e3, e4]
  constructor
  · rintro ⟨a, c, d⟩
    rw [atJ_o (Or.inl (by decide)), sm_tx h (by omega) a] at c d
    exact ⟨a, c, d⟩
  · rintro ⟨a, c, d⟩
    rw [atJ_o (Or.inl (by decide)), sm_tx h (by omega) a]
    exact ⟨a, c, d⟩
theorem sm_dv {Jc Jm : Nat → Nat → Int} {k : Nat} (h : Sm Jc Jm k) {j : Nat} (hd : dgM Jm j) : dgV (atJ Jc j) = Jm 54 (Jm 50 8 + j).toNat - 48 := by
  have h0 := h.1.2.2.2.1
  have e3 : atJ Jc j 41 3 = Jm 50 6 := (atJ_o (Or.inr (by decide))).trans h.1.2.2.1
  have e4 : atJ Jc j 41 4 = Jm 50 8 + j := by rw [atJ_4, h.1.2.1]
  unfold dgV
  rw [e3, e4, if_pos hd.1, atJ_o (Or.inl (by decide)), sm_tx h (by omega) hd.1]
theorem sm_nu {Jc Jm : Nat → Nat → Int} {k : Nat} (h : Sm Jc Jm k) : nuG Jc 2 0 = tnK Jm ∧ nuV Jc (tnK Jm) = tnV Jm (tnK Jm) := by
  unfold tnK
  rw [nuG_s]
  by_cases d0 : dgM Jm 0
  · have v1 : nuV Jc 1 = tnV Jm 1 := by
      rw [nuV_s, sm_dv h d0]
      show 10 * (0 : Int) + (Jm 54 (Jm 50 8 + ((0 : Nat) : Int)).toNat - 48) = 10 * 0 + Jm 54 (Jm 50 8 + ((0 : Nat) : Int)).toNat - 48
      omega
    rw [if_pos ((sm_dg h 0).mpr d0), if_pos d0, nuG_s]
    by_cases d1 : dgM Jm 1
    · rw [if_pos ((sm_dg h 1).mpr d1), if_pos d1]
      refine ⟨rfl, ?_⟩
      rw [nuV_s, v1, sm_dv h d1]
      show 10 * tnV Jm 1 + (Jm 54 (Jm 50 8 + ((1 : Nat) : Int)).toNat - 48) = 10 * tnV Jm 1 + Jm 54 (Jm 50 8 + ((1 : Nat) : Int)).toNat - 48
      omega
    · rw [if_neg (fun z => d1 ((sm_dg h 1).mp z)), if_neg d1]
      exact ⟨rfl, v1⟩
  · rw [if_neg (fun z => d0 ((sm_dg h 0).mp z)), if_neg d0]
    exact ⟨rfl, rfl⟩
theorem sm_R {Jc Jm : Nat → Nat → Int} {k : Nat} (h : Sm Jc Jm k) : nuR Jc = tnV Jm (tnK Jm) := by
  unfold nuR
  rw [(sm_nu h).1, (sm_nu h).2]
theorem sm_Ny {Jc Jm : Nat → Nat → Int} {k : Nat} {a b : Int} (h : Sm Jc Jm k) (ho : tnA Jm a b (tnK Jm) = 1) : Sm (nuJ Jc a b) (tnW Jm a b (tnK Jm)) k := by
  obtain ⟨y1, y2, y3⟩ := tn_yes ho
  have hk := tnK_in h.1.2.2.2
  have e : nuJ Jc a b = zup Jc 41 4 (Jm 50 8 + (tnK Jm : Nat)) := by
    unfold nuJ nuJc
    rw [(sm_nu h).1, (sm_nu h).2, if_neg (fun z => y1 (z.imp id (sm_dg h _).mp)), if_neg (by omega)]
    unfold atJ
    rw [h.1.2.1]
  rw [e, y3]
  have h9 := sm_9 (x := tnV Jm (tnK Jm)) h
  have h0 := h.1.2.2.2.1
  refine sm_8 h9 (by omega) ?_
  rw [zup_ne (by decide)]
  exact hk.2.1
theorem sm_Nn {Jc Jm : Nat → Nat → Int} {k : Nat} {a b : Int} (h : Sm Jc Jm k) (ho : ¬ tnA Jm a b (tnK Jm) = 1) : nuJ Jc a b 41 5 = tnW Jm a b (tnK Jm) 50 8 := by
  unfold nuJ nuJc tnW
  rw [(sm_nu h).1, (sm_nu h).2]
  by_cases hb : tnK Jm = 0 ∨ dgM Jm (tnK Jm)
  · rw [if_pos (hb.imp id (sm_dg h _).mpr), if_pos hb, er_F (by rw [at_5]; exact h.1.1), zup_eq, h.1.2.1]
  · have hv : ¬ (a ≤ tnV Jm (tnK Jm) ∧ tnV Jm (tnK Jm) ≤ b) := fun z => ho (by unfold tnA; rw [if_neg hb, if_pos z])
    rw [if_neg (fun z => hb (z.imp id (sm_dg h _).mp)), if_neg hb, if_pos (by omega), if_neg hv, er_F (by rw [at_5]; exact h.1.1), zup_eq, h.1.2.1]
abbrev drC (Jm : Nat → Nat → Int) (k : Nat) : Prop := atP Jm 48 52 ∧ Jm 54 (Jm 50 8).toNat - 48 < k
theorem sm_dr {Jc Jm : Nat → Nat → Int} {n k : Nat} (h : Sm Jc Jm n) (hk : k < 5) : (drV Jc (k : Int) < (k : Int) ↔ drC Jm k) ∧ (drC Jm k → drV Jc (k : Int) = Jm 54 (Jm 50 8).toNat - 48) := by
  have hd := sm_dg h 0
  rw [atJ_0] at hd
  have e0 : Jm 50 8 + ((0 : Nat) : Int) = Jm 50 8 := by omega
  unfold drV
  by_cases q : isDg Jc
  · have hq := hd.mp q
    have hv := sm_dv h hq
    rw [atJ_0] at hv
    unfold dgM at hq
    rw [e0] at hv hq
    rw [if_pos q, hv]
    refine ⟨⟨fun z => ⟨⟨hq.1, hq.2.1, by omega⟩, z⟩, fun z => z.2⟩, fun _ => rfl⟩
  · rw [if_neg q]
    have hn : ¬ drC Jm k := fun z => q (hd.mpr (by unfold dgM; rw [e0]; exact ⟨z.1.1, z.1.2.1, by have := z.1.2.2; omega⟩))
    exact ⟨⟨fun z => absurd z (Int.lt_irrefl _), fun z => absurd z hn⟩, fun z => absurd z hn⟩
theorem sm_Dy {Jc Jm : Nat → Nat → Int} {n k : Nat} (h : Sm Jc Jm n) (hk : k < 5) (hc : drC Jm k) : Sm (drJ Jc k) (zup Jm 50 8 (Jm 50 8 + 1)) n ∧ drR Jc k = Jm 54 (Jm 50 8).toNat - 48 := by
  have hd := sm_dr h hk
  refine ⟨?_, ?_⟩
  · unfold drJ
    rw [if_pos (hd.1.mpr hc), h.1.2.1]
    exact sm_8 h (by have := h.1.2.2.2.1; omega) (by have := hc.1.1; omega)
  · unfold drR
    rw [if_pos (hd.1.mpr hc), hd.2 hc]
theorem sm_Dn {Jc Jm : Nat → Nat → Int} {n k : Nat} (h : Sm Jc Jm n) (hk : k < 5) (hc : ¬ drC Jm k) : drJ Jc k 41 5 = Jm 50 8 := by
  unfold drJ
  rw [if_neg (fun z => hc ((sm_dr h hk).1.mp z)), er_F h.1.1, h.1.2.1]
/-- a wheel's skip put on both sides -/
theorem sm_3 {Jc Jm : Nat → Nat → Int} {n k : Nat} {a b c : Int} (hk : k < 5) (h : Sm Jc Jm n) : Sm (zup (zup (zup Jc (43 + k) 3 a) (43 + k) 4 b) (43 + k) 5 c) (sk3 Jm k a b c) n := by
  obtain ⟨⟨e5, e4, e3, po⟩, ht, hw⟩ := h
  have e6 : sk3 Jm k a b c 50 6 = Jm 50 6 := sk3_o (Or.inl (by decide))
  refine ⟨⟨?_, ?_, ?_, psOk_sk po⟩, fun i hi => ?_, fun j hj f hf => ?_⟩
  · rw [zup_ne (by omega), zup_ne (by omega), zup_ne (by omega)]; exact e5
  · rw [zup_ne (by omega), zup_ne (by omega), zup_ne (by omega), sk3_o (Or.inl (by decide))]; exact e4
  · rw [zup_ne (by omega), zup_ne (by omega), zup_ne (by omega), e6]; exact e3
  · rw [zup_ne (by omega), zup_ne (by omega), zup_ne (by omega), sk3_o (Or.inl (by decide))]
    exact ht i (by rw [← e6]; exact hi)
  · have hz : ∀ (J : Nat → Nat → Int) (a : Nat) (v : Int), zup J (43 + k) a v (43 + j) f = if j = k ∧ f = a then v else J (43 + j) f := fun J a v => by
      unfold zup
      by_cases q : j = k ∧ f = a
      · rw [if_pos q, if_pos (by omega)]
      · rw [if_neg q, if_neg (by omega)]
    unfold sk3
    rw [hz, hz, hz, zup_wr (by decide) (by omega), zup_wr (by decide) (by omega), zup_wr (by decide) (by omega), hw j hj f hf]
theorem sm_K {Jc Jm : Nat → Nat → Int} {k : Nat} (h : Sm Jc Jm (k + 1)) (hk : k < 5) : ((tsR Jm k).2 = 1 → Sm (rskJ Jc k) (tsR Jm k).1 (k + 1)) ∧ ((tsR Jm k).2 ≠ 1 → rskJ Jc k 41 5 = (tsR Jm k).1 50 8) := by
  have out5 : ∀ (X : Nat → Nat → Int) (a b c : Int), zup (zup (zup X (43 + k) 3 a) (43 + k) 4 b) (43 + k) 5 c 41 5 = X 41 5 := fun X a b c => by
    rw [zup_ne (by omega), zup_ne (by omega), zup_ne (by omega)]
  unfold tsR
  by_cases hc : drC Jm k
  · rw [if_pos hc]
    obtain ⟨h1, hr⟩ := sm_Dy h hk hc
    have d0 : 0 ≤ Jm 54 (Jm 50 8).toNat - 48 := by have := hc.1.2.1; omega
    have dk : (Jm 54 (Jm 50 8).toNat - 48).toNat < k := by have := hc.2; omega
    generalize hJ1 : zup Jm 50 8 (Jm 50 8 + 1) = J1 at h1 ⊢
    generalize Jm 54 (Jm 50 8).toNat - 48 = dr at hr d0 dk ⊢
    unfold tsA
    by_cases ha : atP J1 44 44
    · rw [if_pos ha]
      have h2 := sm_Sy h1 ha
      generalize zup J1 50 8 (J1 50 8 + 1) = J2 at h2 ⊢
      have hte : rdS (drJ Jc k) 44 (43 + (drR Jc k).toNat) 0 = J2 51 (13 + 7 * dr.toNat + 0) := by
        rw [hr]
        exact h2.2.2 dr.toNat (by omega) 0 (by decide)
      unfold tsB
      by_cases ho : tnA J2 0 (J2 51 (13 + 7 * dr.toNat + 0) - 1) (tnK J2) = 1
      · rw [if_pos ho]
        have h3 := sm_Ny h2 ho
        have hn : nuR (rdS (drJ Jc k) 44) = tnW J2 0 (J2 51 (13 + 7 * dr.toNat + 0) - 1) (tnK J2) 50 9 := by rw [sm_R h2, tn_num ho]
        rw [← hte] at h3 hn ⊢
        generalize tnW J2 0 (rdS (drJ Jc k) 44 (43 + (drR Jc k).toNat) 0 - 1) (tnK J2) = J3 at h3 hn ⊢
        unfold tsC
        by_cases hp : atP J3 43 43
        · rw [if_pos hp]
          refine ⟨fun _ => ?_, fun z => absurd rfl z⟩
          unfold rskJ
          have hx : isNx (nuJ (rdS (drJ Jc k) 44) 0 (rdS (drJ Jc k) 44 (43 + (drR Jc k).toNat) 0 - 1)) 43 := (sm_at h3 43).mpr hp
          rw [if_pos hx, if_pos hx, hr, ← hn]
          exact sm_3 hk (sm_Sy (by rw [hr] at h3; exact h3) hp)
        · have hx : ¬ isNx (nuJ (rdS (drJ Jc k) 44) 0 (rdS (drJ Jc k) 44 (43 + (drR Jc k).toNat) 0 - 1)) 43 := fun z => hp ((sm_at h3 43).mp z)
          rw [if_neg hp]
          by_cases hm : atP J3 45 45
          · rw [if_pos hm]
            refine ⟨fun _ => ?_, fun z => absurd rfl z⟩
            unfold rskJ
            rw [if_neg hx, if_neg hx, hr, ← hn]
            exact sm_3 hk (sm_Sy (by rw [hr] at h3; exact h3) hm)
          · rw [if_neg hm]
            refine ⟨fun z => absurd z (show ¬ ((0 : Int) = 1) by decide), fun _ => ?_⟩
            unfold rskJ
            rw [out5, if_neg hx]
            exact sm_Sn h3 hm
      · rw [if_neg ho]
        refine ⟨fun z => absurd z (show ¬ ((0 : Int) = 1) by decide), fun _ => ?_⟩
        have h3 := sm_Nn h2 ho
        rw [← hte] at h3 ⊢
        have hne : nuJ (rdS (drJ Jc k) 44) 0 (rdS (drJ Jc k) 44 (43 + (drR Jc k).toNat) 0 - 1) 41 5 ≠ -1 := by
          rw [h3]
          have := (psOk_tn (a := 0) (b := rdS (drJ Jc k) 44 (43 + (drR Jc k).toNat) 0 - 1) h2.1.2.2.2).1
          omega
        unfold rskJ
        rw [out5, ek_S hne]
        exact h3
    · rw [if_neg ha]
      refine ⟨fun z => absurd z (show ¬ ((0 : Int) = 1) by decide), fun _ => ?_⟩
      have h2 := sm_Sn h1 ha
      have hne : rdS (drJ Jc k) 44 41 5 ≠ -1 := by rw [h2]; exact sm_sp h1
      unfold rskJ
      rw [out5, ek_S (by rw [ek_N hne]; exact hne), ek_N hne]
      exact h2
  · rw [if_neg hc]
    refine ⟨fun z => absurd z (show ¬ ((0 : Int) = 1) by decide), fun _ => ?_⟩
    have h1 := sm_Dn h hk hc
    have hne : drJ Jc k 41 5 ≠ -1 := by rw [h1]; exact sm_sp h
    have hs : rdS (drJ Jc k) 44 41 5 = Jm 50 8 := by rw [ek_S hne, h1]
    have hsn : rdS (drJ Jc k) 44 41 5 ≠ -1 := by rw [hs]; exact sm_sp h
    unfold rskJ
    rw [out5, ek_S (by rw [ek_N hsn]; exact hsn), ek_N hsn]
    exact hs
/-- a whole wheel -/
theorem sm_mk {Jc Jm : Nat → Nat → Int} {k : Nat} {te po : Int} (hk : k < 5) (h : Sm Jc Jm k) : Sm (mkJ Jc (43 + k) te po) (comJ Jm k te po) (k + 1) := by
  obtain ⟨⟨e5, e4, e3, pk⟩, ht, hw⟩ := h
  have e6 : comJ Jm k te po 50 6 = Jm 50 6 := comJ_o (Or.inl (by decide))
  refine ⟨⟨?_, ?_, ?_, psOk_co pk⟩, fun i hi => ?_, fun j hj f hf => ?_⟩
  · rw [mkJ_o (by omega)]; exact e5
  · rw [mkJ_o (by omega), comJ_o (Or.inl (by decide))]; exact e4
  · rw [mkJ_o (by omega), e6]; exact e3
  · rw [mkJ_o (by omega), comJ_o (Or.inl (by decide))]
    exact ht i (by rw [← e6]; exact hi)
  · by_cases hjk : j = k
    · subst hjk
      have hf6 : f = 0 ∨ f = 1 ∨ f = 2 ∨ f = 3 ∨ f = 4 ∨ f = 5 := by omega
      unfold mkJ comJ
      rw [zup_ne (a := 51) (j := 0) (by omega)]
      rw [zup_wr (by decide) (by omega), zup_wr (by decide) (by omega), zup_wr (by decide) (by omega), zup_wr (by decide) (by omega), zup_wr (by decide) (by omega), zup_wr (by decide) (by omega), zup_wr (by decide) (by omega)]
      rcases hf6 with rfl | rfl | rfl | rfl | rfl | rfl <;> simp [zup]
    · rw [mkJ_o (by omega), comJ_o (Or.inr (by omega))]
      exact hw j (by omega) f hf
theorem ek_W {J : Nat → Nat → Int} {k : Nat} (h : rwhN J k 41 5 ≠ -1) : rwhJ J k 41 5 = rwhN J k 41 5 := by
  have hK : rwhK J k 41 5 = rwhN J k 41 5 := by
    unfold rwhK
    split
    · have h1 := ek_S (J := rwhN J k) (u := 64) h
      rw [ek_K (by rw [h1]; exact h), h1]
    · rfl
  unfold rwhJ
  rw [ek_S (by rw [hK]; exact h), hK]
theorem sm_W {Jc Jm : Nat → Nat → Int} {k : Nat} (h : Sm Jc Jm k) (hk : k < 5) : ((weR Jm k).2 = 1 → Sm (rwhJ Jc k) (weR Jm k).1 (k + 1)) ∧ ((weR Jm k).2 ≠ 1 → rwhJ Jc k 41 5 = (weR Jm k).1 50 8) := by
  unfold weR
  rw [if_neg (by omega)]
  by_cases o1 : tnA Jm 2 60 (tnK Jm) = 1
  · rw [if_pos o1]
    have h1 := sm_Ny h o1
    have hte : nuR Jc = tnW Jm 2 60 (tnK Jm) 50 9 := by rw [sm_R h, tn_num o1]
    generalize tnW Jm 2 60 (tnK Jm) = J1 at h1 hte ⊢
    unfold weB
    by_cases ha : atP J1 44 44
    · rw [if_pos ha]
      have h2 := sm_Sy h1 ha
      generalize zup J1 50 8 (J1 50 8 + 1) = J2 at h2 ⊢
      rw [← hte]
      unfold weC
      by_cases o2 : tnA J2 0 (nuR Jc - 1) (tnK J2) = 1
      · rw [if_pos o2]
        have h3 := sm_Ny h2 o2
        have hpo : nuR (rdS (nuJ Jc 2 60) 44) = tnW J2 0 (nuR Jc - 1) (tnK J2) 50 9 := by rw [sm_R h2, tn_num o2]
        have h4 := sm_mk (te := nuR Jc) (po := nuR (rdS (nuJ Jc 2 60) 44)) hk h3
        rw [hpo] at h4
        have hN : Sm (rwhN Jc k) (comJ (tnW J2 0 (nuR Jc - 1) (tnK J2)) k (nuR Jc) (tnW J2 0 (nuR Jc - 1) (tnK J2) 50 9)) (k + 1) := by
          unfold rwhN
          rw [hpo]
          exact h4
        generalize comJ (tnW J2 0 (nuR Jc - 1) (tnK J2)) k (nuR Jc) (tnW J2 0 (nuR Jc - 1) (tnK J2) 50 9) = J4 at hN ⊢
        have endE : ∀ (Jx : Nat → Nat → Int), Sm (rwhK Jc k) Jx (k + 1) → ((weE Jx).2 = 1 → Sm (rwhJ Jc k) (weE Jx).1 (k + 1)) ∧ ((weE Jx).2 ≠ 1 → rwhJ Jc k 41 5 = (weE Jx).1 50 8) := fun Jx hx => by
          unfold weE rwhJ
          by_cases q : atP Jx 59 59
          · rw [if_pos q]
            exact ⟨fun _ => sm_Sy hx q, fun z => absurd rfl z⟩
          · rw [if_neg q]
            exact ⟨fun z => absurd z (show ¬ ((0 : Int) = 1) by decide), fun _ => sm_Sn hx q⟩
        unfold weD
        by_cases h64 : atP J4 64 64
        · rw [if_pos h64]
          have h5 := sm_Sy hN h64
          have hKe : rwhK Jc k = rskJ (rdS (rwhN Jc k) 64) k := by
            unfold rwhK
            rw [if_pos ((sm_at hN 64).mpr h64)]
          have hK := sm_K h5 hk
          by_cases hs : (tsR (zup J4 50 8 (J4 50 8 + 1)) k).2 = 1
          · rw [if_pos hs]
            exact endE _ (by rw [hKe]; exact hK.1 hs)
          · rw [if_neg hs]
            refine ⟨fun z => absurd z (show ¬ ((0 : Int) = 1) by decide), fun _ => ?_⟩
            have h6 := hK.2 hs
            have hne : rwhK Jc k 41 5 ≠ -1 := by
              rw [hKe, h6]
              have := (tsR_k (k := k) h5.1.2.2.2).1.1
              omega
            unfold rwhJ
            rw [ek_S hne, hKe]
            exact h6
        · rw [if_neg h64]
          refine endE _ ?_
          unfold rwhK
          rw [if_neg (fun z => h64 ((sm_at hN 64).mp z))]
          exact hN
      · rw [if_neg o2]
        refine ⟨fun z => absurd z (show ¬ ((0 : Int) = 1) by decide), fun _ => ?_⟩
        have h3 := sm_Nn h2 o2
        have hN : rwhN Jc k 41 5 = tnW J2 0 (nuR Jc - 1) (tnK J2) 50 8 := by
          unfold rwhN
          rw [mkJ_o (by omega)]
          exact h3
        have hne : rwhN Jc k 41 5 ≠ -1 := by
          rw [hN]
          have := (psOk_tn (a := 0) (b := nuR Jc - 1) h2.1.2.2.2).1
          omega
        rw [ek_W hne]
        exact hN
    · rw [if_neg ha]
      refine ⟨fun z => absurd z (show ¬ ((0 : Int) = 1) by decide), fun _ => ?_⟩
      have h2 := sm_Sn h1 ha
      have hne1 : rdS (nuJ Jc 2 60) 44 41 5 ≠ -1 := by rw [h2]; exact sm_sp h1
      have hN : rwhN Jc k 41 5 = J1 50 8 := by
        unfold rwhN
        rw [mkJ_o (by omega), ek_N hne1]
        exact h2
      rw [ek_W (by rw [hN]; exact sm_sp h1)]
      exact hN
  · rw [if_neg o1]
    refine ⟨fun z => absurd z (show ¬ ((0 : Int) = 1) by decide), fun _ => ?_⟩
    have h1 := sm_Nn h o1
    have hsp : tnW Jm 2 60 (tnK Jm) 50 8 ≠ -1 := by
      have := (psOk_tn (a := 2) (b := 60) h.1.2.2.2).1
      omega
    have hne1 : nuJ Jc 2 60 41 5 ≠ -1 := by rw [h1]; exact hsp
    have hs2 : rdS (nuJ Jc 2 60) 44 41 5 = tnW Jm 2 60 (tnK Jm) 50 8 := by rw [ek_S hne1, h1]
    have hN : rwhN Jc k 41 5 = tnW Jm 2 60 (tnK Jm) 50 8 := by
      unfold rwhN
      rw [mkJ_o (by omega), ek_N (by rw [hs2]; exact hsp)]
      exact hs2
    rw [ek_W (by rw [hN]; exact hsp)]
    exact hN
theorem sm_1 {Jc Jm : Nat → Nat → Int} {k : Nat} {v : Int} (h : Sm Jc Jm k) : Sm (zup Jc 41 1 v) Jm k := by
  obtain ⟨⟨e5, e4, e3, pk⟩, ht, hw⟩ := h
  refine ⟨⟨by rw [zup_ne (by decide)]; exact e5, by rw [zup_ne (by decide)]; exact e4, by rw [zup_ne (by decide)]; exact e3, pk⟩, fun i hi => ?_, fun j hj f hf => ?_⟩
  · rw [zup_ne (by omega)]; exact ht i hi
  · rw [zup_ne (by omega)]; exact hw j hj f hf
theorem sm_L : ∀ (f k : Nat) (Jc Jm : Nat → Nat → Int), k + f = 5 → Sm Jc Jm k → pwH Jm k → Jc 41 1 = k → ((paL (f + 1) Jm k).2 = 1 → ∃ n, n ≤ 5 ∧ Sm (rwE (rwL f k Jc)) (paL (f + 1) Jm k).1 n ∧ (paL (f + 1) Jm k).1 51 0 = n ∧ rwE (rwL f k Jc) 41 1 = n ∧ pwH (paL (f + 1) Jm k).1 n) ∧ ((paL (f + 1) Jm k).2 ≠ 1 → rwE (rwL f k Jc) 41 5 = (paL (f + 1) Jm k).1 50 8 ∧ rwE (rwL f k Jc) 41 5 ≠ -1) := by
  intro f
  induction f with
  | zero =>
    intro k Jc Jm hk h hp h1
    obtain rfl : k = 5 := by omega
    have e0 : rwL 0 5 Jc = Jc := rfl
    rw [e0, paL_s]
    unfold rwE
    rw [h.1.2.1, h.1.2.2.1]
    by_cases q : Jm 50 8 < Jm 50 6
    · rw [if_pos q, if_pos q, we_5, if_neg (show ¬ ((Jm, (0 : Int)).2 = 1) from show ¬ ((0 : Int) = 1) by decide)]
      refine ⟨fun z => absurd z (show ¬ ((0 : Int) = 1) by decide), fun _ => ?_⟩
      rw [er_F h.1.1]
      exact ⟨rfl, sm_sp h⟩
    · rw [if_neg q, if_neg q]
      exact ⟨fun _ => ⟨5, by decide, h, hp.2.1, h1, hp⟩, fun z => absurd rfl z⟩
  | succ f ih =>
    intro k Jc Jm hk h hp h1
    rw [rwL_s, paL_s, h.1.1, h.1.2.1, h.1.2.2.1]
    by_cases q : Jm 50 8 < Jm 50 6
    · rw [if_pos (show (-1 : Int) = -1 ∧ Jm 50 8 < Jm 50 6 from ⟨rfl, q⟩), if_pos q]
      have hW := sm_W h (by omega)
      by_cases hy : (weR Jm k).2 = 1
      · rw [if_pos hy]
        have h2 := sm_1 (v := (k : Int) + 1) (hW.1 hy)
        exact ih (k + 1) _ _ (by omega) h2 (weR_y hp hy) (by rw [zup_eq]; omega)
      · rw [if_neg hy]
        refine ⟨fun z => absurd z (show ¬ ((0 : Int) = 1) by decide), fun _ => ?_⟩
        have he := hW.2 hy
        have hne : rwhJ Jc k 41 5 ≠ -1 := by
          rw [he]
          have := (weR_k (k := k) h.1.2.2.2).1.1
          omega
        have e5 : zup (rwhJ Jc k) 41 1 ((k : Int) + 1) 41 5 = rwhJ Jc k 41 5 := zup_ne (by decide)
        have hL : ∀ (f k2 : Nat) (J : Nat → Nat → Int), J 41 5 ≠ -1 → rwL f k2 J = J := fun f k2 J hJ => by
          cases f with
          | zero => rfl
          | succ f => rw [rwL_s, if_neg (fun z => hJ z.1)]
        rw [hL _ _ _ (by rw [e5]; exact hne)]
        have hE : rwE (zup (rwhJ Jc k) 41 1 ((k : Int) + 1)) 41 5 = rwhJ Jc k 41 5 := by
          unfold rwE
          split
          · rw [ek_F (by rw [e5]; exact hne), e5]
          · exact e5
        rw [hE]
        exact ⟨he, hne⟩
    · rw [if_neg (show ¬ ((-1 : Int) = -1 ∧ Jm 50 8 < Jm 50 6) from fun z => q z.2), if_neg q]
      refine ⟨fun _ => ⟨k, by omega, ?_, hp.2.1, ?_, hp⟩, fun z => absurd rfl z⟩
      · unfold rwE
        rw [h.1.2.1, h.1.2.2.1, if_neg q]
        exact h
      · unfold rwE
        rw [h.1.2.1, h.1.2.2.1, if_neg q]
        exact h1
