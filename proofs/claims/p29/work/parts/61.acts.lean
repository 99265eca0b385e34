theorem ac_sk {J J1 : Nat → Nat → Int} {G G1 : Nat → Nat → Int64} {F F2 : Nat → Nat → Option Nat} {b b1 : Nat → Nat} {x : Hou} {R : List Hou} {u : Nat} {s3 c e : Int} (S : zSb J G F b x R) (sv : svR J G b J1 G1 b1) (hF : zFk F2) (hb : bOk F2 b1) (hf : ∀ a i, a ≠ 8 → F2 a i = F a i) (hu : u < 5) (ok3 : okH (skH x u s3 c e)) : zSt (zup (zup (zup J1 (3 + u) 3 s3) (3 + u) 4 c) (3 + u) 5 e) (G1) F2 (skH x u s3 c e) (pushR R x) ∧ zK (zup (zup (zup J1 (3 + u) 3 s3) (3 + u) 4 c) (3 + u) 5 e) F2 J F := by
  have E1 : ∀ a i, 1 ≤ a → a ≤ 8 → J1 a i = J a i := fun a i p q => sv.2.2.2.1 a i (by omega) (Or.inl q)
  have g9 : G1 1 9 = x.2.2 := (sv.2.2.2.2 1 9 (Or.inl (by decide))).trans (hv_b S.2.1)
  have n := zSb_n S
  have hc := okH_h S.2.2.2.2.1

  have f1 : ∀ a i, a = 0 ∨ 8 ≤ a → ¬ (37 ≤ a ∧ a ≤ 40) → (zup (zup (zup J1 (3 + u) 3 s3) (3 + u) 4 c) (3 + u) 5 e) a i = J1 a i := fun a i p q => by
    rw [zup_ne (by omega), zup_ne (by omega), zup_ne (by omega)]
  have hv : hvw (zup (zup (zup J1 (3 + u) 3 s3) (3 + u) 4 c) (3 + u) 5 e) (G1) 1 = skH x u s3 c e := by
    refine hvw_of ⟨fun j hj => ?_, fun k i h => ?_⟩ (fun j hj => ?_) (fun k i hk hi => ?_) ?_
    · exact n.1 j hj
    · show (if k = u ∧ i = 5 then e else if k = u ∧ i = 4 then c else if k = u ∧ i = 3 then s3 else x.2.1 k i) = 0
      rw [if_neg (by omega), if_neg (by omega), if_neg (by omega)]
      exact n.2 k i h
    · exact (hsC_eq (fun i _ _ _ => (zup_ne (by omega)).trans ((zup_ne (by omega)).trans ((zup_ne (by omega)).trans (E1 1 i (by decide) (by decide))))) hj).trans (hv_s S.2.1 hj)
    · rw [zup_wc, zup_wc, zup_wc, E1 (3 + k) i (by omega) (by omega), hv_w S.2.1 hk hi]
      rfl
    · exact g9
  refine ⟨⟨b1, zSb_push S sv hF hb f1 (fun a i q => rfl) hv ok3 (fun k i hk hi => ?_)⟩, zK_push sv hf f1⟩
  rw [zup_ne (by omega), zup_ne (by omega), zup_ne (by omega), E1 (3 + k) i (by omega) (by omega)]
  exact S.2.2.2.2.2.2.2 k i hk hi
theorem ac_sw {J J1 : Nat → Nat → Int} {G G1 : Nat → Nat → Int64} {F F2 : Nat → Nat → Option Nat} {b b1 : Nat → Nat} {x : Hou} {R : List Hou} {u : Nat} {p q : Int} (S : zSb J G F b x R) (sv : svR J G b J1 G1 b1) (hF : zFk F2) (hb : bOk F2 b1) (hf : ∀ a i, a ≠ 8 → F2 a i = F a i) (hu : u < 5) (ok3 : okH (swH x u p q)) : zSt (zup (zup J1 (3 + u) 1 p) (3 + u) 2 q) (G1) F2 (swH x u p q) (pushR R x) ∧ zK (zup (zup J1 (3 + u) 1 p) (3 + u) 2 q) F2 J F := by
  have E1 : ∀ a i, 1 ≤ a → a ≤ 8 → J1 a i = J a i := fun a i p q => sv.2.2.2.1 a i (by omega) (Or.inl q)
  have g9 : G1 1 9 = x.2.2 := (sv.2.2.2.2 1 9 (Or.inl (by decide))).trans (hv_b S.2.1)
  have n := zSb_n S
  have hc := okH_h S.2.2.2.2.1

  have f1 : ∀ a i, a = 0 ∨ 8 ≤ a → ¬ (37 ≤ a ∧ a ≤ 40) → (zup (zup J1 (3 + u) 1 p) (3 + u) 2 q) a i = J1 a i := fun a i p q => by
    rw [zup_ne (by omega), zup_ne (by omega)]
  have hv : hvw (zup (zup J1 (3 + u) 1 p) (3 + u) 2 q) (G1) 1 = swH x u p q := by
    refine hvw_of ⟨fun j hj => ?_, fun k i h => ?_⟩ (fun j hj => ?_) (fun k i hk hi => ?_) ?_
    · exact n.1 j hj
    · show (if k = u ∧ i = 2 then q else if k = u ∧ i = 1 then p else x.2.1 k i) = 0
      rw [if_neg (by omega), if_neg (by omega)]
      exact n.2 k i h
    · exact (hsC_eq (fun i _ _ _ => (zup_ne (by omega)).trans ((zup_ne (by omega)).trans (E1 1 i (by decide) (by decide)))) hj).trans (hv_s S.2.1 hj)
    · rw [zup_wc, zup_wc, E1 (3 + k) i (by omega) (by omega), hv_w S.2.1 hk hi]
      rfl
    · exact g9
  refine ⟨⟨b1, zSb_push S sv hF hb f1 (fun a i q => rfl) hv ok3 (fun k i hk hi => ?_)⟩, zK_push sv hf f1⟩
  rw [zup_ne (by omega), zup_ne (by omega), E1 (3 + k) i (by omega) (by omega)]
  exact S.2.2.2.2.2.2.2 k i hk hi
theorem ac_sm {J J1 : Nat → Nat → Int} {G G1 : Nat → Nat → Int64} {F F2 : Nat → Nat → Option Nat} {b b1 : Nat → Nat} {x : Hou} {R : List Hou} {u v : Int} (S : zSb J G F b x R) (sv : svR J G b J1 G1 b1) (hF : zFk F2) (hb : bOk F2 b1) (hf : ∀ a i, a ≠ 8 → F2 a i = F a i)  (ok3 : okH (smH x u v)) : zSt (zup (zup J1 1 3 u) 1 4 v) (G1) F2 (smH x u v) (pushR R x) ∧ zK (zup (zup J1 1 3 u) 1 4 v) F2 J F := by
  have E1 : ∀ a i, 1 ≤ a → a ≤ 8 → J1 a i = J a i := fun a i p q => sv.2.2.2.1 a i (by omega) (Or.inl q)
  have g9 : G1 1 9 = x.2.2 := (sv.2.2.2.2 1 9 (Or.inl (by decide))).trans (hv_b S.2.1)
  have n := zSb_n S
  have hc := okH_h S.2.2.2.2.1
  have e1 : ∀ i, (zup (zup J1 1 3 u) 1 4 v) 1 i = (if i = 4 then v else if i = 3 then u else J 1 i) := fun i => by
    simp only [zup]
    rw [E1 1 i (by decide) (by decide)]
    simp
  have f1 : ∀ a i, a = 0 ∨ 8 ≤ a → ¬ (37 ≤ a ∧ a ≤ 40) → (zup (zup J1 1 3 u) 1 4 v) a i = J1 a i := fun a i p q => by
    rw [zup_ne (by omega), zup_ne (by omega)]
  have hv : hvw (zup (zup J1 1 3 u) 1 4 v) (G1) 1 = smH x u v := by
    refine hvw_of ⟨fun j hj => ?_, fun k i h => ?_⟩ (fun j hj => ?_) (fun k i hk hi => ?_) ?_
    · show (if j = 3 then v else if j = 2 then u else x.1 j) = 0
      rw [if_neg (by omega), if_neg (by omega)]
      exact n.1 j hj
    · exact n.2 k i h
    · have e := hv_s S.2.1 hj
      show _ = (if j = 3 then v else if j = 2 then u else x.1 j)
      rw [← e]
      unfold hsC
      rw [e1, e1]
      by_cases q8 : j < 8
      · rw [if_pos q8, if_pos q8]
        (repeat' split) <;> first | rfl | omega
      · rw [if_neg q8, if_neg q8]
        (repeat' split) <;> first | rfl | omega
    · rw [zup_ne (by omega), zup_ne (by omega), E1 (3 + k) i (by omega) (by omega), hv_w S.2.1 hk hi]
      rfl
    · exact g9
  refine ⟨⟨b1, zSb_push S sv hF hb f1 (fun a i q => rfl) hv ok3 (fun k i hk hi => ?_)⟩, zK_push sv hf f1⟩
  rw [zup_ne (by omega), zup_ne (by omega), E1 (3 + k) i (by omega) (by omega)]
  exact S.2.2.2.2.2.2.2 k i hk hi
theorem ac_mk {J J1 : Nat → Nat → Int} {G G1 : Nat → Nat → Int64} {F F2 : Nat → Nat → Option Nat} {b b1 : Nat → Nat} {x : Hou} {R : List Hou} {u v p q : Int} (S : zSb J G F b x R) (sv : svR J G b J1 G1 b1) (hF : zFk F2) (hb : bOk F2 b1) (hf : ∀ a i, a ≠ 8 → F2 a i = F a i)  (ok3 : okH (mkH x u v p q)) : zSt (zup (zup (zup (zup J1 1 5 u) 1 6 v) 1 7 p) 1 8 q) (zup G1 1 9 0) F2 (mkH x u v p q) (pushR R x) ∧ zK (zup (zup (zup (zup J1 1 5 u) 1 6 v) 1 7 p) 1 8 q) F2 J F := by
  have E1 : ∀ a i, 1 ≤ a → a ≤ 8 → J1 a i = J a i := fun a i p q => sv.2.2.2.1 a i (by omega) (Or.inl q)
  have g9 : G1 1 9 = x.2.2 := (sv.2.2.2.2 1 9 (Or.inl (by decide))).trans (hv_b S.2.1)
  have n := zSb_n S
  have hc := okH_h S.2.2.2.2.1
  have e1 : ∀ i, (zup (zup (zup (zup J1 1 5 u) 1 6 v) 1 7 p) 1 8 q) 1 i = (if i = 8 then q else if i = 7 then p else if i = 6 then v else if i = 5 then u else J 1 i) := fun i => by
    simp only [zup]
    rw [E1 1 i (by decide) (by decide)]
    simp
  have f1 : ∀ a i, a = 0 ∨ 8 ≤ a → ¬ (37 ≤ a ∧ a ≤ 40) → (zup (zup (zup (zup J1 1 5 u) 1 6 v) 1 7 p) 1 8 q) a i = J1 a i := fun a i p q => by
    rw [zup_ne (by omega), zup_ne (by omega), zup_ne (by omega), zup_ne (by omega)]
  have hv : hvw (zup (zup (zup (zup J1 1 5 u) 1 6 v) 1 7 p) 1 8 q) (zup G1 1 9 0) 1 = mkH x u v p q := by
    refine hvw_of ⟨fun j hj => ?_, fun k i h => ?_⟩ (fun j hj => ?_) (fun k i hk hi => ?_) ?_
    · show (if j = 7 then q else if j = 6 then p else if j = 5 then v else if j = 4 then u else x.1 j) = 0
      rw [if_neg (by omega), if_neg (by omega), if_neg (by omega), if_neg (by omega)]
      exact n.1 j hj
    · exact n.2 k i h
    · have e := hv_s S.2.1 hj
      show _ = (if j = 7 then q else if j = 6 then p else if j = 5 then v else if j = 4 then u else x.1 j)
      rw [← e]
      unfold hsC
      rw [e1, e1]
      by_cases q8 : j < 8
      · rw [if_pos q8, if_pos q8]
        (repeat' split) <;> first | rfl | omega
      · rw [if_neg q8, if_neg q8]
        (repeat' split) <;> first | rfl | omega
    · rw [zup_ne (by omega), zup_ne (by omega), zup_ne (by omega), zup_ne (by omega), E1 (3 + k) i (by omega) (by omega), hv_w S.2.1 hk hi]
      rfl
    · exact zup_eq
  refine ⟨⟨b1, zSb_push S sv hF hb f1 (fun a i q => zup_ne (by omega)) hv ok3 (fun k i hk hi => ?_)⟩, zK_push sv hf f1⟩
  rw [zup_ne (by omega), zup_ne (by omega), zup_ne (by omega), zup_ne (by omega), E1 (3 + k) i (by omega) (by omega)]
  exact S.2.2.2.2.2.2.2 k i hk hi
theorem sdG_x {G : Nat → Nat → Int64} {g : Int64} {u f : Int} (h : G 1 9 = g) : sdG G u f = sdX g u f := by
  unfold sdX sdG
  rw [h]
theorem ac_sd {J J1 : Nat → Nat → Int} {G G1 : Nat → Nat → Int64} {F F2 : Nat → Nat → Option Nat} {b b1 : Nat → Nat} {x : Hou} {R : List Hou} {u f : Int} (S : zSb J G F b x R) (sv : svR J G b J1 G1 b1) (hF : zFk F2) (hb : bOk F2 b1) (hf : ∀ a i, a ≠ 8 → F2 a i = F a i)  (ok3 : okH (sdH x u f)) : zSt (J1) (zup G1 1 9 (sdX x.2.2 u f)) F2 (sdH x u f) (pushR R x) ∧ zK (J1) F2 J F := by
  have E1 : ∀ a i, 1 ≤ a → a ≤ 8 → J1 a i = J a i := fun a i p q => sv.2.2.2.1 a i (by omega) (Or.inl q)
  have g9 : G1 1 9 = x.2.2 := (sv.2.2.2.2 1 9 (Or.inl (by decide))).trans (hv_b S.2.1)
  have n := zSb_n S
  have hc := okH_h S.2.2.2.2.1

  have f1 : ∀ a i, a = 0 ∨ 8 ≤ a → ¬ (37 ≤ a ∧ a ≤ 40) → (J1) a i = J1 a i := fun a i p q => by
    rfl
  have hv : hvw (J1) (zup G1 1 9 (sdX x.2.2 u f)) 1 = sdH x u f := by
    refine hvw_of ⟨fun j hj => ?_, fun k i h => ?_⟩ (fun j hj => ?_) (fun k i hk hi => ?_) ?_
    · exact n.1 j hj
    · exact n.2 k i h
    · exact (hsC_eq (fun i _ _ _ => E1 1 i (by decide) (by decide)) hj).trans (hv_s S.2.1 hj)
    · rw [E1 (3 + k) i (by omega) (by omega), hv_w S.2.1 hk hi]
      rfl
    · exact zup_eq
  refine ⟨⟨b1, zSb_push S sv hF hb f1 (fun a i q => zup_ne (by omega)) hv ok3 (fun k i hk hi => ?_)⟩, zK_push sv hf f1⟩
  rw [E1 (3 + k) i (by omega) (by omega)]
  exact S.2.2.2.2.2.2.2 k i hk hi
theorem ac_ad {J J1 : Nat → Nat → Int} {G G1 : Nat → Nat → Int64} {F F2 : Nat → Nat → Option Nat} {b b1 : Nat → Nat} {x : Hou} {R : List Hou} {u v w2 : Int} (S : zSb J G F b x R) (sv : svR J G b J1 G1 b1) (hF : zFk F2) (hb : bOk F2 b1) (hf : ∀ a i, a ≠ 8 → F2 a i = F a i) (h5 : x.1 0 < 5) (ok3 : okH (adH x u v w2)) : zSt (adJ (x.1 0).toNat u v w2 J1) (G1) F2 (adH x u v w2) (pushR R x) ∧ zK (adJ (x.1 0).toNat u v w2 J1) F2 J F := by
  have E1 : ∀ a i, 1 ≤ a → a ≤ 8 → J1 a i = J a i := fun a i p q => sv.2.2.2.1 a i (by omega) (Or.inl q)
  have g9 : G1 1 9 = x.2.2 := (sv.2.2.2.2 1 9 (Or.inl (by decide))).trans (hv_b S.2.1)
  have n := zSb_n S
  have hc := okH_h S.2.2.2.2.1
  have e1 : ∀ i, (adJ (x.1 0).toNat u v w2 J1) 1 i = (if i = 1 then ((x.1 0).toNat : Int) + 1 else J 1 i) := fun i => by
    unfold adJ
    by_cases q : i = 1
    · rw [q, zup_eq, if_pos rfl]
    · rw [if_neg q, zup_ne (by omega), zup_ne (by omega), zup_ne (by omega), zup_ne (by omega), zup_ne (by omega), zup_ne (by omega), zup_ne (by omega), zup_ne (by omega), E1 1 i (by decide) (by decide)]
  have ew : ∀ k i, k < 5 → (adJ (x.1 0).toNat u v w2 J1) (3 + k) i = (if k = (x.1 0).toNat ∧ i = 6 then w2 else if k = (x.1 0).toNat ∧ i = 5 then 0 else if k = (x.1 0).toNat ∧ i = 4 then -1 else if k = (x.1 0).toNat ∧ i = 3 then -1 else if k = (x.1 0).toNat ∧ i = 2 then 0 else if k = (x.1 0).toNat ∧ i = 1 then v else if k = (x.1 0).toNat ∧ i = 0 then u else J (3 + k) i) := fun k i hk => by
    unfold adJ
    rw [zup_ne (by omega), zup_wc, zup_wc, zup_wc, zup_wc, zup_wc, zup_wc, zup_wc, E1 (3 + k) i (by omega) (by omega)]
  have f1 : ∀ a i, a = 0 ∨ 8 ≤ a → ¬ (37 ≤ a ∧ a ≤ 40) → (adJ (x.1 0).toNat u v w2 J1) a i = J1 a i := fun a i p q => by
    unfold adJ; rw [zup_ne (by omega), zup_ne (by omega), zup_ne (by omega), zup_ne (by omega), zup_ne (by omega), zup_ne (by omega), zup_ne (by omega), zup_ne (by omega)]
  have hv : hvw (adJ (x.1 0).toNat u v w2 J1) (G1) 1 = adH x u v w2 := by
    refine hvw_of ⟨fun j hj => ?_, fun k i h => ?_⟩ (fun j hj => ?_) (fun k i hk hi => ?_) ?_
    · show (if j = 0 then x.1 0 + 1 else x.1 j) = 0
      rw [if_neg (by omega)]
      exact n.1 j hj
    · show (if k = (x.1 0).toNat then (if i = 0 then u else if i = 1 then v else if i = 2 then 0 else if i = 3 then -1 else if i = 4 then -1 else if i = 5 then 0 else if i = 6 then w2 else 0) else x.2.1 k i) = 0
      by_cases q : k = (x.1 0).toNat
      · rw [if_pos q, if_neg (by omega), if_neg (by omega), if_neg (by omega), if_neg (by omega), if_neg (by omega), if_neg (by omega), if_neg (by omega)]
      · rw [if_neg q]
        exact n.2 k i h
    · have e := hv_s S.2.1 hj
      show _ = (if j = 0 then x.1 0 + 1 else x.1 j)
      rw [← e]
      unfold hsC
      rw [e1, e1]
      have h0 : x.1 0 = J 1 1 := (hv_s S.2.1 (j := 0) (by decide)).symm
      by_cases q8 : j < 8
      · rw [if_pos q8, if_pos q8]
        (repeat' split) <;> first | rfl | omega
      · rw [if_neg q8, if_neg q8]
        (repeat' split) <;> first | rfl | omega
    · rw [ew k i hk, hv_w S.2.1 hk hi]
      show _ = (if k = (x.1 0).toNat then (if i = 0 then u else if i = 1 then v else if i = 2 then 0 else if i = 3 then -1 else if i = 4 then -1 else if i = 5 then 0 else if i = 6 then w2 else 0) else x.2.1 k i)
      by_cases q : k = (x.1 0).toNat
      · rw [if_pos q]
        simp only [q, true_and]
        (repeat' split) <;> first | rfl | omega
      · rw [if_neg q]
        simp only [q, false_and, if_false]
    · exact g9
  refine ⟨⟨b1, zSb_push S sv hF hb f1 (fun a i q => rfl) hv ok3 (fun k i hk hi => ?_)⟩, zK_push sv hf f1⟩
  rw [ew k i hk, if_neg (by omega), if_neg (by omega), if_neg (by omega), if_neg (by omega), if_neg (by omega), if_neg (by omega), if_neg (by omega)]
  exact S.2.2.2.2.2.2.2 k i hk hi
theorem ac_pr {J J1 : Nat → Nat → Int} {G G1 : Nat → Nat → Int64} {F F2 : Nat → Nat → Option Nat} {b b1 : Nat → Nat} {x : Hou} {R : List Hou}  (S : zSb J G F b x R) (sv : svR J G b J1 G1 b1) (hF : zFk F2) (hb : bOk F2 b1) (hf : ∀ a i, a ≠ 8 → F2 a i = F a i)  (ok3 : okH (prH x)) : zSt (prA J1) (G1) F2 (prH x) (pushR R x) ∧ zK (prA J1) F2 J F := by
  have E1 : ∀ a i, 1 ≤ a → a ≤ 8 → J1 a i = J a i := fun a i p q => sv.2.2.2.1 a i (by omega) (Or.inl q)
  have g9 : G1 1 9 = x.2.2 := (sv.2.2.2.2 1 9 (Or.inl (by decide))).trans (hv_b S.2.1)
  have n := zSb_n S
  have hc := okH_h S.2.2.2.2.1
  have c1 : J1 1 1 = J 1 1 := E1 1 1 (by decide) (by decide)
  have e0 : J 1 1 = x.1 0 := hv_s S.2.1 (j := 0) (by decide)
  have e1 : ∀ i, prA J1 1 i = (if i = 14 then J 1 2 else J 1 i) := fun i => by
    unfold prA
    rw [E1 1 2 (by decide) (by decide)]
    unfold zup prW
    by_cases q : i = 14
    · rw [if_pos ⟨rfl, q⟩, if_pos q]
    · rw [if_neg (fun h => q h.2), if_neg q, if_neg (by omega), E1 1 i (by decide) (by decide)]
  have ew : ∀ k i, k < 5 → prA J1 (3 + k) i = if k < (x.1 0).toNat ∧ i = 6 then J (3 + k) 1 else J (3 + k) i := fun k i hk => by
    unfold prA
    rw [zup_ne (by omega)]
    unfold prW
    rw [c1, e0, E1 (3 + k) 1 (by omega) (by omega), E1 (3 + k) i (by omega) (by omega)]
    by_cases q : k < (x.1 0).toNat ∧ i = 6
    · rw [if_pos q, if_pos (by omega)]
    · rw [if_neg q, if_neg (by omega)]
  have f1 : ∀ a i, a = 0 ∨ 8 ≤ a → ¬ (37 ≤ a ∧ a ≤ 40) → (prA J1) a i = J1 a i := fun a i p q => by
    unfold prA
    rw [zup_ne (by omega)]
    unfold prW
    rw [if_neg (by omega)]
  have hv : hvw (prA J1) (G1) 1 = prH x := by
    refine hvw_of ⟨fun j hj => ?_, fun k i h => ?_⟩ (fun j hj => ?_) (fun k i hk hi => ?_) ?_
    · show (if j = 12 then x.1 1 else x.1 j) = 0
      rw [if_neg (by omega)]
      exact n.1 j hj
    · show (if k < (x.1 0).toNat ∧ i = 6 then x.2.1 k 1 else x.2.1 k i) = 0
      rw [if_neg (by omega)]
      exact n.2 k i h
    · have e := hv_s S.2.1 hj
      show _ = (if j = 12 then x.1 1 else x.1 j)
      rw [← e]
      unfold hsC
      rw [e1, e1]
      have h0 : x.1 1 = J 1 2 := (hv_s S.2.1 (j := 1) (by decide)).symm
      by_cases q8 : j < 8
      · rw [if_pos q8, if_pos q8]
        (repeat' split) <;> first | rfl | omega
      · rw [if_neg q8, if_neg q8]
        (repeat' split) <;> first | rfl | omega
    · rw [ew k i hk, hv_w S.2.1 hk hi, hv_w S.2.1 hk (i := 1) (by decide)]
      rfl
    · exact g9
  refine ⟨⟨b1, zSb_push S sv hF hb f1 (fun a i q => rfl) hv ok3 (fun k i hk hi => ?_)⟩, zK_push sv hf f1⟩
  rw [ew k i hk, if_neg (by omega)]
  exact S.2.2.2.2.2.2.2 k i hk hi
theorem ac_pa {J J1 : Nat → Nat → Int} {G G1 : Nat → Nat → Int64} {F F2 : Nat → Nat → Option Nat} {b b1 : Nat → Nat} {x : Hou} {R : List Hou} {m : Nat} (S : zSb J G F b x R) (sv : svR J G b J1 G1 b1) (hF : zFk F2) (hb : bOk F2 b1) (hf : ∀ a i, a ≠ 8 → F2 a i = F a i)  (ok3 : okH (paH x m)) : zSt (paJ x.1 x.2.1 (sbx x) m J1) (G1) F2 (paH x m) (pushR R x) ∧ zK (paJ x.1 x.2.1 (sbx x) m J1) F2 J F := by
  have E1 : ∀ a i, 1 ≤ a → a ≤ 8 → J1 a i = J a i := fun a i p q => sv.2.2.2.1 a i (by omega) (Or.inl q)
  have g9 : G1 1 9 = x.2.2 := (sv.2.2.2.2 1 9 (Or.inl (by decide))).trans (hv_b S.2.1)
  have n := zSb_n S
  have hc := okH_h S.2.2.2.2.1
  have v1 : vH J1 x.1 x.2.1 := vH_sv sv.2.2.2.1 (zSb_v S)
  have hd5 := dayN_c5 (sb := sbx x) (lag := x.1 3) (sk := true) (wt := x.1 11) S.2.2.2.2.1.1 (psJ_5 v1 (w := 37)) m
  have e2 : paJ x.1 x.2.1 (sbx x) m J1 1 2 = x.1 1 + m := zup_eq
  have e10 : paJ x.1 x.2.1 (sbx x) m J1 1 10 = x.1 8 + cnN x 1 m := by simp [paJ, zup, arW, paW, wkJ, upr, cntJ, bsJ]; rfl
  have e11 : paJ x.1 x.2.1 (sbx x) m J1 1 11 = x.1 9 + cnN x 2 m := by simp [paJ, zup, arW, paW, wkJ, upr, cntJ, bsJ]; rfl
  have e12 : paJ x.1 x.2.1 (sbx x) m J1 1 12 = x.1 10 + cnN x 3 m := by simp [paJ, zup, arW, paW, wkJ, upr, cntJ, bsJ]; rfl
  have e13 : paJ x.1 x.2.1 (sbx x) m J1 1 13 = (dyN x m).2 := by
    unfold dyN
    rw [← hd5.2]
    simp [paJ, zup, arW, paW, wkJ, upr, cntJ, bsJ]
  have e1 : ∀ i, i ≠ 2 → i ≠ 10 → i ≠ 11 → i ≠ 12 → i ≠ 13 → paJ x.1 x.2.1 (sbx x) m J1 1 i = J 1 i := fun i a2 a10 a11 a12 a13 => by
    rw [← E1 1 i (by decide) (by decide)]
    simp [paJ, zup, arW, paW, wkJ, upr, cntJ, bsJ, a2, a10, a11, a12, a13]
  have ewp : ∀ k, k < 5 → paJ x.1 x.2.1 (sbx x) m J1 (3 + k) 1 = (dyN x m).1 k := fun k hk => by
    unfold dyN
    rw [← hd5.1 k hk]
    unfold paJ
    rw [zup_ne (by omega), zup_ne (by omega)]
    unfold arW
    rw [if_pos (by omega)]
    unfold paW wkJ
    rw [zup_ne (by omega), upr_eq]
    exact congrArg _ (by omega)
  have ew : ∀ k i, k < 5 → i ≠ 1 → paJ x.1 x.2.1 (sbx x) m J1 (3 + k) i = J (3 + k) i := fun k i hk hi => by
    rw [← E1 (3 + k) i (by omega) (by omega)]
    unfold paJ
    rw [zup_ne (by omega), zup_ne (by omega)]
    unfold arW
    rw [if_neg (by omega)]
    unfold paW wkJ cntJ bsJ
    rw [zup_ne (by omega), upr_ne (by omega), zup_ne (by omega), zup_ne (by omega), zup_ne (by omega), zup_ne (by omega), zup_ne (by omega)]
  have f1 : ∀ a i, a = 0 ∨ 8 ≤ a → ¬ (37 ≤ a ∧ a ≤ 40) → (paJ x.1 x.2.1 (sbx x) m J1) a i = J1 a i := fun a i p q => by
    unfold paJ
    rw [zup_ne (by omega), zup_ne (by omega)]
    unfold arW
    rw [if_neg (by omega)]
    unfold paW wkJ cntJ bsJ
    rw [zup_ne (by omega), upr_ne (by omega), zup_ne (by omega), zup_ne (by omega), zup_ne (by omega), zup_ne (by omega), zup_ne (by omega)]
  have hv : hvw (paJ x.1 x.2.1 (sbx x) m J1) (G1) 1 = paH x m := by
    refine hvw_of ⟨fun j hj => ?_, fun k i h => ?_⟩ (fun j hj => ?_) (fun k i hk hi => ?_) ?_
    · show (if j = 1 then x.1 1 + m else if j = 8 then x.1 8 + cnN x 1 m else if j = 9 then x.1 9 + cnN x 2 m else if j = 10 then x.1 10 + cnN x 3 m else if j = 11 then (dyN x m).2 else x.1 j) = 0
      rw [if_neg (by omega), if_neg (by omega), if_neg (by omega), if_neg (by omega), if_neg (by omega)]
      exact n.1 j hj
    · show (if k < 5 ∧ i = 1 then (dyN x m).1 k else x.2.1 k i) = 0
      rw [if_neg (by omega)]
      exact n.2 k i h
    · have hj13 : j = 0 ∨ j = 1 ∨ j = 2 ∨ j = 3 ∨ j = 4 ∨ j = 5 ∨ j = 6 ∨ j = 7 ∨ j = 8 ∨ j = 9 ∨ j = 10 ∨ j = 11 ∨ j = 12 := by omega
      rcases hj13 with rfl | rfl | rfl | rfl | rfl | rfl | rfl | rfl | rfl | rfl | rfl | rfl | rfl
      · exact (e1 1 (by decide) (by decide) (by decide) (by decide) (by decide)).trans (hv_s S.2.1 (j := 0) (by decide))
      · exact e2
      · exact (e1 3 (by decide) (by decide) (by decide) (by decide) (by decide)).trans (hv_s S.2.1 (j := 2) (by decide))
      · exact (e1 4 (by decide) (by decide) (by decide) (by decide) (by decide)).trans (hv_s S.2.1 (j := 3) (by decide))
      · exact (e1 5 (by decide) (by decide) (by decide) (by decide) (by decide)).trans (hv_s S.2.1 (j := 4) (by decide))
      · exact (e1 6 (by decide) (by decide) (by decide) (by decide) (by decide)).trans (hv_s S.2.1 (j := 5) (by decide))
      · exact (e1 7 (by decide) (by decide) (by decide) (by decide) (by decide)).trans (hv_s S.2.1 (j := 6) (by decide))
      · exact (e1 8 (by decide) (by decide) (by decide) (by decide) (by decide)).trans (hv_s S.2.1 (j := 7) (by decide))
      · exact e10
      · exact e11
      · exact e12
      · exact e13
      · exact (e1 14 (by decide) (by decide) (by decide) (by decide) (by decide)).trans (hv_s S.2.1 (j := 12) (by decide))
    · show _ = (if k < 5 ∧ i = 1 then (dyN x m).1 k else x.2.1 k i)
      by_cases q : i = 1
      · rw [if_pos ⟨hk, q⟩, q]
        exact ewp k hk
      · rw [if_neg (fun h => q h.2), ew k i hk q]
        exact hv_w S.2.1 hk hi
    · exact g9
  refine ⟨⟨b1, zSb_push S sv hF hb f1 (fun a i q => rfl) hv ok3 (fun k i hk hi => ?_)⟩, zK_push sv hf f1⟩
  rw [ew k i hk (by omega)]
  exact S.2.2.2.2.2.2.2 k i hk hi
