/-! constructors -/
def whI (J : Nat → Nat → Int) (a : Nat) : Nat → Nat → Int := zup (zup (zup J a 0 2) a 3 (-1)) a 4 (-1)
set_option maxHeartbeats 4000000 in
set_option maxRecDepth 100000 in
theorem k_X3_init (lo d : Nat) (hd : 1 ≤ d) (J : Nat → Nat → Int) (G : Nat → Nat → Int64) (F : Nat → Nat → Option Nat) {n a : Nat} (hs : zShape[a]? = some (.inl 3)) (han : a < n) : zCt lo yX3_init cX3_init 1 none d 0 0 [.ref (lo + a)] n n (zM J) G F (zD [] (whI J a) G F) := by
  refine zCt.mk (by decide) (mi_X3_init.2.2.2.1) (Nat.le_of_ble_eq_true rfl) ?_
  intro p l e s m args below meth c D cA X
  refine zG_aload_n X dX3_init_0 rfl ?_
  refine zG_objInit X dX3_init_1 (List.mem_of_getElem? (i := 69) (by decide +kernel)) (List.mem_of_getElem? (i := 52) (by decide +kernel)) (List.mem_of_getElem? (i := 53) (by decide +kernel)) (by show 1 ≤ d; omega) (by show 0 + 12 ≤ 35 * (d); omega) ?_
  refine zG_aload_n X dX3_init_4 rfl ?_
  refine zj_iconst X dX3_init_5 ?_
  refine zj_put X dX3_init_6 fl_X3_9 (by first | rfl | assumption) (by first | decide | omega) (by decide) rfl rfl ?_
  refine zG_aload_n X dX3_init_9 rfl ?_
  refine zj_iconst X dX3_init_10 ?_
  refine zj_put X dX3_init_11 fl_X3_15 (by first | rfl | assumption) (by first | decide | omega) (by decide) rfl rfl ?_
  refine zG_aload_n X dX3_init_14 rfl ?_
  refine zj_iconst X dX3_init_15 ?_
  refine zj_put X dX3_init_16 fl_X3_18 (by first | rfl | assumption) (by first | decide | omega) (by decide) rfl rfl ?_
  refine zG_vret X dX3_init_19 rfl ?_
  exact zD.rf
/-- k wheels made behind cell n, which is their array -/
def nwJ (J : Nat → Nat → Int) (n : Nat) : Nat → (Nat → Nat → Int)
  | 0 => J
  | k + 1 => whI (nwJ J n k) (n + 1 + k)
def nwF (F : Nat → Nat → Option Nat) (n : Nat) : Nat → (Nat → Nat → Option Nat)
  | 0 => F
  | k + 1 => zup (nwF F n k) n k (some (n + 1 + k))
theorem nwJ_0 {J : Nat → Nat → Int} {n : Nat} : nwJ J n 0 = J := rfl
theorem nwJ_s {J : Nat → Nat → Int} {n k : Nat} : nwJ J n (k + 1) = whI (nwJ J n k) (n + 1 + k) := rfl
theorem nwF_0 {F : Nat → Nat → Option Nat} {n : Nat} : nwF F n 0 = F := rfl
theorem nwF_s {F : Nat → Nat → Option Nat} {n k : Nat} : nwF F n (k + 1) = zup (nwF F n k) n k (some (n + 1 + k)) := rfl
theorem nwJ_o {J : Nat → Nat → Int} {n x i : Nat} : ∀ k, (x ≤ n ∨ n + k < x) → nwJ J n k x i = J x i
  | 0, _ => rfl
  | k + 1, h => by
    rw [nwJ_s]
    unfold whI
    rw [zup_ot (by omega), zup_ot (by omega), zup_ot (by omega), nwJ_o k (by omega)]
theorem nwF_o {F : Nat → Nat → Option Nat} {n x i : Nat} (h : x ≠ n) : ∀ k, nwF F n k x i = F x i
  | 0 => rfl
  | k + 1 => by
    rw [nwF_s, zup_ot h, nwF_o h k]
def zZ0 (J : Nat → Nat → Int) (G : Nat → Nat → Int64) (F : Nat → Nat → Option Nat) (n : Nat) : Prop := ∀ j, J n j = 0 ∧ G n j = 0 ∧ F n j = none
theorem zZ0_z {J : Nat → Nat → Int} {G : Nat → Nat → Int64} {F : Nat → Nat → Option Nat} {n : Nat} (h : zZ0 J G F n) : zZero (zM J) G F n := fun j => ⟨by show zI (J n j) = 0; rw [(h j).1]; rfl, (h j).2.1, (h j).2.2⟩
set_option maxHeartbeats 4000000 in
set_option maxRecDepth 100000 in
theorem k_X4_newWheels (lo d : Nat) (hd : 2 ≤ d) (J : Nat → Nat → Int) (G : Nat → Nat → Int64) (F : Nat → Nat → Option Nat) {n : Nat} (hn : n + 6 ≤ 57) (hs0 : zShape[n]? = some (.inr (5, 5))) (hs1 : ∀ i, i < 5 → zShape[n + 1 + i]? = some (.inl 3)) (hz : ∀ i, i < 6 → zZ0 J G F (n + i)) : zCt lo yX4_newWheels cX4_newWheels 2 (some (.array (.object "SynodicWheels$Wheel"))) d 6 40 [] n (n + 6) (zM J) G F (zD [.ref (lo + n)] (nwJ J n 5) G (nwF F n 5)) := by
  refine zCt.mk (by decide) (ms_X4_newWheels.2.2.1) (Nat.le_of_ble_eq_true rfl) ?_
  intro p l e s m args below meth c D cA X
  have hz0 : zZero (zM J) G F n := zZ0_z (hz 0 (by decide))
  have loop : ∀ (q k : Nat), k + q = 5 → zG p l e { frames := d, cells := 6, slots := 40, locals := 35 * d } s m args below meth c D cA lo 2 (1 + k) (5 + 7 * k) (MQ below (zQ D cA lo (n + 6) (zD [.ref (lo + n)] (nwJ J n 5) G (nwF F n 5))) args s 6 40 (fun q => lo ≤ q)) (n + 1 + k) (zM (nwJ J n k)) G (nwF F n k) [some (.ref (lo + n)), some (.int (zI (k : Int)))] [] 7 := by
    intro q
    induction q with
    | zero =>
      intro k hk
      refine zG_iload_n X dX4_newWheels_7 rfl ?_
      refine zj_iconst X dX4_newWheels_8 ?_
      refine zj_icmp_ge X dX4_newWheels_9 (tgt := 28) (by decide) (by first | decide | omega) (by first | decide | omega) (fun h_9 => ?_) (fun h_9 => ?_)
      · refine zG_aload_n X dX4_newWheels_28 rfl ?_
        obtain rfl : k = 5 := by omega
        refine zG_aret X dX4_newWheels_29 rfl (Or.inr ⟨_, rfl⟩) ?_
        exact zD.rf
      · exact absurd h_9 (by first | decide | omega)
    | succ q ih =>
      intro k hk
      have hk5 : k < 5 := by omega
      have hzk : zZero (zM (nwJ J n k)) G (nwF F n k) (n + 1 + k) := zZ0_z (fun j => by rw [nwJ_o k (by omega), nwF_o (by omega)]; have h7 := hz (k + 1) (by omega) j; rw [show n + (k + 1) = n + 1 + k by omega] at h7; exact h7)
      have hsk := hs1 k hk5
      refine zG_iload_n X dX4_newWheels_7 rfl ?_
      refine zj_iconst X dX4_newWheels_8 ?_
      refine zj_icmp_ge X dX4_newWheels_9 (tgt := 28) (by decide) (by first | decide | omega) (by first | decide | omega) (fun h_9 => ?_) (fun h_9 => ?_)
      · exact absurd h_9 (by first | decide | omega)
      · refine zG_aload_n X dX4_newWheels_12 rfl ?_
        refine zG_iload_n X dX4_newWheels_13 rfl ?_
        refine zG_new X dX4_newWheels_14 (List.mem_of_getElem? (i := 63) (by decide +kernel)) (List.mem_of_getElem? (i := 65) (by decide +kernel)) (List.mem_of_getElem? (i := 35) (by decide +kernel)) (hs1 k hk5) hzk (by show 1 + k + 1 ≤ 6; omega) (by show 5 + 7 * k + 7 ≤ 40; omega) ?_
        refine zG_dup X dX4_newWheels_17 rfl ?_
        refine zj_callI (as2 := []) X (k_X3_init lo (d - 1) (by omega) _ G _ (n := n + 1 + k + 1) (hs1 k hk5) (by omega)) dX4_newWheels_18 mi_X3_init ml_X4_281 rfl rfl (by show d - 1 + 1 ≤ d; omega) (by show 19 + 1 + 35 * (d - 1) ≤ 35 * d; omega) (by show 1 + k + 1 + 0 ≤ 6; omega) (by show 5 + 7 * k + 7 + 0 ≤ 40; omega) (Nat.le_of_ble_eq_true rfl) ?_
        refine zj_aastore5 X dX4_newWheels_21 (by first | rfl | assumption) (by first | decide | omega) (k) (by omega) (by omega) (by first | rfl | assumption) (by first | decide | omega) ?_
        refine zj_iinc X dX4_newWheels_22 rfl (by decide) rfl ?_
        refine zG_goto X dX4_newWheels_25 (tgt := 7) (by decide) ?_
        have hi := ih (k + 1) (by omega)
        rw [nwJ_s (k := k), nwF_s (k := k)] at hi
        refine zG_widen (Qc := fun _ _ _ _ => True) (free := fun _ => True) (mc := 1 + (k + 1)) (ms := 5 + 7 * (k + 1)) (by show 1 + k + 1 + 0 ≤ 1 + (k + 1); omega) (by show 5 + 7 * k + 7 + 0 ≤ 5 + 7 * (k + 1); omega) ?_
        exact hi
  refine zj_iconst X dX4_newWheels_0 ?_
  refine zG_anew_Wheel X dX4_newWheels_1 (List.mem_of_getElem? (i := 63) (by decide +kernel)) (List.mem_of_getElem? (i := 64) (by decide +kernel)) hs0 (by omega) hz0 (by decide) (by decide) (by decide) (Nat.le_of_ble_eq_true rfl) (Nat.le_of_ble_eq_true rfl) ?_
  refine zG_astore_n X dX4_newWheels_4 (by decide) rfl ?_
  refine zj_iconst X dX4_newWheels_5 ?_
  refine zG_istore_n X dX4_newWheels_6 (by decide) rfl ?_
  have h0 := loop 5 0 (by omega)
  rw [nwJ_0, nwF_0] at h0
  exact h0
