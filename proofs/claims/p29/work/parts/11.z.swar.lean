/-! the count of set bits, byte by byte -/
def zpopN (x : Int64) : Nat → Nat
  | 0 => 0
  | n + 1 => zpopN x n + (if x.toBitVec.getLsbD n = true then 1 else 0)
def zpop (x : Int64) : Int := (zpopN x 64 : Nat)
def zswar (x : Int64) : Int32 :=
  let a := x - ((x.toUInt64 >>> ((zI 1).toInt64.toUInt64 &&& Int64.toUInt64 63)).toInt64 &&& 6148914691236517205)
  let b := (a &&& 3689348814741910323) + ((a.toUInt64 >>> ((zI 2).toInt64.toUInt64 &&& Int64.toUInt64 63)).toInt64 &&& 3689348814741910323)
  let c := (b + (b.toUInt64 >>> ((zI 4).toInt64.toUInt64 &&& Int64.toUInt64 63)).toInt64) &&& 1085102592571150095
  let d := c + (c.toUInt64 >>> ((zI 8).toInt64.toUInt64 &&& Int64.toUInt64 63)).toInt64
  let e := d + (d.toUInt64 >>> ((zI 16).toInt64.toUInt64 &&& Int64.toUInt64 63)).toInt64
  let f := e + (e.toUInt64 >>> ((zI 32).toInt64.toUInt64 &&& Int64.toUInt64 63)).toInt64
  f.toInt32 &&& zI 127
theorem sw_and {a b c d : Nat} (hb : b < 256) (hd : d < 256) : (256 * a + b) &&& (256 * c + d) = 256 * (a &&& c) + (b &&& d) := by
  have h1 : b &&& d < 2 ^ 8 := Nat.and_lt_two_pow b (by omega)
  refine Nat.eq_of_testBit_eq fun i => ?_
  rw [Nat.testBit_and, show 256 = 2 ^ 8 from rfl, Nat.testBit_two_pow_mul_add a (by omega), Nat.testBit_two_pow_mul_add c (by omega), Nat.testBit_two_pow_mul_add (a &&& c) h1]
  split
  · rw [Nat.testBit_and]
  · rw [Nat.testBit_and]
def sM (k : Nat) : Nat → Nat
  | 0 => 0
  | n + 1 => 256 * sM k n + k
def sw1 (n X : Nat) : Nat := X - ((X / 2) &&& sM 85 n)
def sw2 (n a : Nat) : Nat := (a &&& sM 51 n) + ((a / 4) &&& sM 51 n)
def sw3 (n b : Nat) : Nat := (b + b / 16) &&& sM 15 n
def sb1 (r : Nat) : Nat := r - ((r / 2) &&& 85)
def sb2 (r : Nat) : Nat := (r &&& 51) + ((r / 4) &&& 51)
theorem sw1_s {n Y r : Nat} (hr : r < 256) : sw1 (n + 1) (256 * Y + r) = 256 * sw1 n Y + sb1 r := by
  unfold sw1 sb1
  have e : (256 * Y + r) / 2 = 256 * (Y / 2) + (128 * (Y % 2) + r / 2) := by omega
  have hm : (128 * (Y % 2) + r / 2) &&& 85 = (r / 2) &&& 85 := (by decide +kernel : ∀ q, q < 128 → ∀ t, t < 2 → (128 * t + q) &&& 85 = q &&& 85) (r / 2) (by omega) (Y % 2) (by omega)
  have h1 : (Y / 2) &&& sM 85 n ≤ Y := Nat.le_trans Nat.and_le_left (Nat.div_le_self _ _)
  have h2 : (r / 2) &&& 85 ≤ r := Nat.le_trans Nat.and_le_left (Nat.div_le_self _ _)
  rw [e, show sM 85 (n + 1) = 256 * sM 85 n + 85 from rfl, sw_and (by omega) (by decide), hm]
  omega
theorem sw2_s {n Y r : Nat} (hr : r < 256) : sw2 (n + 1) (256 * Y + r) = 256 * sw2 n Y + sb2 r := by
  unfold sw2 sb2
  have e : (256 * Y + r) / 4 = 256 * (Y / 4) + (64 * (Y % 4) + r / 4) := by omega
  have hm : (64 * (Y % 4) + r / 4) &&& 51 = (r / 4) &&& 51 := (by decide +kernel : ∀ q, q < 64 → ∀ t, t < 4 → (64 * t + q) &&& 51 = q &&& 51) (r / 4) (by omega) (Y % 4) (by omega)
  rw [e, show sM 51 (n + 1) = 256 * sM 51 n + 51 from rfl, sw_and (by omega) (by decide), sw_and (by omega) (by decide), hm]
  omega
theorem sw3_s {n Y r : Nat} (hr : r % 16 ≤ 4) (hr2 : r / 16 ≤ 4) (hy : Y % 16 ≤ 4) : sw3 (n + 1) (256 * Y + r) = 256 * sw3 n Y + (r % 16 + r / 16) := by
  unfold sw3
  have e : 256 * Y + r + (256 * Y + r) / 16 = 256 * (Y + Y / 16) + (16 * (Y % 16 + r / 16) + (r % 16 + r / 16)) := by omega
  have hm : (16 * (Y % 16 + r / 16) + (r % 16 + r / 16)) &&& 15 = r % 16 + r / 16 := by
    rw [show 15 = 2 ^ 4 - 1 from rfl, Nat.and_two_pow_sub_one_eq_mod]
    omega
  rw [e, show sM 15 (n + 1) = 256 * sM 15 n + 15 from rfl, sw_and (by omega) (by decide), hm]
theorem sb_lt : ∀ r, r < 256 → sb1 r < 256 ∧ sb2 (sb1 r) % 16 ≤ 4 ∧ sb2 (sb1 r) / 16 ≤ 4 := by decide +kernel
def sC (n X : Nat) : Nat := sw3 n (sw2 n (sw1 n X))
def sp (r : Nat) : Nat := sb2 (sb1 r) % 16 + sb2 (sb1 r) / 16
theorem sw_y (n Y : Nat) : sw2 n (sw1 n Y) % 16 ≤ 4 := by
  cases n with
  | zero =>
    unfold sw2
    rw [show sM 51 0 = 0 from rfl, Nat.and_zero, Nat.and_zero]
    decide
  | succ n =>
    have e : Y = 256 * (Y / 256) + Y % 256 := by omega
    have hb := sb_lt (Y % 256) (by omega)
    rw [e, sw1_s (by omega), sw2_s hb.1]
    omega
theorem sC_s {n Y r : Nat} (hr : r < 256) : sC (n + 1) (256 * Y + r) = 256 * sC n Y + sp r := by
  have hb := sb_lt r hr
  unfold sC sp
  rw [sw1_s hr, sw2_s hb.1, sw3_s hb.2.1 hb.2.2 (sw_y n Y)]
def cntN (X : Nat) : Nat → Nat
  | 0 => 0
  | n + 1 => cntN X n + (if X.testBit n = true then 1 else 0)
theorem cnt_8 : ∀ r, r < 256 → cntN r 8 = sp r := by decide +kernel
theorem cnt_lo {Y r : Nat} (hr : r < 256) : ∀ n, n ≤ 8 → cntN (256 * Y + r) n = cntN r n
  | 0, _ => rfl
  | n + 1, hn => by
    show cntN (256 * Y + r) n + _ = cntN r n + _
    have e : (256 * Y + r).testBit n = r.testBit n := by
      rw [show 256 = 2 ^ 8 from rfl, Nat.testBit_two_pow_mul_add Y (by omega)]
      exact if_pos (by omega)
    rw [cnt_lo hr n (by omega), e]
theorem cnt_s {Y r : Nat} (hr : r < 256) : ∀ n, cntN (256 * Y + r) (8 + n) = sp r + cntN Y n
  | 0 => by
    rw [cnt_lo hr 8 (Nat.le_refl 8), cnt_8 r hr]
    rfl
  | n + 1 => by
    show cntN (256 * Y + r) (8 + n) + (if (256 * Y + r).testBit (8 + n) = true then 1 else 0) = sp r + (cntN Y n + (if Y.testBit n = true then 1 else 0))
    rw [cnt_s hr n, show (256 * Y + r).testBit (8 + n) = Y.testBit n by
      rw [show 256 = 2 ^ 8 from rfl, Nat.testBit_two_pow_mul_add Y (by omega), if_neg (by omega), Nat.add_sub_cancel_left], Nat.add_assoc]
theorem sp_lt : ∀ r, r < 256 → sp r ≤ 8 := by decide +kernel
theorem dv_8 {a b : Nat} (h : b < 256) : (256 * a + b) / 256 = a := by omega
theorem dv_16 {a b : Nat} (h : b < 65536) : (65536 * a + b) / 65536 = a := by omega
theorem dv_32 {a b : Nat} (h : b < 4294967296) : (4294967296 * a + b) / 4294967296 = a := by omega
theorem bd_8 {P Q q B : Nat} (h : P = 256 * Q + q) (hq : q ≤ 8) (hQ : Q ≤ B) : P ≤ 256 * B + 8 := by omega
theorem li_2 {C P1 P2 P3 q0 q1 q2 : Nat} (h0 : C = 256 * P1 + q0) (h1 : P1 = 256 * P2 + q1) (h2 : P2 = 256 * P3 + q2) : C + P1 = 65536 * (P2 + P3) + (256 * (q1 + q2) + (q0 + q1)) := by omega
theorem li_a {P1 P2 P3 P4 P5 q1 q2 q3 q4 : Nat} (h1 : P1 = 256 * P2 + q1) (h2 : P2 = 256 * P3 + q2) (h3 : P3 = 256 * P4 + q3) (h4 : P4 = 256 * P5 + q4) : P1 = 4294967296 * P5 + (16777216 * q4 + 65536 * q3 + 256 * q2 + q1) := by omega
theorem li_3 {C P1 P2 P3 P4 P5 P6 q7 a b c d : Nat} (h0 : C = 4294967296 * P4 + a) (h1 : P1 = 4294967296 * P5 + b) (h2 : P2 = 4294967296 * P6 + c) (h3 : P3 = 4294967296 * q7 + d) : C + P1 + (P2 + P3) = 4294967296 * (P4 + P5 + P6 + q7) + (a + b + c + d) := by omega
theorem lo_8 {q0 q1 q2 q3 : Nat} (p0 : q0 ≤ 8) (p1 : q1 ≤ 8) (p2 : q2 ≤ 8) (p3 : q3 ≤ 8) : 16777216 * q3 + 65536 * q2 + 256 * q1 + q0 ≤ 134744072 := by omega
theorem li_4 {C P1 P2 P3 P4 P5 P6 q0 q1 q2 q3 q4 q5 q6 q7 : Nat} (h0 : C = 256 * P1 + q0) (h1 : P1 = 256 * P2 + q1) (h2 : P2 = 256 * P3 + q2) (h3 : P3 = 256 * P4 + q3) (h4 : P4 = 256 * P5 + q4) (h5 : P5 = 256 * P6 + q5) (h6 : P6 = 256 * q7 + q6) : C + P1 + (P2 + P3) + (P4 + P5 + P6 + q7) = 128 * (2 * (P1 + P2 + P3 + P4 + P5 + P6 + q7)) + (q0 + (q1 + (q2 + (q3 + (q4 + (q5 + (q6 + q7))))))) := by
  rw [show 128 * (2 * (P1 + P2 + P3 + P4 + P5 + P6 + q7)) = 256 * P1 + 256 * P2 + 256 * P3 + 256 * P4 + 256 * P5 + 256 * P6 + 256 * q7 by clear h0 h1 h2 h3 h4 h5 h6; omega]
  generalize 256 * P1 = x1 at *
  generalize 256 * P2 = x2 at *
  generalize 256 * P3 = x3 at *
  generalize 256 * P4 = x4 at *
  generalize 256 * P5 = x5 at *
  generalize 256 * P6 = x6 at *
  generalize 256 * q7 = x7 at *
  omega
theorem sw_fin {C P1 P2 P3 P4 P5 P6 q0 q1 q2 q3 q4 q5 q6 q7 : Nat} (h0 : C = 256 * P1 + q0) (h1 : P1 = 256 * P2 + q1) (h2 : P2 = 256 * P3 + q2) (h3 : P3 = 256 * P4 + q3) (h4 : P4 = 256 * P5 + q4) (h5 : P5 = 256 * P6 + q5) (h6 : P6 = 256 * q7 + q6) (p0 : q0 ≤ 8) (p1 : q1 ≤ 8) (p2 : q2 ≤ 8) (p3 : q3 ≤ 8) (p4 : q4 ≤ 8) (p5 : q5 ≤ 8) (p6 : q6 ≤ 8) (p7 : q7 ≤ 8) : C ≤ 578721382704613384 ∧ (C + C / 256 + (C + C / 256) / 65536 + (C + C / 256 + (C + C / 256) / 65536) / 4294967296) % 128 = q0 + (q1 + (q2 + (q3 + (q4 + (q5 + (q6 + q7)))))) ∧ q0 + (q1 + (q2 + (q3 + (q4 + (q5 + (q6 + q7)))))) ≤ 64 := by
  have b1 := bd_8 h0 p0 (bd_8 h1 p1 (bd_8 h2 p2 (bd_8 h3 p3 (bd_8 h4 p4 (bd_8 h5 p5 (bd_8 h6 p6 p7))))))
  have e1 : C / 256 = P1 := by
    rw [h0]
    exact dv_8 (Nat.lt_of_le_of_lt p0 (by decide))
  have e2 : (C + P1) / 65536 = P2 + P3 := by
    rw [li_2 h0 h1 h2]
    exact dv_16 (by clear h0 h1 h2 h3 h4 h5 h6 b1 e1; omega)
  have e3 : (C + P1 + (P2 + P3)) / 4294967296 = P4 + P5 + P6 + q7 := by
    rw [li_3 (li_a h0 h1 h2 h3) (li_a h1 h2 h3 h4) (li_a h2 h3 h4 h5) (li_a h3 h4 h5 h6)]
    have l0 := lo_8 p0 p1 p2 p3
    have l1 := lo_8 p1 p2 p3 p4
    have l2 := lo_8 p2 p3 p4 p5
    have l3 := lo_8 p3 p4 p5 p6
    exact dv_32 (Nat.lt_of_le_of_lt (Nat.add_le_add (Nat.add_le_add (Nat.add_le_add l0 l1) l2) l3) (by decide))
  have hs : q0 + (q1 + (q2 + (q3 + (q4 + (q5 + (q6 + q7)))))) ≤ 64 := by
    clear h0 h1 h2 h3 h4 h5 h6 b1 e1 e2 e3
    omega
  refine ⟨Nat.le_trans b1 (by decide), ?_, hs⟩
  rw [e1, e2, e3, li_4 h0 h1 h2 h3 h4 h5 h6, Nat.mul_add_mod]
  exact Nat.mod_eq_of_lt (Nat.lt_of_le_of_lt hs (by decide))
/-- a number of eight bytes: the last three steps add them up -/
theorem sw_end {X : Nat} (hX : X < 2 ^ 64) : sC 8 X ≤ 578721382704613384 ∧ (sC 8 X + sC 8 X / 256 + (sC 8 X + sC 8 X / 256) / 65536 + (sC 8 X + sC 8 X / 256 + (sC 8 X + sC 8 X / 256) / 65536) / 4294967296) % 128 = cntN X 64 ∧ cntN X 64 ≤ 64 := by
  obtain ⟨X1, r0, h0, rfl⟩ : ∃ Y r, r < 256 ∧ X = 256 * Y + r := ⟨X / 256, X % 256, by omega, by omega⟩
  obtain ⟨X2, r1, h1, rfl⟩ : ∃ Y r, r < 256 ∧ X1 = 256 * Y + r := ⟨X1 / 256, X1 % 256, by omega, by omega⟩
  obtain ⟨X3, r2, h2, rfl⟩ : ∃ Y r, r < 256 ∧ X2 = 256 * Y + r := ⟨X2 / 256, X2 % 256, by omega, by omega⟩
  obtain ⟨X4, r3, h3, rfl⟩ : ∃ Y r, r < 256 ∧ X3 = 256 * Y + r := ⟨X3 / 256, X3 % 256, by omega, by omega⟩
  obtain ⟨X5, r4, h4, rfl⟩ : ∃ Y r, r < 256 ∧ X4 = 256 * Y + r := ⟨X4 / 256, X4 % 256, by omega, by omega⟩
  obtain ⟨X6, r5, h5, rfl⟩ : ∃ Y r, r < 256 ∧ X5 = 256 * Y + r := ⟨X5 / 256, X5 % 256, by omega, by omega⟩
  obtain ⟨X7, r6, h6, rfl⟩ : ∃ Y r, r < 256 ∧ X6 = 256 * Y + r := ⟨X6 / 256, X6 % 256, by omega, by omega⟩
  obtain ⟨X8, r7, h7, rfl⟩ : ∃ Y r, r < 256 ∧ X7 = 256 * Y + r := ⟨X7 / 256, X7 % 256, by omega, by omega⟩
  have hX8 : X8 = 0 := by omega
  subst hX8
  have e8 : sC 0 0 = 0 := by decide
  have eC : sC 8 (256 * (256 * (256 * (256 * (256 * (256 * (256 * (256 * 0 + r7) + r6) + r5) + r4) + r3) + r2) + r1) + r0) = 256 * (256 * (256 * (256 * (256 * (256 * (256 * (256 * 0 + sp r7) + sp r6) + sp r5) + sp r4) + sp r3) + sp r2) + sp r1) + sp r0 := by
    rw [sC_s h0, sC_s h1, sC_s h2, sC_s h3, sC_s h4, sC_s h5, sC_s h6, sC_s h7, e8]
  have eN : cntN (256 * (256 * (256 * (256 * (256 * (256 * (256 * (256 * 0 + r7) + r6) + r5) + r4) + r3) + r2) + r1) + r0) 64 = sp r0 + (sp r1 + (sp r2 + (sp r3 + (sp r4 + (sp r5 + (sp r6 + sp r7)))))) := by
    have c0 := fun Y => cnt_s (Y := Y) h0 56
    have c1 := fun Y => cnt_s (Y := Y) h1 48
    have c2 := fun Y => cnt_s (Y := Y) h2 40
    have c3 := fun Y => cnt_s (Y := Y) h3 32
    have c4 := fun Y => cnt_s (Y := Y) h4 24
    have c5 := fun Y => cnt_s (Y := Y) h5 16
    have c6 := fun Y => cnt_s (Y := Y) h6 8
    have c7 := fun Y => cnt_s (Y := Y) h7 0
    have z : cntN 0 0 = 0 := rfl
    simp only [Nat.reduceAdd] at c0 c1 c2 c3 c4 c5 c6 c7
    rw [c0, c1, c2, c3, c4, c5, c6, c7, z, Nat.add_zero]
  have p0 := sp_lt r0 h0
  have p1 := sp_lt r1 h1
  have p2 := sp_lt r2 h2
  have p3 := sp_lt r3 h3
  have p4 := sp_lt r4 h4
  have p5 := sp_lt r5 h5
  have p6 := sp_lt r6 h6
  have p7 := sp_lt r7 h7
  rw [eC, eN]
  generalize sp r0 = q0 at *
  generalize sp r1 = q1 at *
  generalize sp r2 = q2 at *
  generalize sp r3 = q3 at *
  generalize sp r4 = q4 at *
  generalize sp r5 = q5 at *
  generalize sp r6 = q6 at *
  generalize sp r7 = q7 at *
  clear eC eN hX
  exact sw_fin rfl rfl rfl rfl rfl rfl (by rw [Nat.mul_zero, Nat.zero_add]) p0 p1 p2 p3 p4 p5 p6 p7
theorem sw_sh {x : Int64} {k : UInt64} {n : Nat} (hk : k.toNat % 64 = n) : (x.toUInt64 >>> k).toInt64.toBitVec.toNat = x.toBitVec.toNat / 2 ^ n := by
  show (x.toUInt64 >>> k).toNat = _
  rw [UInt64.toNat_shiftRight, hk, Nat.shiftRight_eq_div_pow]
  rfl
theorem sw_an {x y : Int64} : (x &&& y).toBitVec.toNat = x.toBitVec.toNat &&& y.toBitVec.toNat := by rw [Int64.toBitVec_and, BitVec.toNat_and]
theorem sw_ad {x y : Int64} (h : x.toBitVec.toNat + y.toBitVec.toNat < 2 ^ 64) : (x + y).toBitVec.toNat = x.toBitVec.toNat + y.toBitVec.toNat := by
  rw [Int64.toBitVec_add, BitVec.toNat_add, Nat.mod_eq_of_lt h]
theorem sw_su {x y : Int64} (h : y.toBitVec.toNat ≤ x.toBitVec.toNat) : (x - y).toBitVec.toNat = x.toBitVec.toNat - y.toBitVec.toNat := by
  rw [Int64.toBitVec_sub, BitVec.toNat_sub_of_le (BitVec.le_def.mpr h)]
theorem cnt_z {x : Int64} : ∀ n, zpopN x n = cntN x.toBitVec.toNat n
  | 0 => rfl
  | n + 1 => by
    show zpopN x n + _ = cntN x.toBitVec.toNat n + _
    rw [cnt_z n]
    rfl
theorem zpop_swar (x : Int64) : zswar x = zI (zpop x) := by
  have hX : x.toBitVec.toNat < 2 ^ 64 := x.toBitVec.isLt
  have m1 : (6148914691236517205 : Int64).toBitVec.toNat = sM 85 8 := by decide +kernel
  have m2 : (3689348814741910323 : Int64).toBitVec.toNat = sM 51 8 := by decide +kernel
  have m3 : (1085102592571150095 : Int64).toBitVec.toNat = sM 15 8 := by decide +kernel
  have v2 : sM 51 8 = 3689348814741910323 := by decide +kernel
  have k1 : ((zI 1).toInt64.toUInt64 &&& Int64.toUInt64 63).toNat % 64 = 1 := by decide +kernel
  have k2 : ((zI 2).toInt64.toUInt64 &&& Int64.toUInt64 63).toNat % 64 = 2 := by decide +kernel
  have k4 : ((zI 4).toInt64.toUInt64 &&& Int64.toUInt64 63).toNat % 64 = 4 := by decide +kernel
  have k8 : ((zI 8).toInt64.toUInt64 &&& Int64.toUInt64 63).toNat % 64 = 8 := by decide +kernel
  have k16 : ((zI 16).toInt64.toUInt64 &&& Int64.toUInt64 63).toNat % 64 = 16 := by decide +kernel
  have k32 : ((zI 32).toInt64.toUInt64 &&& Int64.toUInt64 63).toNat % 64 = 32 := by decide +kernel
  obtain ⟨hc, hf, h64⟩ := sw_end hX
  have hz := cnt_z (x := x) 64
  generalize hXe : x.toBitVec.toNat = X at *
  unfold zswar
  have ha : (x - ((x.toUInt64 >>> ((zI 1).toInt64.toUInt64 &&& Int64.toUInt64 63)).toInt64 &&& 6148914691236517205)).toBitVec.toNat = sw1 8 X := by
    have e : ((x.toUInt64 >>> ((zI 1).toInt64.toUInt64 &&& Int64.toUInt64 63)).toInt64 &&& 6148914691236517205).toBitVec.toNat = (X / 2) &&& sM 85 8 := by rw [sw_an, sw_sh k1, hXe, m1]
    rw [sw_su (by rw [e, hXe]; exact Nat.le_trans Nat.and_le_left (Nat.div_le_self _ _)), e, hXe]
    rfl
  generalize x - ((x.toUInt64 >>> ((zI 1).toInt64.toUInt64 &&& Int64.toUInt64 63)).toInt64 &&& 6148914691236517205) = a at ha ⊢
  dsimp only
  have hb : ((a &&& 3689348814741910323) + ((a.toUInt64 >>> ((zI 2).toInt64.toUInt64 &&& Int64.toUInt64 63)).toInt64 &&& 3689348814741910323)).toBitVec.toNat = sw2 8 (sw1 8 X) := by
    have e1 : (a &&& 3689348814741910323).toBitVec.toNat = (sw1 8 X) &&& sM 51 8 := by rw [sw_an, ha, m2]
    have e2 : ((a.toUInt64 >>> ((zI 2).toInt64.toUInt64 &&& Int64.toUInt64 63)).toInt64 &&& 3689348814741910323).toBitVec.toNat = (sw1 8 X / 4) &&& sM 51 8 := by rw [sw_an, sw_sh k2, ha, m2]
    have b1 : (sw1 8 X) &&& sM 51 8 ≤ 3689348814741910323 := by rw [← v2]; exact Nat.and_le_right
    have b2 : (sw1 8 X / 4) &&& sM 51 8 ≤ 3689348814741910323 := by rw [← v2]; exact Nat.and_le_right
    rw [sw_ad (by rw [e1, e2]; exact Nat.lt_of_le_of_lt (Nat.add_le_add b1 b2) (by decide)), e1, e2]
    rfl
  have hb2 : sw2 8 (sw1 8 X) ≤ 7378697629483820646 := by
    have b1 : (sw1 8 X) &&& sM 51 8 ≤ 3689348814741910323 := by rw [← v2]; exact Nat.and_le_right
    have b2 : (sw1 8 X / 4) &&& sM 51 8 ≤ 3689348814741910323 := by rw [← v2]; exact Nat.and_le_right
    exact Nat.add_le_add b1 b2
  generalize (a &&& 3689348814741910323) + ((a.toUInt64 >>> ((zI 2).toInt64.toUInt64 &&& Int64.toUInt64 63)).toInt64 &&& 3689348814741910323) = b at hb ⊢
  have hcc : ((b + (b.toUInt64 >>> ((zI 4).toInt64.toUInt64 &&& Int64.toUInt64 63)).toInt64) &&& 1085102592571150095).toBitVec.toNat = sC 8 X := by
    have e1 : (b.toUInt64 >>> ((zI 4).toInt64.toUInt64 &&& Int64.toUInt64 63)).toInt64.toBitVec.toNat = sw2 8 (sw1 8 X) / 16 := by rw [sw_sh k4, hb]
    rw [sw_an, sw_ad (by rw [e1, hb]; omega), e1, hb, m3]
    rfl
  generalize (b + (b.toUInt64 >>> ((zI 4).toInt64.toUInt64 &&& Int64.toUInt64 63)).toInt64) &&& 1085102592571150095 = c at hcc ⊢
  generalize sC 8 X = C at *
  have hd : (c + (c.toUInt64 >>> ((zI 8).toInt64.toUInt64 &&& Int64.toUInt64 63)).toInt64).toBitVec.toNat = C + C / 256 := by
    have e1 : (c.toUInt64 >>> ((zI 8).toInt64.toUInt64 &&& Int64.toUInt64 63)).toInt64.toBitVec.toNat = C / 256 := by rw [sw_sh k8, hcc]
    rw [sw_ad (by rw [e1, hcc]; omega), e1, hcc]
  generalize c + (c.toUInt64 >>> ((zI 8).toInt64.toUInt64 &&& Int64.toUInt64 63)).toInt64 = d at hd ⊢
  have hd2 : C + C / 256 ≤ 600000000000000000 * 2 := by omega
  generalize C + C / 256 = E1 at *
  have he : (d + (d.toUInt64 >>> ((zI 16).toInt64.toUInt64 &&& Int64.toUInt64 63)).toInt64).toBitVec.toNat = E1 + E1 / 65536 := by
    have e1 : (d.toUInt64 >>> ((zI 16).toInt64.toUInt64 &&& Int64.toUInt64 63)).toInt64.toBitVec.toNat = E1 / 65536 := by rw [sw_sh k16, hd]
    rw [sw_ad (by rw [e1, hd]; omega), e1, hd]
  generalize d + (d.toUInt64 >>> ((zI 16).toInt64.toUInt64 &&& Int64.toUInt64 63)).toInt64 = e at he ⊢
  have he2 : E1 + E1 / 65536 ≤ 1200000000000000000 * 2 := by omega
  generalize E1 + E1 / 65536 = E2 at *
  have hff : (e + (e.toUInt64 >>> ((zI 32).toInt64.toUInt64 &&& Int64.toUInt64 63)).toInt64).toBitVec.toNat = E2 + E2 / 4294967296 := by
    have e1 : (e.toUInt64 >>> ((zI 32).toInt64.toUInt64 &&& Int64.toUInt64 63)).toInt64.toBitVec.toNat = E2 / 4294967296 := by rw [sw_sh k32, he]
    rw [sw_ad (by rw [e1, he]; omega), e1, he]
  generalize e + (e.toUInt64 >>> ((zI 32).toInt64.toUInt64 &&& Int64.toUInt64 63)).toInt64 = f at hff ⊢
  generalize E2 + E2 / 4294967296 = E3 at *
  have hz2 : zI (zpop x) = Int32.ofNat (cntN X 64) := by
    unfold zpop
    rw [hz]
    exact Int32.ofInt_eq_ofNat
  rw [hz2]
  generalize cntN X 64 = s at *
  refine Int32.toBitVec.inj (BitVec.eq_of_toNat_eq ?_)
  have l1 : (f.toInt32 &&& zI 127).toBitVec.toNat = f.toInt32.toBitVec.toNat &&& 127 := by
    rw [Int32.toBitVec_and, BitVec.toNat_and]
    rfl
  have l2 : f.toInt32.toBitVec.toNat = E3 % 2 ^ 32 := by
    show (f.toBitVec.signExtend 32).toNat = _
    rw [BitVec.signExtend_eq_setWidth_of_le _ (by decide), BitVec.toNat_setWidth, hff]
  have l3 : (Int32.ofNat s).toBitVec.toNat = s := by
    show (BitVec.ofNat 32 s).toNat = s
    rw [BitVec.toNat_ofNat]
    exact Nat.mod_eq_of_lt (by omega)
  rw [l1, l2, l3, show 127 = 2 ^ 7 - 1 from rfl, Nat.and_two_pow_sub_one_eq_mod, Nat.mod_mod_of_dvd E3 (by decide)]
  exact hf
