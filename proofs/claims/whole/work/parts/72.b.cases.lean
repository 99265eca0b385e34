/-! the law's cases 9 .. -/
set_option maxHeartbeats 4000000 in
set_option maxRecDepth 100000 in
theorem lc_9 {p : Program} {l : Launch} {e : Env} {s : State} {m : MethodId} {args : Array Value} {below : List Frame} {meth : Method} {c : Code} {D : va_G} {cA : Nat → ClassId} {lo : Nat} {cells slots : Nat} {Q : State → Prop} {J : Nat → Nat → Int} {G : Nat → Nat → Int64} {F : Nat → Nat → Option Nat} {b1 : Nat → Nat} {nm : String} (X : zCx p l s m meth c (yLn nm) cL_law 9 ret D cA) (Y : zXS lo s) (Nn : zNC s) {b N : Nat} {xs : Nat → Int32} (hX : va_X b N xs s s.heap) (hbl : b < lo) (hN : N ≤ 2560) {i : Int} (hi0 : 0 ≤ i) (hi : i + 5 ≤ N) (hce : cells + 1 ≤ 601024) (hsl : slots + 6 ≤ 7293034) (I : zInv J G F b1) (k : ∀ J3 G3 F3 b3, zInv J3 G3 F3 b3 → zG p l e room_1 s m args below meth c D cA lo 9 (cells + 1) (slots + 6) Q 57 (zM J3) G3 F3 (lwL b lo i) [] 1486) : zG p l e room_1 s m args below meth c D cA lo 9 cells slots Q 57 (zM J) G F (lwL b lo i) [] 765 := by
  obtain ⟨r, P, hr, hw, hj0⟩ := pl_wheel (lo := lo) I  (zr_x (x := (xs (i + 1).toNat))) (zr_x (x := (xs (i + 2).toNat)))
  refine zG_aload_n X dL_law_765 rfl ?_
  refine zL_arg X hX hbl hN (i := i) 1 rfl rfl (by omega) (by omega) dL_law_766 dL_law_767 dL_law_769 dL_law_770 dL_law_771 ?_
  refine zL_arg X hX hbl hN (i := i) 2 rfl rfl (by omega) (by omega) dL_law_772 dL_law_773 dL_law_775 dL_law_776 dL_law_777 ?_
  refine zG_aload_n X dL_law_778 rfl ?_
  refine zG_callH (as2 := [_, _, _, _]) rfl X Y Nn hw dL_law_779 wl_wheel.1 iniL wl_wheel.2.1 (by decide) (by decide) wl_wheel.2.2 (show Cond.methodLink RL 121 yL_wheel ∈ lw_tbl from List.mem_of_getElem? (i := 688) (by decide +kernel)) rfl (Nat.le_of_ble_eq_true rfl) (Nat.le_of_ble_eq_true rfl) hce hsl (Nat.le_of_ble_eq_true rfl) ?_
  intro v I2 G2 F2 hP
  obtain ⟨rfl, PM, hM, hj⟩ := hj0 v I2 G2 F2 hP
  refine zG_istore X dL_law_782 (by decide) rfl ?_
  refine zG_aload_n X dL_law_784 rfl ?_
  refine zL_arg X hX hbl hN (i := i) 1 rfl rfl (by omega) (by omega) dL_law_785 dL_law_786 dL_law_788 dL_law_789 dL_law_790 ?_
  refine zL_arg X hX hbl hN (i := i) 2 rfl rfl (by omega) (by omega) dL_law_791 dL_law_792 dL_law_794 dL_law_795 dL_law_796 ?_
  refine zG_callV (as2 := [_, _]) rfl X hM dL_law_797 mv_X5_wheel ml_L_123 rfl rfl (by decide) rfl (Nat.le_of_ble_eq_true rfl) (Nat.le_of_ble_eq_true rfl) hce hsl (Nat.le_of_ble_eq_true rfl) ?_
  intro v3 I3 G3 F3 hP3
  obtain ⟨aM, J3, b3, rfl, rfl, h4, hG, hI⟩ := hj v3 I3 G3 F3 hP3
  refine zG_istore X dL_law_800 (by decide) rfl ?_
  refine zG_aload_n X dL_law_802 rfl ?_
  refine zj_callV1 (as2 := []) X (k_X5_thrown lo 10 J3 G3 F3) dL_law_803 mv_X5_thrown ml_L_89 rfl rfl (by decide) rfl rfl (Nat.le_of_ble_eq_true rfl) (Nat.le_of_ble_eq_true rfl) hce hsl (Nat.le_of_ble_eq_true rfl) ?_
  rw [h4]
  refine zG_iload X dL_law_806 rfl ?_
  refine zG_icmp_eq X dL_law_808 (tgt := 813) (by decide) (fun _ => ?_) (fun h => absurd rfl h)
  refine zG_iload X dL_law_813 rfl ?_
  refine zj_if_ne X dL_law_815 (tgt := 830) (by decide) hr (fun _ => zG_goto X dL_law_830 (tgt := 1486) (by decide) (zG_sub (zle_set (zle_set zle_rf (fun v h => by cases h)) (fun v h => by cases h)) (k _ _ _ _ hI))) (fun h0 => ?_)
  refine zG_aload_n X dL_law_818 rfl ?_
  refine zj_iconst X dL_law_819 ?_
  refine zj_laload X dL_law_820 rfl (by decide) 0 rfl (by decide) ?_
  refine zG_iload X dL_law_821 rfl ?_
  refine zG_i2l X dL_law_823 ?_
  exact zG_lcmp_eq X dL_law_824 dL_law_825 (tgt := 830) (by decide) (fun _ => zG_goto X dL_law_830 (tgt := 1486) (by decide) (zG_sub (zle_set (zle_set zle_rf (fun v h => by cases h)) (fun v h => by cases h)) (k _ _ _ _ hI))) (fun h => absurd (hG h0) h)
set_option maxHeartbeats 4000000 in
set_option maxRecDepth 100000 in
theorem lc_10 {p : Program} {l : Launch} {e : Env} {s : State} {m : MethodId} {args : Array Value} {below : List Frame} {meth : Method} {c : Code} {D : va_G} {cA : Nat → ClassId} {lo : Nat} {cells slots : Nat} {Q : State → Prop} {J : Nat → Nat → Int} {G : Nat → Nat → Int64} {F : Nat → Nat → Option Nat} {b1 : Nat → Nat} {nm : String} (X : zCx p l s m meth c (yLn nm) cL_law 9 ret D cA) (Y : zXS lo s) (Nn : zNC s) {b N : Nat} {xs : Nat → Int32} (hX : va_X b N xs s s.heap) (hbl : b < lo) (hN : N ≤ 2560) {i : Int} (hi0 : 0 ≤ i) (hi : i + 5 ≤ N) (hce : cells + 1 ≤ 601024) (hsl : slots + 6 ≤ 7293034) (I : zInv J G F b1) (k : ∀ J3 G3 F3 b3, zInv J3 G3 F3 b3 → zG p l e room_1 s m args below meth c D cA lo 9 (cells + 1) (slots + 6) Q 57 (zM J3) G3 F3 (lwL b lo i) [] 1486) : zG p l e room_1 s m args below meth c D cA lo 9 cells slots Q 57 (zM J) G F (lwL b lo i) [] 833 := by
  obtain ⟨r, P, hr, hw, hj0⟩ := pl_value (lo := lo) I (zr_x (x := (xs (i + 1).toNat)))
  refine zG_aload_n X dL_law_833 rfl ?_
  refine zL_arg X hX hbl hN (i := i) 1 rfl rfl (by omega) (by omega) dL_law_834 dL_law_835 dL_law_837 dL_law_838 dL_law_839 ?_
  refine zG_aload_n X dL_law_840 rfl ?_
  refine zG_callH (as2 := [_, _, _]) rfl X Y Nn hw dL_law_841 wl_value.1 iniL wl_value.2.1 (by decide) (by decide) wl_value.2.2 (show Cond.methodLink RL 124 yL_value ∈ lw_tbl from List.mem_of_getElem? (i := 696) (by decide +kernel)) rfl (Nat.le_of_ble_eq_true rfl) (Nat.le_of_ble_eq_true rfl) hce hsl (Nat.le_of_ble_eq_true rfl) ?_
  intro v I2 G2 F2 hP
  obtain ⟨rfl, PM, hM, hj⟩ := hj0 v I2 G2 F2 hP
  refine zG_istore X dL_law_844 (by decide) rfl ?_
  refine zG_aload_n X dL_law_846 rfl ?_
  refine zL_arg X hX hbl hN (i := i) 1 rfl rfl (by omega) (by omega) dL_law_847 dL_law_848 dL_law_850 dL_law_851 dL_law_852 ?_
  refine zG_callV (as2 := [_]) rfl X hM dL_law_853 mv_X5_value ml_L_126 rfl rfl (by decide) rfl (Nat.le_of_ble_eq_true rfl) (Nat.le_of_ble_eq_true rfl) hce hsl (Nat.le_of_ble_eq_true rfl) ?_
  intro v3 I3 G3 F3 hP3
  obtain ⟨aM, J3, b3, rfl, rfl, h4, hG, hI⟩ := hj v3 I3 G3 F3 hP3
  refine zG_istore X dL_law_856 (by decide) rfl ?_
  refine zG_aload_n X dL_law_858 rfl ?_
  refine zj_callV1 (as2 := []) X (k_X5_thrown lo 10 J3 G3 F3) dL_law_859 mv_X5_thrown ml_L_89 rfl rfl (by decide) rfl rfl (Nat.le_of_ble_eq_true rfl) (Nat.le_of_ble_eq_true rfl) hce hsl (Nat.le_of_ble_eq_true rfl) ?_
  rw [h4]
  refine zG_iload X dL_law_862 rfl ?_
  refine zG_icmp_eq X dL_law_864 (tgt := 869) (by decide) (fun _ => ?_) (fun h => absurd rfl h)
  refine zG_iload X dL_law_869 rfl ?_
  refine zj_if_ne X dL_law_871 (tgt := 886) (by decide) hr (fun _ => zG_goto X dL_law_886 (tgt := 1486) (by decide) (zG_sub (zle_set (zle_set zle_rf (fun v h => by cases h)) (fun v h => by cases h)) (k _ _ _ _ hI))) (fun h0 => ?_)
  refine zG_aload_n X dL_law_874 rfl ?_
  refine zj_iconst X dL_law_875 ?_
  refine zj_laload X dL_law_876 rfl (by decide) 0 rfl (by decide) ?_
  refine zG_iload X dL_law_877 rfl ?_
  refine zG_i2l X dL_law_879 ?_
  exact zG_lcmp_eq X dL_law_880 dL_law_881 (tgt := 886) (by decide) (fun _ => zG_goto X dL_law_886 (tgt := 1486) (by decide) (zG_sub (zle_set (zle_set zle_rf (fun v h => by cases h)) (fun v h => by cases h)) (k _ _ _ _ hI))) (fun h => absurd (hG h0) h)
set_option maxHeartbeats 4000000 in
set_option maxRecDepth 100000 in
theorem lc_11 {p : Program} {l : Launch} {e : Env} {s : State} {m : MethodId} {args : Array Value} {below : List Frame} {meth : Method} {c : Code} {D : va_G} {cA : Nat → ClassId} {lo : Nat} {cells slots : Nat} {Q : State → Prop} {J : Nat → Nat → Int} {G : Nat → Nat → Int64} {F : Nat → Nat → Option Nat} {b1 : Nat → Nat} {nm : String} (X : zCx p l s m meth c (yLn nm) cL_law 9 ret D cA) (Y : zXS lo s) (Nn : zNC s) {b N : Nat} {xs : Nat → Int32} (hX : va_X b N xs s s.heap) (hbl : b < lo) (hN : N ≤ 2560) {i : Int} (hi0 : 0 ≤ i) (hi : i + 5 ≤ N) (hce : cells + 1 ≤ 601024) (hsl : slots + 6 ≤ 7293034) (I : zInv J G F b1) (k : ∀ J3 G3 F3 b3, zInv J3 G3 F3 b3 → zG p l e room_1 s m args below meth c D cA lo 9 (cells + 1) (slots + 6) Q 57 (zM J3) G3 F3 (lwL b lo i) [] 1486) : zG p l e room_1 s m args below meth c D cA lo 9 cells slots Q 57 (zM J) G F (lwL b lo i) [] 889 := by
  obtain ⟨r, P, hr, hw, hj0⟩ := pl_highWater (lo := lo) I (zr_x (x := (xs (i + 1).toNat)))
  refine zG_aload_n X dL_law_889 rfl ?_
  refine zL_arg X hX hbl hN (i := i) 1 rfl rfl (by omega) (by omega) dL_law_890 dL_law_891 dL_law_893 dL_law_894 dL_law_895 ?_
  refine zG_aload_n X dL_law_896 rfl ?_
  refine zG_callH (as2 := [_, _, _]) rfl X Y Nn hw dL_law_897 wl_highWater.1 iniL wl_highWater.2.1 (by decide) (by decide) wl_highWater.2.2 (show Cond.methodLink RL 127 yL_highWater ∈ lw_tbl from List.mem_of_getElem? (i := 703) (by decide +kernel)) rfl (Nat.le_of_ble_eq_true rfl) (Nat.le_of_ble_eq_true rfl) hce hsl (Nat.le_of_ble_eq_true rfl) ?_
  intro v I2 G2 F2 hP
  obtain ⟨rfl, PM, hM, hj⟩ := hj0 v I2 G2 F2 hP
  refine zG_istore X dL_law_900 (by decide) rfl ?_
  refine zG_aload_n X dL_law_902 rfl ?_
  refine zL_arg X hX hbl hN (i := i) 1 rfl rfl (by omega) (by omega) dL_law_903 dL_law_904 dL_law_906 dL_law_907 dL_law_908 ?_
  refine zG_callV (as2 := [_]) rfl X hM dL_law_909 mv_X5_highWater ml_L_129 rfl rfl (by decide) rfl (Nat.le_of_ble_eq_true rfl) (Nat.le_of_ble_eq_true rfl) hce hsl (Nat.le_of_ble_eq_true rfl) ?_
  intro v3 I3 G3 F3 hP3
  obtain ⟨aM, J3, b3, rfl, rfl, h4, hG, hI⟩ := hj v3 I3 G3 F3 hP3
  refine zG_istore X dL_law_912 (by decide) rfl ?_
  refine zG_aload_n X dL_law_914 rfl ?_
  refine zj_callV1 (as2 := []) X (k_X5_thrown lo 10 J3 G3 F3) dL_law_915 mv_X5_thrown ml_L_89 rfl rfl (by decide) rfl rfl (Nat.le_of_ble_eq_true rfl) (Nat.le_of_ble_eq_true rfl) hce hsl (Nat.le_of_ble_eq_true rfl) ?_
  rw [h4]
  refine zG_iload X dL_law_918 rfl ?_
  refine zG_icmp_eq X dL_law_920 (tgt := 925) (by decide) (fun _ => ?_) (fun h => absurd rfl h)
  refine zG_iload X dL_law_925 rfl ?_
  refine zj_if_ne X dL_law_927 (tgt := 942) (by decide) hr (fun _ => zG_goto X dL_law_942 (tgt := 1486) (by decide) (zG_sub (zle_set (zle_set zle_rf (fun v h => by cases h)) (fun v h => by cases h)) (k _ _ _ _ hI))) (fun h0 => ?_)
  refine zG_aload_n X dL_law_930 rfl ?_
  refine zj_iconst X dL_law_931 ?_
  refine zj_laload X dL_law_932 rfl (by decide) 0 rfl (by decide) ?_
  refine zG_iload X dL_law_933 rfl ?_
  refine zG_i2l X dL_law_935 ?_
  exact zG_lcmp_eq X dL_law_936 dL_law_937 (tgt := 942) (by decide) (fun _ => zG_goto X dL_law_942 (tgt := 1486) (by decide) (zG_sub (zle_set (zle_set zle_rf (fun v h => by cases h)) (fun v h => by cases h)) (k _ _ _ _ hI))) (fun h => absurd (hG h0) h)
set_option maxHeartbeats 4000000 in
set_option maxRecDepth 100000 in
theorem lc_12 {p : Program} {l : Launch} {e : Env} {s : State} {m : MethodId} {args : Array Value} {below : List Frame} {meth : Method} {c : Code} {D : va_G} {cA : Nat → ClassId} {lo : Nat} {cells slots : Nat} {Q : State → Prop} {J : Nat → Nat → Int} {G : Nat → Nat → Int64} {F : Nat → Nat → Option Nat} {b1 : Nat → Nat} {nm : String} (X : zCx p l s m meth c (yLn nm) cL_law 9 ret D cA) (Y : zXS lo s) (Nn : zNC s) {b N : Nat} {xs : Nat → Int32} (hX : va_X b N xs s s.heap) (hbl : b < lo) (hN : N ≤ 2560) {i : Int} (hi0 : 0 ≤ i) (hi : i + 5 ≤ N) (hce : cells + 1 ≤ 601024) (hsl : slots + 6 ≤ 7293034) (I : zInv J G F b1) (k : ∀ J3 G3 F3 b3, zInv J3 G3 F3 b3 → zG p l e room_1 s m args below meth c D cA lo 9 (cells + 1) (slots + 6) Q 57 (zM J3) G3 F3 (lwL b lo i) [] 1486) : zG p l e room_1 s m args below meth c D cA lo 9 cells slots Q 57 (zM J) G F (lwL b lo i) [] 945 := by
  obtain ⟨r, P, hr, hw, hj0⟩ := pl_market (lo := lo) I (zr_x (x := (xs (i + 1).toNat)))
  refine zG_aload_n X dL_law_945 rfl ?_
  refine zL_arg X hX hbl hN (i := i) 1 rfl rfl (by omega) (by omega) dL_law_946 dL_law_947 dL_law_949 dL_law_950 dL_law_951 ?_
  refine zG_aload_n X dL_law_952 rfl ?_
  refine zG_callH (as2 := [_, _, _]) rfl X Y Nn hw dL_law_953 wl_market.1 iniL wl_market.2.1 (by decide) (by decide) wl_market.2.2 (show Cond.methodLink RL 130 yL_market ∈ lw_tbl from List.mem_of_getElem? (i := 711) (by decide +kernel)) rfl (Nat.le_of_ble_eq_true rfl) (Nat.le_of_ble_eq_true rfl) hce hsl (Nat.le_of_ble_eq_true rfl) ?_
  intro v I2 G2 F2 hP
  obtain ⟨rfl, PM, hM, hj⟩ := hj0 v I2 G2 F2 hP
  refine zG_istore X dL_law_956 (by decide) rfl ?_
  refine zG_aload_n X dL_law_958 rfl ?_
  refine zL_arg X hX hbl hN (i := i) 1 rfl rfl (by omega) (by omega) dL_law_959 dL_law_960 dL_law_962 dL_law_963 dL_law_964 ?_
  refine zG_callV (as2 := [_]) rfl X hM dL_law_965 mv_X5_market ml_L_132 rfl rfl (by decide) rfl (Nat.le_of_ble_eq_true rfl) (Nat.le_of_ble_eq_true rfl) hce hsl (Nat.le_of_ble_eq_true rfl) ?_
  intro v3 I3 G3 F3 hP3
  obtain ⟨aM, J3, b3, rfl, rfl, h4, hG, hI⟩ := hj v3 I3 G3 F3 hP3
  refine zG_istore X dL_law_968 (by decide) rfl ?_
  refine zG_aload_n X dL_law_970 rfl ?_
  refine zj_callV1 (as2 := []) X (k_X5_thrown lo 10 J3 G3 F3) dL_law_971 mv_X5_thrown ml_L_89 rfl rfl (by decide) rfl rfl (Nat.le_of_ble_eq_true rfl) (Nat.le_of_ble_eq_true rfl) hce hsl (Nat.le_of_ble_eq_true rfl) ?_
  rw [h4]
  refine zG_iload X dL_law_974 rfl ?_
  refine zG_icmp_eq X dL_law_976 (tgt := 981) (by decide) (fun _ => ?_) (fun h => absurd rfl h)
  refine zG_iload X dL_law_981 rfl ?_
  refine zj_if_ne X dL_law_983 (tgt := 998) (by decide) hr (fun _ => zG_goto X dL_law_998 (tgt := 1486) (by decide) (zG_sub (zle_set (zle_set zle_rf (fun v h => by cases h)) (fun v h => by cases h)) (k _ _ _ _ hI))) (fun h0 => ?_)
  refine zG_aload_n X dL_law_986 rfl ?_
  refine zj_iconst X dL_law_987 ?_
  refine zj_laload X dL_law_988 rfl (by decide) 0 rfl (by decide) ?_
  refine zG_iload X dL_law_989 rfl ?_
  refine zG_i2l X dL_law_991 ?_
  exact zG_lcmp_eq X dL_law_992 dL_law_993 (tgt := 998) (by decide) (fun _ => zG_goto X dL_law_998 (tgt := 1486) (by decide) (zG_sub (zle_set (zle_set zle_rf (fun v h => by cases h)) (fun v h => by cases h)) (k _ _ _ _ hI))) (fun h => absurd (hG h0) h)
set_option maxHeartbeats 4000000 in
set_option maxRecDepth 100000 in
theorem lc_13 {p : Program} {l : Launch} {e : Env} {s : State} {m : MethodId} {args : Array Value} {below : List Frame} {meth : Method} {c : Code} {D : va_G} {cA : Nat → ClassId} {lo : Nat} {cells slots : Nat} {Q : State → Prop} {J : Nat → Nat → Int} {G : Nat → Nat → Int64} {F : Nat → Nat → Option Nat} {b1 : Nat → Nat} {nm : String} (X : zCx p l s m meth c (yLn nm) cL_law 9 ret D cA) (Y : zXS lo s) (Nn : zNC s) {b N : Nat} {xs : Nat → Int32} (hX : va_X b N xs s s.heap) (hbl : b < lo) (hN : N ≤ 2560) {i : Int} (hi0 : 0 ≤ i) (hi : i + 5 ≤ N) (hce : cells + 1 ≤ 601024) (hsl : slots + 6 ≤ 7293034) (I : zInv J G F b1) (k : ∀ J3 G3 F3 b3, zInv J3 G3 F3 b3 → zG p l e room_1 s m args below meth c D cA lo 9 (cells + 1) (slots + 6) Q 57 (zM J3) G3 F3 (lwL b lo i) [] 1486) : zG p l e room_1 s m args below meth c D cA lo 9 cells slots Q 57 (zM J) G F (lwL b lo i) [] 1001 := by
  obtain ⟨PC, hc, hj0⟩ := ps_nextMarket (lo := lo) I (N := 2001) rfl
  refine zG_aload_n X dL_law_1001 rfl ?_
  refine zG_callV (as2 := []) rfl X hc dL_law_1002 mv_X4_nextMarket ml_L_133 rfl rfl (by decide) rfl (Nat.le_of_ble_eq_true rfl) (Nat.le_of_ble_eq_true rfl) (by show cells + 0 ≤ 601024; omega) (by show slots + 0 ≤ 7293034; omega) (Nat.le_of_ble_eq_true rfl) ?_
  intro v I2 G2 F2 hP
  obtain ⟨v0, rfl, PM, hM, hj⟩ := hj0 v I2 G2 F2 hP
  refine zG_aload_n X dL_law_1005 rfl ?_
  refine zG_callV (as2 := []) rfl X hM dL_law_1006 mv_X5_nextMarket ml_L_136 rfl rfl (by decide) rfl (Nat.le_of_ble_eq_true rfl) (Nat.le_of_ble_eq_true rfl) (by show cells + 0 + 0 ≤ 601024; omega) (by show slots + 0 + 0 ≤ 7293034; omega) (Nat.le_of_ble_eq_true rfl) ?_
  intro v3 I3 G3 F3 hP3
  obtain ⟨rfl, J3, b3, rfl, hI⟩ := hj v3 I3 G3 F3 hP3
  exact zG_icmp_eq X dL_law_1009 (tgt := 1486) (by decide) (fun _ => zG_widen (mc := cells + 1) (ms := slots + 6) (Qc := fun _ _ _ _ => True) (free := fun _ => True) (by omega) (by omega) ((k _ _ _ _ hI))) (fun h => absurd rfl h)
set_option maxHeartbeats 4000000 in
set_option maxRecDepth 100000 in
theorem lc_14 {p : Program} {l : Launch} {e : Env} {s : State} {m : MethodId} {args : Array Value} {below : List Frame} {meth : Method} {c : Code} {D : va_G} {cA : Nat → ClassId} {lo : Nat} {cells slots : Nat} {Q : State → Prop} {J : Nat → Nat → Int} {G : Nat → Nat → Int64} {F : Nat → Nat → Option Nat} {b1 : Nat → Nat} {nm : String} (X : zCx p l s m meth c (yLn nm) cL_law 9 ret D cA) (Y : zXS lo s) (Nn : zNC s) {b N : Nat} {xs : Nat → Int32} (hX : va_X b N xs s s.heap) (hbl : b < lo) (hN : N ≤ 2560) {i : Int} (hi0 : 0 ≤ i) (hi : i + 5 ≤ N) (hce : cells + 1 ≤ 601024) (hsl : slots + 6 ≤ 7293034) (I : zInv J G F b1) (k : ∀ J3 G3 F3 b3, zInv J3 G3 F3 b3 → zG p l e room_1 s m args below meth c D cA lo 9 (cells + 1) (slots + 6) Q 57 (zM J3) G3 F3 (lwL b lo i) [] 1486) : zG p l e room_1 s m args below meth c D cA lo 9 cells slots Q 57 (zM J) G F (lwL b lo i) [] 1014 := by
  obtain ⟨r, P, hr, hw, hj0⟩ := pl_nextMeeting (lo := lo) I (zr_x (x := (xs (i + 1).toNat))) (N := 30001) rfl
  refine zG_aload_n X dL_law_1014 rfl ?_
  refine zL_arg X hX hbl hN (i := i) 1 rfl rfl (by omega) (by omega) dL_law_1015 dL_law_1016 dL_law_1018 dL_law_1019 dL_law_1020 ?_
  refine zG_aload_n X dL_law_1021 rfl ?_
  refine zG_callH (as2 := [_, _, _]) rfl X Y Nn hw dL_law_1022 wl_nextMeeting.1 iniL wl_nextMeeting.2.1 (by decide) (by decide) wl_nextMeeting.2.2 (show Cond.methodLink RL 137 yL_nextMeeting ∈ lw_tbl from List.mem_of_getElem? (i := 718) (by decide +kernel)) rfl (Nat.le_of_ble_eq_true rfl) (Nat.le_of_ble_eq_true rfl) hce hsl (Nat.le_of_ble_eq_true rfl) ?_
  intro v I2 G2 F2 hP
  obtain ⟨rfl, PM, hM, hj⟩ := hj0 v I2 G2 F2 hP
  refine zG_istore X dL_law_1025 (by decide) rfl ?_
  refine zG_aload_n X dL_law_1027 rfl ?_
  refine zL_arg X hX hbl hN (i := i) 1 rfl rfl (by omega) (by omega) dL_law_1028 dL_law_1029 dL_law_1031 dL_law_1032 dL_law_1033 ?_
  refine zG_callV (as2 := [_]) rfl X hM dL_law_1034 mv_X5_nextMeeting ml_L_139 rfl rfl (by decide) rfl (Nat.le_of_ble_eq_true rfl) (Nat.le_of_ble_eq_true rfl) hce hsl (Nat.le_of_ble_eq_true rfl) ?_
  intro v3 I3 G3 F3 hP3
  obtain ⟨aM, J3, b3, rfl, rfl, h4, hG, hI⟩ := hj v3 I3 G3 F3 hP3
  refine zG_istore X dL_law_1037 (by decide) rfl ?_
  refine zG_aload_n X dL_law_1039 rfl ?_
  refine zj_callV1 (as2 := []) X (k_X5_thrown lo 10 J3 G3 F3) dL_law_1040 mv_X5_thrown ml_L_89 rfl rfl (by decide) rfl rfl (Nat.le_of_ble_eq_true rfl) (Nat.le_of_ble_eq_true rfl) hce hsl (Nat.le_of_ble_eq_true rfl) ?_
  rw [h4]
  refine zG_iload X dL_law_1043 rfl ?_
  refine zG_icmp_eq X dL_law_1045 (tgt := 1050) (by decide) (fun _ => ?_) (fun h => absurd rfl h)
  refine zG_iload X dL_law_1050 rfl ?_
  refine zj_if_ne X dL_law_1052 (tgt := 1067) (by decide) hr (fun _ => zG_goto X dL_law_1067 (tgt := 1486) (by decide) (zG_sub (zle_set (zle_set zle_rf (fun v h => by cases h)) (fun v h => by cases h)) (k _ _ _ _ hI))) (fun h0 => ?_)
  refine zG_aload_n X dL_law_1055 rfl ?_
  refine zj_iconst X dL_law_1056 ?_
  refine zj_laload X dL_law_1057 rfl (by decide) 0 rfl (by decide) ?_
  refine zG_iload X dL_law_1058 rfl ?_
  refine zG_i2l X dL_law_1060 ?_
  exact zG_lcmp_eq X dL_law_1061 dL_law_1062 (tgt := 1067) (by decide) (fun _ => zG_goto X dL_law_1067 (tgt := 1486) (by decide) (zG_sub (zle_set (zle_set zle_rf (fun v h => by cases h)) (fun v h => by cases h)) (k _ _ _ _ hI))) (fun h => absurd (hG h0) h)
set_option maxHeartbeats 4000000 in
set_option maxRecDepth 100000 in
theorem lc_15 {p : Program} {l : Launch} {e : Env} {s : State} {m : MethodId} {args : Array Value} {below : List Frame} {meth : Method} {c : Code} {D : va_G} {cA : Nat → ClassId} {lo : Nat} {cells slots : Nat} {Q : State → Prop} {J : Nat → Nat → Int} {G : Nat → Nat → Int64} {F : Nat → Nat → Option Nat} {b1 : Nat → Nat} {nm : String} (X : zCx p l s m meth c (yLn nm) cL_law 9 ret D cA) (Y : zXS lo s) (Nn : zNC s) {b N : Nat} {xs : Nat → Int32} (hX : va_X b N xs s s.heap) (hbl : b < lo) (hN : N ≤ 2560) {i : Int} (hi0 : 0 ≤ i) (hi : i + 5 ≤ N) (hce : cells + 1 ≤ 601024) (hsl : slots + 6 ≤ 7293034) (I : zInv J G F b1) (k : ∀ J3 G3 F3 b3, zInv J3 G3 F3 b3 → zG p l e room_1 s m args below meth c D cA lo 9 (cells + 1) (slots + 6) Q 57 (zM J3) G3 F3 (lwL b lo i) [] 1486) : zG p l e room_1 s m args below meth c D cA lo 9 cells slots Q 57 (zM J) G F (lwL b lo i) [] 1070 := by
  obtain ⟨r, P, hr, hw, hj0⟩ := pl_byRemainders (lo := lo) I (zr_x (x := (xs (i + 1).toNat)))
  refine zG_aload_n X dL_law_1070 rfl ?_
  refine zL_arg X hX hbl hN (i := i) 1 rfl rfl (by omega) (by omega) dL_law_1071 dL_law_1072 dL_law_1074 dL_law_1075 dL_law_1076 ?_
  refine zG_aload_n X dL_law_1077 rfl ?_
  refine zG_callH (as2 := [_, _, _]) rfl X Y Nn hw dL_law_1078 wl_byRemainders.1 iniL wl_byRemainders.2.1 (by decide) (by decide) wl_byRemainders.2.2 (show Cond.methodLink RL 140 yL_byRemainders ∈ lw_tbl from List.mem_of_getElem? (i := 737) (by decide +kernel)) rfl (Nat.le_of_ble_eq_true rfl) (Nat.le_of_ble_eq_true rfl) hce hsl (Nat.le_of_ble_eq_true rfl) ?_
  intro v I2 G2 F2 hP
  obtain ⟨rfl, PM, hM, hj⟩ := hj0 v I2 G2 F2 hP
  refine zG_istore X dL_law_1081 (by decide) rfl ?_
  refine zG_aload_n X dL_law_1083 rfl ?_
  refine zL_arg X hX hbl hN (i := i) 1 rfl rfl (by omega) (by omega) dL_law_1084 dL_law_1085 dL_law_1087 dL_law_1088 dL_law_1089 ?_
  refine zG_callV (as2 := [_]) rfl X hM dL_law_1090 mv_X5_byRemainders ml_L_142 rfl rfl (by decide) rfl (Nat.le_of_ble_eq_true rfl) (Nat.le_of_ble_eq_true rfl) hce hsl (Nat.le_of_ble_eq_true rfl) ?_
  intro v3 I3 G3 F3 hP3
  obtain ⟨aM, J3, b3, rfl, rfl, h4, hG, hI⟩ := hj v3 I3 G3 F3 hP3
  refine zG_lstore X dL_law_1093 (by decide) rfl ?_
  refine zG_aload_n X dL_law_1095 rfl ?_
  refine zj_callV1 (as2 := []) X (k_X5_thrown lo 10 J3 G3 F3) dL_law_1096 mv_X5_thrown ml_L_89 rfl rfl (by decide) rfl rfl (Nat.le_of_ble_eq_true rfl) (Nat.le_of_ble_eq_true rfl) hce hsl (Nat.le_of_ble_eq_true rfl) ?_
  rw [h4]
  refine zG_iload X dL_law_1099 rfl ?_
  refine zG_icmp_eq X dL_law_1101 (tgt := 1106) (by decide) (fun _ => ?_) (fun h => absurd rfl h)
  refine zG_iload X dL_law_1106 rfl ?_
  refine zj_if_ne X dL_law_1108 (tgt := 1122) (by decide) hr (fun _ => zG_goto X dL_law_1122 (tgt := 1486) (by decide) (zG_sub (zle_set (zle_set (zle_set zle_rf (fun v h => by cases h)) (fun v h => by cases h)) (fun v h => by cases h)) (k _ _ _ _ hI))) (fun h0 => ?_)
  refine zG_aload_n X dL_law_1111 rfl ?_
  refine zj_iconst X dL_law_1112 ?_
  refine zj_laload X dL_law_1113 rfl (by decide) 0 rfl (by decide) ?_
  refine zG_lload X dL_law_1114 rfl ?_
  exact zG_lcmp_eq X dL_law_1116 dL_law_1117 (tgt := 1122) (by decide) (fun _ => zG_goto X dL_law_1122 (tgt := 1486) (by decide) (zG_sub (zle_set (zle_set (zle_set zle_rf (fun v h => by cases h)) (fun v h => by cases h)) (fun v h => by cases h)) (k _ _ _ _ hI))) (fun h => absurd (hG h0) h)
set_option maxHeartbeats 4000000 in
set_option maxRecDepth 100000 in
theorem lc_16 {p : Program} {l : Launch} {e : Env} {s : State} {m : MethodId} {args : Array Value} {below : List Frame} {meth : Method} {c : Code} {D : va_G} {cA : Nat → ClassId} {lo : Nat} {cells slots : Nat} {Q : State → Prop} {J : Nat → Nat → Int} {G : Nat → Nat → Int64} {F : Nat → Nat → Option Nat} {b1 : Nat → Nat} {nm : String} (X : zCx p l s m meth c (yLn nm) cL_law 9 ret D cA) (Y : zXS lo s) (Nn : zNC s) {b N : Nat} {xs : Nat → Int32} (hX : va_X b N xs s s.heap) (hbl : b < lo) (hN : N ≤ 2560) {i : Int} (hi0 : 0 ≤ i) (hi : i + 5 ≤ N) (hce : cells + 1 ≤ 601024) (hsl : slots + 6 ≤ 7293034) (I : zInv J G F b1) (k : ∀ J3 G3 F3 b3, zInv J3 G3 F3 b3 → zG p l e room_1 s m args below meth c D cA lo 9 (cells + 1) (slots + 6) Q 57 (zM J3) G3 F3 (lwL b lo i) [] 1486) : zG p l e room_1 s m args below meth c D cA lo 9 cells slots Q 57 (zM J) G F (lwL b lo i) [] 1125 := by
  obtain ⟨r, P, hr, hw, hj0⟩ := pl_multiple (lo := lo) I (zr_x (x := (xs (i + 1).toNat)))
  refine zG_aload_n X dL_law_1125 rfl ?_
  refine zL_arg X hX hbl hN (i := i) 1 rfl rfl (by omega) (by omega) dL_law_1126 dL_law_1127 dL_law_1129 dL_law_1130 dL_law_1131 ?_
  refine zG_aload_n X dL_law_1132 rfl ?_
  refine zG_callH (as2 := [_, _, _]) rfl X Y Nn hw dL_law_1133 wl_multiple.1 iniL wl_multiple.2.1 (by decide) (by decide) wl_multiple.2.2 (show Cond.methodLink RL 143 yL_multiple ∈ lw_tbl from List.mem_of_getElem? (i := 751) (by decide +kernel)) rfl (Nat.le_of_ble_eq_true rfl) (Nat.le_of_ble_eq_true rfl) hce hsl (Nat.le_of_ble_eq_true rfl) ?_
  intro v I2 G2 F2 hP
  obtain ⟨rfl, PM, hM, hj⟩ := hj0 v I2 G2 F2 hP
  refine zG_istore X dL_law_1136 (by decide) rfl ?_
  refine zG_aload_n X dL_law_1138 rfl ?_
  refine zL_arg X hX hbl hN (i := i) 1 rfl rfl (by omega) (by omega) dL_law_1139 dL_law_1140 dL_law_1142 dL_law_1143 dL_law_1144 ?_
  refine zG_callV (as2 := [_]) rfl X hM dL_law_1145 mv_X5_multiple ml_L_145 rfl rfl (by decide) rfl (Nat.le_of_ble_eq_true rfl) (Nat.le_of_ble_eq_true rfl) hce hsl (Nat.le_of_ble_eq_true rfl) ?_
  intro v3 I3 G3 F3 hP3
  obtain ⟨aM, J3, b3, rfl, rfl, h4, hG, hI⟩ := hj v3 I3 G3 F3 hP3
  refine zG_lstore X dL_law_1148 (by decide) rfl ?_
  refine zG_aload_n X dL_law_1150 rfl ?_
  refine zj_callV1 (as2 := []) X (k_X5_thrown lo 10 J3 G3 F3) dL_law_1151 mv_X5_thrown ml_L_89 rfl rfl (by decide) rfl rfl (Nat.le_of_ble_eq_true rfl) (Nat.le_of_ble_eq_true rfl) hce hsl (Nat.le_of_ble_eq_true rfl) ?_
  rw [h4]
  refine zG_iload X dL_law_1154 rfl ?_
  refine zG_icmp_eq X dL_law_1156 (tgt := 1161) (by decide) (fun _ => ?_) (fun h => absurd rfl h)
  refine zG_iload X dL_law_1161 rfl ?_
  refine zj_if_ne X dL_law_1163 (tgt := 1177) (by decide) hr (fun _ => zG_goto X dL_law_1177 (tgt := 1486) (by decide) (zG_sub (zle_set (zle_set (zle_set zle_rf (fun v h => by cases h)) (fun v h => by cases h)) (fun v h => by cases h)) (k _ _ _ _ hI))) (fun h0 => ?_)
  refine zG_aload_n X dL_law_1166 rfl ?_
  refine zj_iconst X dL_law_1167 ?_
  refine zj_laload X dL_law_1168 rfl (by decide) 0 rfl (by decide) ?_
  refine zG_lload X dL_law_1169 rfl ?_
  exact zG_lcmp_eq X dL_law_1171 dL_law_1172 (tgt := 1177) (by decide) (fun _ => zG_goto X dL_law_1177 (tgt := 1486) (by decide) (zG_sub (zle_set (zle_set (zle_set zle_rf (fun v h => by cases h)) (fun v h => by cases h)) (fun v h => by cases h)) (k _ _ _ _ hI))) (fun h => absurd (hG h0) h)
set_option maxHeartbeats 4000000 in
set_option maxRecDepth 100000 in
theorem lc_17 {p : Program} {l : Launch} {e : Env} {s : State} {m : MethodId} {args : Array Value} {below : List Frame} {meth : Method} {c : Code} {D : va_G} {cA : Nat → ClassId} {lo : Nat} {cells slots : Nat} {Q : State → Prop} {J : Nat → Nat → Int} {G : Nat → Nat → Int64} {F : Nat → Nat → Option Nat} {b1 : Nat → Nat} {nm : String} (X : zCx p l s m meth c (yLn nm) cL_law 9 ret D cA) (Y : zXS lo s) (Nn : zNC s) {b N : Nat} {xs : Nat → Int32} (hX : va_X b N xs s s.heap) (hbl : b < lo) (hN : N ≤ 2560) {i : Int} (hi0 : 0 ≤ i) (hi : i + 5 ≤ N) (hce : cells + 1 ≤ 601024) (hsl : slots + 6 ≤ 7293034) (I : zInv J G F b1) (k : ∀ J3 G3 F3 b3, zInv J3 G3 F3 b3 → zG p l e room_1 s m args below meth c D cA lo 9 (cells + 1) (slots + 6) Q 57 (zM J3) G3 F3 (lwL b lo i) [] 1486) : zG p l e room_1 s m args below meth c D cA lo 9 cells slots Q 57 (zM J) G F (lwL b lo i) [] 1180 := by
  obtain ⟨PC, hc, hj0⟩ := ps_comesBack (lo := lo) I (N := 30000) rfl
  refine zG_aload_n X dL_law_1180 rfl ?_
  refine zG_callV (as2 := []) rfl X hc dL_law_1181 mv_X4_comesBack ml_L_146 rfl rfl (by decide) rfl (Nat.le_of_ble_eq_true rfl) (Nat.le_of_ble_eq_true rfl) (by show cells + 0 ≤ 601024; omega) (by show slots + 0 ≤ 7293034; omega) (Nat.le_of_ble_eq_true rfl) ?_
  intro v I2 G2 F2 hP
  obtain ⟨v0, rfl, PM, hM, hj⟩ := hj0 v I2 G2 F2 hP
  refine zG_aload_n X dL_law_1184 rfl ?_
  refine zG_callV (as2 := []) rfl X hM dL_law_1185 mv_X5_comesBack ml_L_149 rfl rfl (by decide) rfl (Nat.le_of_ble_eq_true rfl) (Nat.le_of_ble_eq_true rfl) (by show cells + 0 + 0 ≤ 601024; omega) (by show slots + 0 + 0 ≤ 7293034; omega) (Nat.le_of_ble_eq_true rfl) ?_
  intro v3 I3 G3 F3 hP3
  obtain ⟨rfl, J3, b3, rfl, hI⟩ := hj v3 I3 G3 F3 hP3
  exact zG_icmp_eq X dL_law_1188 (tgt := 1486) (by decide) (fun _ => zG_widen (mc := cells + 1) (ms := slots + 6) (Qc := fun _ _ _ _ => True) (free := fun _ => True) (by omega) (by omega) ((k _ _ _ _ hI))) (fun h => absurd rfl h)
