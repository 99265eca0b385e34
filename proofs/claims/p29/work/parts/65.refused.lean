/-! the law's methods: refused, areWheels -/
theorem L_valueC (lo d : Nat) (hd : 7 ≤ d) {x : Hou} {R : List Hou} (ok : okH x) {u A : Int} (h1 : 0 ≤ u) (h2 : u ≤ 13) (hA : valF x u = A) : zLH lo yL_value cL_value 4 (some .int) [(0, 6, 9, 15)] d 1 6 [.ref (lo + 0), .int (zI u)] x R (zEq (.int (zI A)) x R) := by
  subst hA
  exact L_value lo d hd ok h1 h2
theorem L_wheelN (lo d : Nat) (hd : 7 ≤ d) {x : Hou} {R : List Hou} (ok : okH x) {k : Nat} {v A : Int} (h1 : (k : Int) < x.1 0) (h3 : 0 ≤ v) (h4 : v ≤ 6) (hA : whF x k v = A) : zLH lo yL_wheel cL_wheel 5 (some .int) [(0, 7, 10, 25), (0, 7, 15, 15)] d 1 6 [.ref (lo + 0), .int (zI (k : Int)), .int (zI v)] x R (zEq (.int (zI A)) x R) := by
  subst hA
  have h7 := L_wheel lo d hd (R := R) ok (u := (k : Int)) (v := v) (by omega) h1 h3 h4
  rw [Int.toNat_natCast] at h7
  exact h7
theorem L_wheelI (lo d : Nat) (hd : 7 ≤ d) {x : Hou} {R : List Hou} (ok : okH x) {u v A : Int} (h0 : 0 ≤ u) (h1 : u < x.1 0) (h3 : 0 ≤ v) (h4 : v ≤ 6) (hA : whF x u.toNat v = A) : zLH lo yL_wheel cL_wheel 5 (some .int) [(0, 7, 10, 25), (0, 7, 15, 15)] d 1 6 [.ref (lo + 0), .int (zI u), .int (zI v)] x R (zEq (.int (zI A)) x R) := by
  subst hA
  exact L_wheel lo d hd ok h0 h1 h3 h4
theorem p2_in : ∀ n : Nat, n ≤ 5 → 1 ≤ (2 : Int) ^ n ∧ (2 : Int) ^ n ≤ 32 := by decide
set_option maxHeartbeats 4000000 in
set_option maxRecDepth 100000 in
theorem N_refused (lo d : Nat) (hd : 9 ≤ d) {x : Hou} {R : List Hou} (ok : okH x) : zLN true lo yL_refused cL_refused 5 (some .boolean) d 150 900 [.ref (lo + 0)] x R (zEq (.int (zI 1)) x R) := by
  refine zLN.mk (by decide) wn_refused.2.1 (Nat.le_of_ble_eq_true rfl) ?_
  intro p l e s m args below meth c D cA J0 F0 X Y N
  have hh := okH_h ok
  have hp := p2_in (x.1 0).toNat (by omega)
  refine zl_aload_n X dL_refused_0 rfl ?_
  refine zl_callNq (as2 := [_]) rfl X Y N zZs_K (N_show lo (d - 1) (by omega) ok) dL_refused_1 wn_show.1 iniL wn_show.2.1 (by decide) (by decide) wn_show.2.2 (List.mem_of_getElem? (i := 380) (by decide +kernel)) rfl (by show d - 1 + 1 ≤ d; omega) (by show 19 + 4 + 35 * (d - 1) ≤ 35 * d; omega) (by show _ ≤ 150; omega) (by show _ ≤ 900; omega) (Nat.le_of_ble_eq_true rfl) ?_
  refine zl_lstore_n X dL_refused_4 (by decide) rfl ?_
  refine zl_aload_n X dL_refused_5 rfl ?_
  refine zl_iconst X dL_refused_6 ?_
  refine zl_callHq (as2 := [_, _]) rfl X Y N zZs_K (L_valueC lo (d - 1) (by omega) ok (u := 1) (A := x.1 0) (by decide) (by decide) rfl) dL_refused_7 wl_value iniL (by decide) (by decide) (List.mem_of_getElem? (i := 261) (by decide +kernel)) rfl (by show d - 1 + 1 ≤ d; omega) (by show 19 + 4 + 35 * (d - 1) ≤ 35 * d; omega) (by show _ ≤ 150; omega) (by show _ ≤ 900; omega) (Nat.le_of_ble_eq_true rfl) ?_
  refine zl_istore_n X dL_refused_10 (by decide) rfl ?_
  refine zl_aload_n X dL_refused_11 rfl ?_
  refine zl_iconst X dL_refused_12 ?_
  refine zl_iconst X dL_refused_13 ?_
  refine zl_callHq (as2 := [_, _, _]) rfl X Y N zZs_K (L_addWheel_1 lo (d - 1) (by omega) ok (u := 1) (v := 0) (by first | decide | (unfold zr; omega)) (by first | decide | (unfold zr; omega)) (by omega)) dL_refused_14 wl_addWheel iniL (by decide) (by decide) (List.mem_of_getElem? (i := 494) (by decide +kernel)) rfl (by show d - 1 + 1 ≤ d; omega) (by show 19 + 5 + 35 * (d - 1) ≤ 35 * d; omega) (by show _ ≤ 150; omega) (by show _ ≤ 900; omega) (Nat.le_of_ble_eq_true rfl) ?_
  refine zl_ldc (v := -5000001) X dL_refused_17 (List.mem_of_getElem? (i := 346) (by decide +kernel)) ?_
  refine zl_icmp_ne X dL_refused_19 (tgt := 202) (by decide) (by first | decide | omega) (by first | decide | omega) (fun h_19 => ?_) (fun h_19 => ?_)
  · exact absurd h_19 (by first | decide | omega)
  · refine zl_aload_n X dL_refused_22 rfl ?_
    refine zl_bipush X dL_refused_23 (by decide) ?_
    refine zl_iconst X dL_refused_25 ?_
    refine zl_callHq (as2 := [_, _, _]) rfl X Y N zZs_K (L_addWheel_1 lo (d - 1) (by omega) ok (u := 61) (v := 0) (by first | decide | (unfold zr; omega)) (by first | decide | (unfold zr; omega)) (by omega)) dL_refused_26 wl_addWheel iniL (by decide) (by decide) (List.mem_of_getElem? (i := 494) (by decide +kernel)) rfl (by show d - 1 + 1 ≤ d; omega) (by show 19 + 5 + 35 * (d - 1) ≤ 35 * d; omega) (by show _ ≤ 150; omega) (by show _ ≤ 900; omega) (Nat.le_of_ble_eq_true rfl) ?_
    refine zl_ldc (v := -5000001) X dL_refused_29 (List.mem_of_getElem? (i := 346) (by decide +kernel)) ?_
    refine zl_icmp_ne X dL_refused_31 (tgt := 202) (by decide) (by first | decide | omega) (by first | decide | omega) (fun h_31 => ?_) (fun h_31 => ?_)
    · exact absurd h_31 (by first | decide | omega)
    · refine zl_aload_n X dL_refused_34 rfl ?_
      refine zl_bipush X dL_refused_35 (by decide) ?_
      refine zl_bipush X dL_refused_37 (by decide) ?_
      refine zl_callHq (as2 := [_, _, _]) rfl X Y N zZs_K (L_addWheel_1 lo (d - 1) (by omega) ok (u := 9) (v := 9) (by first | decide | (unfold zr; omega)) (by first | decide | (unfold zr; omega)) (by omega)) dL_refused_39 wl_addWheel iniL (by decide) (by decide) (List.mem_of_getElem? (i := 494) (by decide +kernel)) rfl (by show d - 1 + 1 ≤ d; omega) (by show 19 + 5 + 35 * (d - 1) ≤ 35 * d; omega) (by show _ ≤ 150; omega) (by show _ ≤ 900; omega) (Nat.le_of_ble_eq_true rfl) ?_
      refine zl_ldc (v := -5000001) X dL_refused_42 (List.mem_of_getElem? (i := 346) (by decide +kernel)) ?_
      refine zl_icmp_ne X dL_refused_44 (tgt := 202) (by decide) (by first | decide | omega) (by first | decide | omega) (fun h_44 => ?_) (fun h_44 => ?_)
      · exact absurd h_44 (by first | decide | omega)
      · refine zl_aload_n X dL_refused_47 rfl ?_
        refine zl_iload_n X dL_refused_48 rfl ?_
        refine zl_iconst X dL_refused_49 ?_
        refine zl_iconst X dL_refused_50 ?_
        refine zl_iconst X dL_refused_51 ?_
        refine zl_callHq (as2 := [_, _, _, _, _]) rfl X Y N zZs_K (L_setSkip_1 lo (d - 1) (by omega) ok (u := x.1 0) (v := 0) (w2 := 0) (z := 1) (by first | decide | (unfold zr; omega)) (by first | decide | (unfold zr; omega)) (by first | decide | (unfold zr; omega)) (by first | decide | (unfold zr; omega)) (by omega)) dL_refused_52 wl_setSkip iniL (by decide) (by decide) (List.mem_of_getElem? (i := 524) (by decide +kernel)) rfl (by show d - 1 + 1 ≤ d; omega) (by show 19 + 7 + 35 * (d - 1) ≤ 35 * d; omega) (by show _ ≤ 150; omega) (by show _ ≤ 900; omega) (Nat.le_of_ble_eq_true rfl) ?_
        refine zl_ldc (v := -5000003) X dL_refused_55 (List.mem_of_getElem? (i := 424) (by decide +kernel)) ?_
        refine zl_icmp_ne X dL_refused_57 (tgt := 202) (by decide) (by first | decide | omega) (by first | decide | omega) (fun h_57 => ?_) (fun h_57 => ?_)
        · exact absurd h_57 (by first | decide | omega)
        · refine zl_aload_n X dL_refused_60 rfl ?_
          refine zl_iconst X dL_refused_61 ?_
          refine zl_callHq (as2 := [_, _]) rfl X Y N zZs_K (L_clearSkip_1 lo (d - 1) (by omega) ok (u := -1) (by first | decide | (unfold zr; omega)) (by omega)) dL_refused_62 wl_clearSkip iniL (by decide) (by decide) (List.mem_of_getElem? (i := 542) (by decide +kernel)) rfl (by show d - 1 + 1 ≤ d; omega) (by show 19 + 4 + 35 * (d - 1) ≤ 35 * d; omega) (by show _ ≤ 150; omega) (by show _ ≤ 900; omega) (Nat.le_of_ble_eq_true rfl) ?_
          refine zl_ldc (v := -5000003) X dL_refused_65 (List.mem_of_getElem? (i := 424) (by decide +kernel)) ?_
          refine zl_icmp_ne X dL_refused_67 (tgt := 202) (by decide) (by first | decide | omega) (by first | decide | omega) (fun h_67 => ?_) (fun h_67 => ?_)
          · exact absurd h_67 (by first | decide | omega)
          · refine zl_aload_n X dL_refused_70 rfl ?_
            refine zl_iload_n X dL_refused_71 rfl ?_
            refine zl_iconst X dL_refused_72 ?_
            refine zl_iconst X dL_refused_73 ?_
            refine zl_callHq (as2 := [_, _, _, _]) rfl X Y N zZs_K (L_setWheel_1 lo (d - 1) (by omega) ok (u := x.1 0) (v := 0) (w2 := 0) (by first | decide | (unfold zr; omega)) (by first | decide | (unfold zr; omega)) (by first | decide | (unfold zr; omega)) (by omega)) dL_refused_74 wl_setWheel iniL (by decide) (by decide) (List.mem_of_getElem? (i := 550) (by decide +kernel)) rfl (by show d - 1 + 1 ≤ d; omega) (by show 19 + 6 + 35 * (d - 1) ≤ 35 * d; omega) (by show _ ≤ 150; omega) (by show _ ≤ 900; omega) (Nat.le_of_ble_eq_true rfl) ?_
            refine zl_ldc (v := -5000003) X dL_refused_77 (List.mem_of_getElem? (i := 424) (by decide +kernel)) ?_
            refine zl_icmp_ne X dL_refused_79 (tgt := 202) (by decide) (by first | decide | omega) (by first | decide | omega) (fun h_79 => ?_) (fun h_79 => ?_)
            · exact absurd h_79 (by first | decide | omega)
            · refine zl_aload_n X dL_refused_82 rfl ?_
              refine zl_iload_n X dL_refused_83 rfl ?_
              refine zl_iconst X dL_refused_84 ?_
              refine zl_callHq (as2 := [_, _, _]) rfl X Y N zZs_K (L_setMoon_1 lo (d - 1) (by omega) ok (u := x.1 0) (v := 0) (by first | decide | (unfold zr; omega)) (by first | decide | (unfold zr; omega)) (by omega)) dL_refused_85 wl_setMoon iniL (by decide) (by decide) (List.mem_of_getElem? (i := 558) (by decide +kernel)) rfl (by show d - 1 + 1 ≤ d; omega) (by show 19 + 5 + 35 * (d - 1) ≤ 35 * d; omega) (by show _ ≤ 150; omega) (by show _ ≤ 900; omega) (Nat.le_of_ble_eq_true rfl) ?_
              refine zl_ldc (v := -5000003) X dL_refused_88 (List.mem_of_getElem? (i := 424) (by decide +kernel)) ?_
              refine zl_icmp_ne X dL_refused_90 (tgt := 202) (by decide) (by first | decide | omega) (by first | decide | omega) (fun h_90 => ?_) (fun h_90 => ?_)
              · exact absurd h_90 (by first | decide | omega)
              · refine zl_aload_n X dL_refused_93 rfl ?_
                refine zl_iload_n X dL_refused_94 rfl ?_
                refine zl_iconst X dL_refused_95 ?_
                refine zl_iconst X dL_refused_96 ?_
                refine zl_iconst X dL_refused_97 ?_
                refine zl_callHq (as2 := [_, _, _, _, _]) rfl X Y N zZs_K (L_setMarket_1 lo (d - 1) (by omega) ok (u := x.1 0) (v := 0) (w2 := 1) (z := 0) (by first | decide | (unfold zr; omega)) (by first | decide | (unfold zr; omega)) (by first | decide | (unfold zr; omega)) (by first | decide | (unfold zr; omega)) (by omega)) dL_refused_98 wl_setMarket iniL (by decide) (by decide) (List.mem_of_getElem? (i := 566) (by decide +kernel)) rfl (by show d - 1 + 1 ≤ d; omega) (by show 19 + 7 + 35 * (d - 1) ≤ 35 * d; omega) (by show _ ≤ 150; omega) (by show _ ≤ 900; omega) (Nat.le_of_ble_eq_true rfl) ?_
                refine zl_ldc (v := -5000003) X dL_refused_101 (List.mem_of_getElem? (i := 424) (by decide +kernel)) ?_
                refine zl_icmp_ne X dL_refused_103 (tgt := 202) (by decide) (by first | decide | omega) (by first | decide | omega) (fun h_103 => ?_) (fun h_103 => ?_)
                · exact absurd h_103 (by first | decide | omega)
                · refine zl_aload_n X dL_refused_106 rfl ?_
                  refine zl_bipush X dL_refused_107 (by decide) ?_
                  refine zl_iconst X dL_refused_109 ?_
                  refine zl_callHq (as2 := [_, _, _]) rfl X Y N zZs_K (L_setDay_1 lo (d - 1) (by omega) ok (u := 60) (f := 1) (by first | decide | (unfold zr; omega)) (by omega) (by omega)) dL_refused_110 wl_setDay iniL (by decide) (by decide) (List.mem_of_getElem? (i := 574) (by decide +kernel)) rfl (by show d - 1 + 1 ≤ d; omega) (by show 19 + 5 + 35 * (d - 1) ≤ 35 * d; omega) (by show _ ≤ 150; omega) (by show _ ≤ 900; omega) (Nat.le_of_ble_eq_true rfl) ?_
                  refine zl_ldc (v := -5000001) X dL_refused_113 (List.mem_of_getElem? (i := 346) (by decide +kernel)) ?_
                  refine zl_icmp_ne X dL_refused_115 (tgt := 202) (by decide) (by first | decide | omega) (by first | decide | omega) (fun h_115 => ?_) (fun h_115 => ?_)
                  · exact absurd h_115 (by first | decide | omega)
                  · refine zl_aload_n X dL_refused_118 rfl ?_
                    refine zl_sipush X dL_refused_119 (by decide) ?_
                    refine zl_callHq (as2 := [_, _]) rfl X Y N zZs_K (L_pass_1 lo (d - 1) (by omega) ok (u := 401) (by first | decide | (unfold zr; omega)) (by omega)) dL_refused_122 wl_pass iniL (by decide) (by decide) (List.mem_of_getElem? (i := 584) (by decide +kernel)) rfl (by show d - 1 + 1 ≤ d; omega) (by show 19 + 4 + 35 * (d - 1) ≤ 35 * d; omega) (by show _ ≤ 150; omega) (by show _ ≤ 900; omega) (Nat.le_of_ble_eq_true rfl) ?_
                    refine zl_ldc (v := -5000001) X dL_refused_125 (List.mem_of_getElem? (i := 346) (by decide +kernel)) ?_
                    refine zl_icmp_ne X dL_refused_127 (tgt := 202) (by decide) (by first | decide | omega) (by first | decide | omega) (fun h_127 => ?_) (fun h_127 => ?_)
                    · exact absurd h_127 (by first | decide | omega)
                    · refine zl_aload_n X dL_refused_130 rfl ?_
                      refine zl_iload_n X dL_refused_131 rfl ?_
                      refine zl_iconst X dL_refused_132 ?_
                      refine zl_callHq (as2 := [_, _, _]) rfl X Y N zZs_K (L_wheel_1 lo (d - 1) (by omega) ok (u := x.1 0) (v := 0) (by first | decide | (unfold zr; omega)) (by first | decide | (unfold zr; omega)) (by omega)) dL_refused_133 wl_wheel iniL (by decide) (by decide) (List.mem_of_getElem? (i := 385) (by decide +kernel)) rfl (by show d - 1 + 1 ≤ d; omega) (by show 19 + 5 + 35 * (d - 1) ≤ 35 * d; omega) (by show _ ≤ 150; omega) (by show _ ≤ 900; omega) (Nat.le_of_ble_eq_true rfl) ?_
                      refine zl_ldc (v := -5000003) X dL_refused_136 (List.mem_of_getElem? (i := 424) (by decide +kernel)) ?_
                      refine zl_icmp_ne X dL_refused_138 (tgt := 202) (by decide) (by first | decide | omega) (by first | decide | omega) (fun h_138 => ?_) (fun h_138 => ?_)
                      · exact absurd h_138 (by first | decide | omega)
                      · refine zl_aload_n X dL_refused_141 rfl ?_
                        refine zl_bipush X dL_refused_142 (by decide) ?_
                        refine zl_callHq (as2 := [_, _]) rfl X Y N zZs_K (L_value_1 lo (d - 1) (by omega) ok (u := 14) (by first | decide | (unfold zr; omega)) (by omega)) dL_refused_144 wl_value iniL (by decide) (by decide) (List.mem_of_getElem? (i := 261) (by decide +kernel)) rfl (by show d - 1 + 1 ≤ d; omega) (by show 19 + 4 + 35 * (d - 1) ≤ 35 * d; omega) (by show _ ≤ 150; omega) (by show _ ≤ 900; omega) (Nat.le_of_ble_eq_true rfl) ?_
                        refine zl_ldc (v := -5000001) X dL_refused_147 (List.mem_of_getElem? (i := 346) (by decide +kernel)) ?_
                        refine zl_icmp_ne X dL_refused_149 (tgt := 202) (by decide) (by first | decide | omega) (by first | decide | omega) (fun h_149 => ?_) (fun h_149 => ?_)
                        · exact absurd h_149 (by first | decide | omega)
                        · refine zl_aload_n X dL_refused_152 rfl ?_
                          refine zl_iconst X dL_refused_153 ?_
                          refine zl_callHq (as2 := [_, _]) rfl X Y N zZs_K (L_highWater_1 lo (d - 1) (by omega) ok (u := -1) (by first | decide | (unfold zr; omega)) (by omega)) dL_refused_154 wl_highWater iniL (by decide) (by decide) (List.mem_of_getElem? (i := 425) (by decide +kernel)) rfl (by show d - 1 + 1 ≤ d; omega) (by show 19 + 4 + 35 * (d - 1) ≤ 35 * d; omega) (by show _ ≤ 150; omega) (by show _ ≤ 900; omega) (Nat.le_of_ble_eq_true rfl) ?_
                          refine zl_ldc (v := -5000001) X dL_refused_157 (List.mem_of_getElem? (i := 346) (by decide +kernel)) ?_
                          refine zl_icmp_ne X dL_refused_159 (tgt := 202) (by decide) (by first | decide | omega) (by first | decide | omega) (fun h_159 => ?_) (fun h_159 => ?_)
                          · exact absurd h_159 (by first | decide | omega)
                          · refine zl_aload_n X dL_refused_162 rfl ?_
                            refine zl_sipush X dL_refused_163 (by decide) ?_
                            refine zl_callHq (as2 := [_, _]) rfl X Y N zZs_K (L_market_1 lo (d - 1) (by omega) ok (u := 1001) (by first | decide | (unfold zr; omega)) (by omega)) dL_refused_166 wl_market iniL (by decide) (by decide) (List.mem_of_getElem? (i := 455) (by decide +kernel)) rfl (by show d - 1 + 1 ≤ d; omega) (by show 19 + 4 + 35 * (d - 1) ≤ 35 * d; omega) (by show _ ≤ 150; omega) (by show _ ≤ 900; omega) (Nat.le_of_ble_eq_true rfl) ?_
                            refine zl_ldc (v := -5000001) X dL_refused_169 (List.mem_of_getElem? (i := 346) (by decide +kernel)) ?_
                            refine zl_icmp_ne X dL_refused_171 (tgt := 202) (by decide) (by first | decide | omega) (by first | decide | omega) (fun h_171 => ?_) (fun h_171 => ?_)
                            · exact absurd h_171 (by first | decide | omega)
                            · refine zl_aload_n X dL_refused_174 rfl ?_
                              refine zl_iconst X dL_refused_175 ?_
                              refine zl_iload_n X dL_refused_176 rfl ?_
                              refine zl_ishl X dL_refused_177 (by first | decide | omega) (by first | decide | omega) ?_
                              refine zl_callHq (as2 := [_, _]) rfl X Y N zZs_K (L_nextMeeting_1 lo (d - 1) (by omega) ok (u := 2 ^ (x.1 0).toNat) (by unfold zr; omega) (Or.inr (Int.le_refl _)) rfl) dL_refused_178 wl_nextMeeting iniL (by decide) (by decide) (List.mem_of_getElem? (i := 602) (by decide +kernel)) rfl (by show d - 1 + 1 ≤ d; omega) (by show 19 + 4 + 35 * (d - 1) ≤ 35 * d; omega) (by show _ ≤ 150; omega) (by show _ ≤ 900; omega) (Nat.le_of_ble_eq_true rfl) ?_
                              refine zl_ldc (v := -5000001) X dL_refused_181 (List.mem_of_getElem? (i := 346) (by decide +kernel)) ?_
                              refine zl_icmp_ne X dL_refused_183 (tgt := 202) (by decide) (by first | decide | omega) (by first | decide | omega) (fun h_183 => ?_) (fun h_183 => ?_)
                              · exact absurd h_183 (by first | decide | omega)
                              · refine zl_aload_n X dL_refused_186 rfl ?_
                                refine zl_iconst X dL_refused_187 ?_
                                refine zl_callHq (as2 := [_, _]) rfl X Y N zZs_K (L_byRemainders_1 lo (d - 1) (by omega) ok (u := 0) (by first | decide | (unfold zr; omega)) (by omega)) dL_refused_188 wl_byRemainders iniL (by decide) (by decide) (List.mem_of_getElem? (i := 621) (by decide +kernel)) rfl (by show d - 1 + 1 ≤ d; omega) (by show 19 + 5 + 35 * (d - 1) ≤ 35 * d; omega) (by show _ ≤ 150; omega) (by show _ ≤ 900; omega) (Nat.le_of_ble_eq_true rfl) ?_
                                refine zl_ldc2 (v := lI (-5000001)) X dL_refused_191 (List.mem_of_getElem? (i := 635) (by decide +kernel)) ?_
                                refine zl_lcmp_ne X dL_refused_194 dL_refused_195 (tgt := 202) (by decide) (by first | decide | omega) (by first | decide | omega) (fun h_194 => ?_) (fun h_194 => ?_)
                                · exact absurd h_194 (by first | decide | omega)
                                · refine zl_iconst X dL_refused_198 ?_
                                  refine zl_goto X dL_refused_199 (tgt := 203) (by decide) ?_
                                  refine zl_istore X dL_refused_203 (by decide) rfl ?_
                                  refine zl_iload X dL_refused_205 rfl ?_
                                  refine zl_if_eq X dL_refused_207 (tgt := 333) (by decide) (by first | decide | omega) (fun h_207 => ?_) (fun h_207 => ?_)
                                  · exact absurd h_207 (by first | decide | omega)
                                  · refine zl_aload_n X dL_refused_210 rfl ?_
                                    refine zl_iconst X dL_refused_211 ?_
                                    refine zl_callHq (as2 := [_, _]) rfl X Y N zZs_K (L_multiple_1 lo (d - 1) (by omega) ok (u := 0) (by first | decide | (unfold zr; omega)) (by omega)) dL_refused_212 wl_multiple iniL (by decide) (by decide) (List.mem_of_getElem? (i := 636) (by decide +kernel)) rfl (by show d - 1 + 1 ≤ d; omega) (by show 19 + 5 + 35 * (d - 1) ≤ 35 * d; omega) (by show _ ≤ 150; omega) (by show _ ≤ 900; omega) (Nat.le_of_ble_eq_true rfl) ?_
                                    refine zl_ldc2 (v := lI (-5000001)) X dL_refused_215 (List.mem_of_getElem? (i := 635) (by decide +kernel)) ?_
                                    refine zl_lcmp_ne X dL_refused_218 dL_refused_219 (tgt := 333) (by decide) (by first | decide | omega) (by first | decide | omega) (fun h_218 => ?_) (fun h_218 => ?_)
                                    · exact absurd h_218 (by first | decide | omega)
                                    · refine zl_aload_n X dL_refused_222 rfl ?_
                                      refine zl_iconst X dL_refused_223 ?_
                                      refine zl_callHq (as2 := [_, _]) rfl X Y N zZs_K (L_errors_1 lo (d - 1) (by omega) ok (u := 0) (by first | decide | (unfold zr; omega)) (by omega)) dL_refused_224 wl_errors iniL (by decide) (by decide) (List.mem_of_getElem? (i := 643) (by decide +kernel)) rfl (by show d - 1 + 1 ≤ d; omega) (by show 19 + 4 + 35 * (d - 1) ≤ 35 * d; omega) (by show _ ≤ 150; omega) (by show _ ≤ 900; omega) (Nat.le_of_ble_eq_true rfl) ?_
                                      refine zl_ldc (v := -5000001) X dL_refused_227 (List.mem_of_getElem? (i := 346) (by decide +kernel)) ?_
                                      refine zl_icmp_ne X dL_refused_229 (tgt := 333) (by decide) (by first | decide | omega) (by first | decide | omega) (fun h_229 => ?_) (fun h_229 => ?_)
                                      · exact absurd h_229 (by first | decide | omega)
                                      · refine zl_aload_n X dL_refused_232 rfl ?_
                                        refine zl_sipush X dL_refused_233 (by decide) ?_
                                        refine zl_callHq (as2 := [_, _]) rfl X Y N zZs_K (L_bestLag_1 lo (d - 1) (by omega) ok (u := 201) (by first | decide | (unfold zr; omega)) (by omega)) dL_refused_236 wl_bestLag iniL (by decide) (by decide) (List.mem_of_getElem? (i := 659) (by decide +kernel)) rfl (by show d - 1 + 1 ≤ d; omega) (by show 19 + 4 + 35 * (d - 1) ≤ 35 * d; omega) (by show _ ≤ 150; omega) (by show _ ≤ 900; omega) (Nat.le_of_ble_eq_true rfl) ?_
                                        refine zl_ldc (v := -5000001) X dL_refused_239 (List.mem_of_getElem? (i := 346) (by decide +kernel)) ?_
                                        refine zl_icmp_ne X dL_refused_241 (tgt := 333) (by decide) (by first | decide | omega) (by first | decide | omega) (fun h_241 => ?_) (fun h_241 => ?_)
                                        · exact absurd h_241 (by first | decide | omega)
                                        · refine zl_aload_n X dL_refused_244 rfl ?_
                                          refine zl_sipush X dL_refused_245 (by decide) ?_
                                          refine zl_callHq (as2 := [_, _]) rfl X Y N zZs_K (L_append_1 lo (d - 1) (by omega) ok (u := 128) (by first | decide | (unfold zr; omega)) (by omega)) dL_refused_248 wl_append iniL (by decide) (by decide) (List.mem_of_getElem? (i := 670) (by decide +kernel)) rfl (by show d - 1 + 1 ≤ d; omega) (by show 19 + 4 + 35 * (d - 1) ≤ 35 * d; omega) (by show _ ≤ 150; omega) (by show _ ≤ 900; omega) (Nat.le_of_ble_eq_true rfl) ?_
                                          refine zl_ldc (v := -5000001) X dL_refused_251 (List.mem_of_getElem? (i := 346) (by decide +kernel)) ?_
                                          refine zl_icmp_ne X dL_refused_253 (tgt := 333) (by decide) (by first | decide | omega) (by first | decide | omega) (fun h_253 => ?_) (fun h_253 => ?_)
                                          · exact absurd h_253 (by first | decide | omega)
                                          · refine zl_iload_n X dL_refused_256 rfl ?_
                                            refine zl_iconst X dL_refused_257 ?_
                                            refine zl_icmp_lt X dL_refused_258 (tgt := 272) (by decide) (by first | decide | omega) (by first | decide | omega) (fun h_258 => ?_) (fun h_258 => ?_)
                                            · refine zl_iload_n X dL_refused_272 rfl ?_
                                              refine zl_if_eq X dL_refused_273 (tgt := 329) (by decide) (by first | decide | omega) (fun h_273 => ?_) (fun h_273 => ?_)
                                              · refine zl_iconst X dL_refused_329 ?_
                                                refine zl_goto X dL_refused_330 (tgt := 334) (by decide) ?_
                                                refine zl_istore X dL_refused_334 (by decide) rfl ?_
                                                refine zl_iload X dL_refused_336 rfl ?_
                                                refine zl_if_eq X dL_refused_338 (tgt := 354) (by decide) (by first | decide | omega) (fun h_338 => ?_) (fun h_338 => ?_)
                                                · exact absurd h_338 (by first | decide | omega)
                                                · refine zl_aload_n X dL_refused_341 rfl ?_
                                                  refine zl_callNq (as2 := [_]) rfl X Y N zZs_K (N_show lo (d - 1) (by omega) ok) dL_refused_342 wn_show.1 iniL wn_show.2.1 (by decide) (by decide) wn_show.2.2 (List.mem_of_getElem? (i := 380) (by decide +kernel)) rfl (by show d - 1 + 1 ≤ d; omega) (by show 19 + 4 + 35 * (d - 1) ≤ 35 * d; omega) (by show _ ≤ 150; omega) (by show _ ≤ 900; omega) (Nat.le_of_ble_eq_true rfl) ?_
                                                  refine zl_lload_n X dL_refused_345 rfl ?_
                                                  refine zl_lcmpR_ne X dL_refused_346 dL_refused_347 (tgt := 354) (by decide)  (fun h_346 => ?_) (fun h_346 => ?_)
                                                  · exact absurd rfl h_346
                                                  · refine zl_iconst X dL_refused_350 ?_
                                                    refine zl_goto X dL_refused_351 (tgt := 355) (by decide) ?_
                                                    refine zl_zret X dL_refused_355 rfl (by first | rfl | assumption) (by omega) (by omega) (fun _ J F z => z) ?_
                                                    exact ⟨rfl, rfl, rfl⟩
                                              · refine zl_aload_n X dL_refused_276 rfl ?_
                                                refine zl_iconst X dL_refused_277 ?_
                                                refine zl_iconst X dL_refused_278 ?_
                                                refine zl_iconst X dL_refused_279 ?_
                                                refine zl_iconst X dL_refused_280 ?_
                                                refine zl_callHq (as2 := [_, _, _, _, _]) rfl X Y N zZs_K (L_setSkip_2 lo (d - 1) (by omega) ok (u := 0) (v := 0) (w2 := 0) (z := 1) (by first | decide | (unfold zr; omega)) (by first | decide | (unfold zr; omega)) (by first | decide | (unfold zr; omega)) (by first | decide | (unfold zr; omega)) (by omega) (by omega)) dL_refused_281 wl_setSkip iniL (by decide) (by decide) (List.mem_of_getElem? (i := 524) (by decide +kernel)) rfl (by show d - 1 + 1 ≤ d; omega) (by show 19 + 7 + 35 * (d - 1) ≤ 35 * d; omega) (by show _ ≤ 150; omega) (by show _ ≤ 900; omega) (Nat.le_of_ble_eq_true rfl) ?_
                                                refine zl_ldc (v := -5000001) X dL_refused_284 (List.mem_of_getElem? (i := 346) (by decide +kernel)) ?_
                                                refine zl_icmp_ne X dL_refused_286 (tgt := 333) (by decide) (by first | decide | omega) (by first | decide | omega) (fun h_286 => ?_) (fun h_286 => ?_)
                                                · exact absurd h_286 (by first | decide | omega)
                                                · refine zl_aload_n X dL_refused_289 rfl ?_
                                                  refine zl_iconst X dL_refused_290 ?_
                                                  refine zl_sipush X dL_refused_291 (by decide) ?_
                                                  refine zl_callHq (as2 := [_, _, _]) rfl X Y N zZs_K (L_setMoon_2 lo (d - 1) (by omega) ok (u := 0) (v := 720) (by first | decide | (unfold zr; omega)) (by first | decide | (unfold zr; omega)) (by omega) (by omega)) dL_refused_294 wl_setMoon iniL (by decide) (by decide) (List.mem_of_getElem? (i := 558) (by decide +kernel)) rfl (by show d - 1 + 1 ≤ d; omega) (by show 19 + 5 + 35 * (d - 1) ≤ 35 * d; omega) (by show _ ≤ 150; omega) (by show _ ≤ 900; omega) (Nat.le_of_ble_eq_true rfl) ?_
                                                  refine zl_ldc (v := -5000001) X dL_refused_297 (List.mem_of_getElem? (i := 346) (by decide +kernel)) ?_
                                                  refine zl_icmp_ne X dL_refused_299 (tgt := 333) (by decide) (by first | decide | omega) (by first | decide | omega) (fun h_299 => ?_) (fun h_299 => ?_)
                                                  · exact absurd h_299 (by first | decide | omega)
                                                  · refine zl_aload_n X dL_refused_302 rfl ?_
                                                    refine zl_iconst X dL_refused_303 ?_
                                                    refine zl_sipush X dL_refused_304 (by decide) ?_
                                                    refine zl_iconst X dL_refused_307 ?_
                                                    refine zl_iconst X dL_refused_308 ?_
                                                    refine zl_callHq (as2 := [_, _, _, _, _]) rfl X Y N zZs_K (L_setMarket_2 lo (d - 1) (by omega) ok (u := 0) (v := 1440) (w2 := 1) (z := 0) (by first | decide | (unfold zr; omega)) (by first | decide | (unfold zr; omega)) (by first | decide | (unfold zr; omega)) (by first | decide | (unfold zr; omega)) (by omega) (by omega)) dL_refused_309 wl_setMarket iniL (by decide) (by decide) (List.mem_of_getElem? (i := 566) (by decide +kernel)) rfl (by show d - 1 + 1 ≤ d; omega) (by show 19 + 7 + 35 * (d - 1) ≤ 35 * d; omega) (by show _ ≤ 150; omega) (by show _ ≤ 900; omega) (Nat.le_of_ble_eq_true rfl) ?_
                                                    refine zl_ldc (v := -5000001) X dL_refused_312 (List.mem_of_getElem? (i := 346) (by decide +kernel)) ?_
                                                    refine zl_icmp_ne X dL_refused_314 (tgt := 333) (by decide) (by first | decide | omega) (by first | decide | omega) (fun h_314 => ?_) (fun h_314 => ?_)
                                                    · exact absurd h_314 (by first | decide | omega)
                                                    · refine zl_aload_n X dL_refused_317 rfl ?_
                                                      refine zl_iconst X dL_refused_318 ?_
                                                      refine zl_iconst X dL_refused_319 ?_
                                                      refine zl_iconst X dL_refused_320 ?_
                                                      refine zl_callHq (as2 := [_, _, _, _]) rfl X Y N zZs_K (L_setWheel_2 lo (d - 1) (by omega) ok (u := 0) (v := -1) (w2 := 0) (by first | decide | (unfold zr; omega)) (by first | decide | (unfold zr; omega)) (by first | decide | (unfold zr; omega)) (by omega) (by omega)) dL_refused_321 wl_setWheel iniL (by decide) (by decide) (List.mem_of_getElem? (i := 550) (by decide +kernel)) rfl (by show d - 1 + 1 ≤ d; omega) (by show 19 + 6 + 35 * (d - 1) ≤ 35 * d; omega) (by show _ ≤ 150; omega) (by show _ ≤ 900; omega) (Nat.le_of_ble_eq_true rfl) ?_
                                                      refine zl_ldc (v := -5000001) X dL_refused_324 (List.mem_of_getElem? (i := 346) (by decide +kernel)) ?_
                                                      refine zl_icmp_ne X dL_refused_326 (tgt := 333) (by decide) (by first | decide | omega) (by first | decide | omega) (fun h_326 => ?_) (fun h_326 => ?_)
                                                      · exact absurd h_326 (by first | decide | omega)
                                                      · refine zl_iconst X dL_refused_329 ?_
                                                        refine zl_goto X dL_refused_330 (tgt := 334) (by decide) ?_
                                                        refine zl_istore X dL_refused_334 (by decide) rfl ?_
                                                        refine zl_iload X dL_refused_336 rfl ?_
                                                        refine zl_if_eq X dL_refused_338 (tgt := 354) (by decide) (by first | decide | omega) (fun h_338 => ?_) (fun h_338 => ?_)
                                                        · exact absurd h_338 (by first | decide | omega)
                                                        · refine zl_aload_n X dL_refused_341 rfl ?_
                                                          refine zl_callNq (as2 := [_]) rfl X Y N zZs_K (N_show lo (d - 1) (by omega) ok) dL_refused_342 wn_show.1 iniL wn_show.2.1 (by decide) (by decide) wn_show.2.2 (List.mem_of_getElem? (i := 380) (by decide +kernel)) rfl (by show d - 1 + 1 ≤ d; omega) (by show 19 + 4 + 35 * (d - 1) ≤ 35 * d; omega) (by show _ ≤ 150; omega) (by show _ ≤ 900; omega) (Nat.le_of_ble_eq_true rfl) ?_
                                                          refine zl_lload_n X dL_refused_345 rfl ?_
                                                          refine zl_lcmpR_ne X dL_refused_346 dL_refused_347 (tgt := 354) (by decide)  (fun h_346 => ?_) (fun h_346 => ?_)
                                                          · exact absurd rfl h_346
                                                          · refine zl_iconst X dL_refused_350 ?_
                                                            refine zl_goto X dL_refused_351 (tgt := 355) (by decide) ?_
                                                            refine zl_zret X dL_refused_355 rfl (by first | rfl | assumption) (by omega) (by omega) (fun _ J F z => z) ?_
                                                            exact ⟨rfl, rfl, rfl⟩
                                            · refine zl_aload_n X dL_refused_261 rfl ?_
                                              refine zl_iconst X dL_refused_262 ?_
                                              refine zl_iconst X dL_refused_263 ?_
                                              refine zl_callHq (as2 := [_, _, _]) rfl X Y N zZs_K (L_addWheel_2 lo (d - 1) (by omega) ok (u := 5) (v := 0) (by first | decide | (unfold zr; omega)) (by first | decide | (unfold zr; omega)) (by omega) (by omega)) dL_refused_264 wl_addWheel iniL (by decide) (by decide) (List.mem_of_getElem? (i := 494) (by decide +kernel)) rfl (by show d - 1 + 1 ≤ d; omega) (by show 19 + 5 + 35 * (d - 1) ≤ 35 * d; omega) (by show _ ≤ 150; omega) (by show _ ≤ 900; omega) (Nat.le_of_ble_eq_true rfl) ?_
                                              refine zl_ldc (v := -5000002) X dL_refused_267 (List.mem_of_getElem? (i := 379) (by decide +kernel)) ?_
                                              refine zl_icmp_ne X dL_refused_269 (tgt := 333) (by decide) (by first | decide | omega) (by first | decide | omega) (fun h_269 => ?_) (fun h_269 => ?_)
                                              · exact absurd h_269 (by first | decide | omega)
                                              · refine zl_iload_n X dL_refused_272 rfl ?_
                                                refine zl_if_eq X dL_refused_273 (tgt := 329) (by decide) (by first | decide | omega) (fun h_273 => ?_) (fun h_273 => ?_)
                                                · refine zl_iconst X dL_refused_329 ?_
                                                  refine zl_goto X dL_refused_330 (tgt := 334) (by decide) ?_
                                                  refine zl_istore X dL_refused_334 (by decide) rfl ?_
                                                  refine zl_iload X dL_refused_336 rfl ?_
                                                  refine zl_if_eq X dL_refused_338 (tgt := 354) (by decide) (by first | decide | omega) (fun h_338 => ?_) (fun h_338 => ?_)
                                                  · exact absurd h_338 (by first | decide | omega)
                                                  · refine zl_aload_n X dL_refused_341 rfl ?_
                                                    refine zl_callNq (as2 := [_]) rfl X Y N zZs_K (N_show lo (d - 1) (by omega) ok) dL_refused_342 wn_show.1 iniL wn_show.2.1 (by decide) (by decide) wn_show.2.2 (List.mem_of_getElem? (i := 380) (by decide +kernel)) rfl (by show d - 1 + 1 ≤ d; omega) (by show 19 + 4 + 35 * (d - 1) ≤ 35 * d; omega) (by show _ ≤ 150; omega) (by show _ ≤ 900; omega) (Nat.le_of_ble_eq_true rfl) ?_
                                                    refine zl_lload_n X dL_refused_345 rfl ?_
                                                    refine zl_lcmpR_ne X dL_refused_346 dL_refused_347 (tgt := 354) (by decide)  (fun h_346 => ?_) (fun h_346 => ?_)
                                                    · exact absurd rfl h_346
                                                    · refine zl_iconst X dL_refused_350 ?_
                                                      refine zl_goto X dL_refused_351 (tgt := 355) (by decide) ?_
                                                      refine zl_zret X dL_refused_355 rfl (by first | rfl | assumption) (by omega) (by omega) (fun _ J F z => z) ?_
                                                      exact ⟨rfl, rfl, rfl⟩
                                                · refine zl_aload_n X dL_refused_276 rfl ?_
                                                  refine zl_iconst X dL_refused_277 ?_
                                                  refine zl_iconst X dL_refused_278 ?_
                                                  refine zl_iconst X dL_refused_279 ?_
                                                  refine zl_iconst X dL_refused_280 ?_
                                                  refine zl_callHq (as2 := [_, _, _, _, _]) rfl X Y N zZs_K (L_setSkip_2 lo (d - 1) (by omega) ok (u := 0) (v := 0) (w2 := 0) (z := 1) (by first | decide | (unfold zr; omega)) (by first | decide | (unfold zr; omega)) (by first | decide | (unfold zr; omega)) (by first | decide | (unfold zr; omega)) (by omega) (by omega)) dL_refused_281 wl_setSkip iniL (by decide) (by decide) (List.mem_of_getElem? (i := 524) (by decide +kernel)) rfl (by show d - 1 + 1 ≤ d; omega) (by show 19 + 7 + 35 * (d - 1) ≤ 35 * d; omega) (by show _ ≤ 150; omega) (by show _ ≤ 900; omega) (Nat.le_of_ble_eq_true rfl) ?_
                                                  refine zl_ldc (v := -5000001) X dL_refused_284 (List.mem_of_getElem? (i := 346) (by decide +kernel)) ?_
                                                  refine zl_icmp_ne X dL_refused_286 (tgt := 333) (by decide) (by first | decide | omega) (by first | decide | omega) (fun h_286 => ?_) (fun h_286 => ?_)
                                                  · exact absurd h_286 (by first | decide | omega)
                                                  · refine zl_aload_n X dL_refused_289 rfl ?_
                                                    refine zl_iconst X dL_refused_290 ?_
                                                    refine zl_sipush X dL_refused_291 (by decide) ?_
                                                    refine zl_callHq (as2 := [_, _, _]) rfl X Y N zZs_K (L_setMoon_2 lo (d - 1) (by omega) ok (u := 0) (v := 720) (by first | decide | (unfold zr; omega)) (by first | decide | (unfold zr; omega)) (by omega) (by omega)) dL_refused_294 wl_setMoon iniL (by decide) (by decide) (List.mem_of_getElem? (i := 558) (by decide +kernel)) rfl (by show d - 1 + 1 ≤ d; omega) (by show 19 + 5 + 35 * (d - 1) ≤ 35 * d; omega) (by show _ ≤ 150; omega) (by show _ ≤ 900; omega) (Nat.le_of_ble_eq_true rfl) ?_
                                                    refine zl_ldc (v := -5000001) X dL_refused_297 (List.mem_of_getElem? (i := 346) (by decide +kernel)) ?_
                                                    refine zl_icmp_ne X dL_refused_299 (tgt := 333) (by decide) (by first | decide | omega) (by first | decide | omega) (fun h_299 => ?_) (fun h_299 => ?_)
                                                    · exact absurd h_299 (by first | decide | omega)
                                                    · refine zl_aload_n X dL_refused_302 rfl ?_
                                                      refine zl_iconst X dL_refused_303 ?_
                                                      refine zl_sipush X dL_refused_304 (by decide) ?_
                                                      refine zl_iconst X dL_refused_307 ?_
                                                      refine zl_iconst X dL_refused_308 ?_
                                                      refine zl_callHq (as2 := [_, _, _, _, _]) rfl X Y N zZs_K (L_setMarket_2 lo (d - 1) (by omega) ok (u := 0) (v := 1440) (w2 := 1) (z := 0) (by first | decide | (unfold zr; omega)) (by first | decide | (unfold zr; omega)) (by first | decide | (unfold zr; omega)) (by first | decide | (unfold zr; omega)) (by omega) (by omega)) dL_refused_309 wl_setMarket iniL (by decide) (by decide) (List.mem_of_getElem? (i := 566) (by decide +kernel)) rfl (by show d - 1 + 1 ≤ d; omega) (by show 19 + 7 + 35 * (d - 1) ≤ 35 * d; omega) (by show _ ≤ 150; omega) (by show _ ≤ 900; omega) (Nat.le_of_ble_eq_true rfl) ?_
                                                      refine zl_ldc (v := -5000001) X dL_refused_312 (List.mem_of_getElem? (i := 346) (by decide +kernel)) ?_
                                                      refine zl_icmp_ne X dL_refused_314 (tgt := 333) (by decide) (by first | decide | omega) (by first | decide | omega) (fun h_314 => ?_) (fun h_314 => ?_)
                                                      · exact absurd h_314 (by first | decide | omega)
                                                      · refine zl_aload_n X dL_refused_317 rfl ?_
                                                        refine zl_iconst X dL_refused_318 ?_
                                                        refine zl_iconst X dL_refused_319 ?_
                                                        refine zl_iconst X dL_refused_320 ?_
                                                        refine zl_callHq (as2 := [_, _, _, _]) rfl X Y N zZs_K (L_setWheel_2 lo (d - 1) (by omega) ok (u := 0) (v := -1) (w2 := 0) (by first | decide | (unfold zr; omega)) (by first | decide | (unfold zr; omega)) (by first | decide | (unfold zr; omega)) (by omega) (by omega)) dL_refused_321 wl_setWheel iniL (by decide) (by decide) (List.mem_of_getElem? (i := 550) (by decide +kernel)) rfl (by show d - 1 + 1 ≤ d; omega) (by show 19 + 6 + 35 * (d - 1) ≤ 35 * d; omega) (by show _ ≤ 150; omega) (by show _ ≤ 900; omega) (Nat.le_of_ble_eq_true rfl) ?_
                                                        refine zl_ldc (v := -5000001) X dL_refused_324 (List.mem_of_getElem? (i := 346) (by decide +kernel)) ?_
                                                        refine zl_icmp_ne X dL_refused_326 (tgt := 333) (by decide) (by first | decide | omega) (by first | decide | omega) (fun h_326 => ?_) (fun h_326 => ?_)
                                                        · exact absurd h_326 (by first | decide | omega)
                                                        · refine zl_iconst X dL_refused_329 ?_
                                                          refine zl_goto X dL_refused_330 (tgt := 334) (by decide) ?_
                                                          refine zl_istore X dL_refused_334 (by decide) rfl ?_
                                                          refine zl_iload X dL_refused_336 rfl ?_
                                                          refine zl_if_eq X dL_refused_338 (tgt := 354) (by decide) (by first | decide | omega) (fun h_338 => ?_) (fun h_338 => ?_)
                                                          · exact absurd h_338 (by first | decide | omega)
                                                          · refine zl_aload_n X dL_refused_341 rfl ?_
                                                            refine zl_callNq (as2 := [_]) rfl X Y N zZs_K (N_show lo (d - 1) (by omega) ok) dL_refused_342 wn_show.1 iniL wn_show.2.1 (by decide) (by decide) wn_show.2.2 (List.mem_of_getElem? (i := 380) (by decide +kernel)) rfl (by show d - 1 + 1 ≤ d; omega) (by show 19 + 4 + 35 * (d - 1) ≤ 35 * d; omega) (by show _ ≤ 150; omega) (by show _ ≤ 900; omega) (Nat.le_of_ble_eq_true rfl) ?_
                                                            refine zl_lload_n X dL_refused_345 rfl ?_
                                                            refine zl_lcmpR_ne X dL_refused_346 dL_refused_347 (tgt := 354) (by decide)  (fun h_346 => ?_) (fun h_346 => ?_)
                                                            · exact absurd rfl h_346
                                                            · refine zl_iconst X dL_refused_350 ?_
                                                              refine zl_goto X dL_refused_351 (tgt := 355) (by decide) ?_
                                                              refine zl_zret X dL_refused_355 rfl (by first | rfl | assumption) (by omega) (by omega) (fun _ J F z => z) ?_
                                                              exact ⟨rfl, rfl, rfl⟩
theorem zpopN_le (g : Int64) (T : Nat) (h : ∀ t, g.toBitVec.getLsbD t = true → t < T) : ∀ n, zpopN g n ≤ n ∧ zpopN g n ≤ T
  | 0 => ⟨Nat.le_refl _, Nat.zero_le _⟩
  | n + 1 => by
    have ih := zpopN_le g T h n
    show zpopN g n + (if g.toBitVec.getLsbD n = true then 1 else 0) ≤ n + 1 ∧ zpopN g n + (if g.toBitVec.getLsbD n = true then 1 else 0) ≤ T
    by_cases q : g.toBitVec.getLsbD n = true
    · rw [if_pos q]
      have := h n q
      omega
    · rw [if_neg q]
      omega
theorem zpop_ok {x : Hou} (h : okH x) : 0 ≤ zpop x.2.2 ∧ zpop x.2.2 ≤ 64 ∧ (0 < x.1 0 → zpop x.2.2 ≤ x.2.1 (x.1 4).toNat 0) := by
  have h1 := (zpopN_le x.2.2 64 (fun t ht => by
    have := (h.2.2.1 t ht)
    have hh := okH_h h
    have hw := okH_w h (k := (x.1 4).toNat) (by omega)
    omega) 64).1
  refine ⟨Int.natCast_nonneg _, ?_, fun hc => ?_⟩
  · show ((zpopN x.2.2 64 : Nat) : Int) ≤ 64
    omega
  · have hh := okH_h h
    have hw := okH_w h (k := (x.1 4).toNat) (by omega)
    have h2 := (zpopN_le x.2.2 (x.2.1 (x.1 4).toNat 0).toNat (fun t ht => by
      have := (h.2.2.1 t ht)
      omega) 64).2
    show ((zpopN x.2.2 64 : Nat) : Int) ≤ _
    omega
theorem ke_nn {a b : Int} (ha : 0 ≤ a) (hb : 0 ≤ b) (hab : a + b ≤ 200000) : Jvm.FP.Core.dIsNaN (keD a b) = false := by
  unfold keD
  by_cases q : 0 < a + b
  · rw [if_pos q]
    exact Jvm.FP.Core.ddiv_out (Jvm.FP.Core.DFin.notNaN (Jvm.FP.Core.i2d_fin _)) (Jvm.FP.Core.i2d_fin _) (kp_i2d (kp_nz (by omega) (by omega) hab))
  · rw [if_neg q]
    decide +kernel
theorem ke_cmp {a b : Int} {o : CmpOp} (ha : 0 ≤ a) (hb : 0 ≤ b) (hab : a + b ≤ 200000) : Op.cmpValue (FP.dcmp (keD a b) (keD a b)) o = zI 0 := by
  have h := Jvm.FP.Core.dcmp_self ((Jvm.FP.Core.notNaN_iff _).mp (ke_nn ha hb hab))
  show Op.cmpValue (Jvm.FP.Core.dcmp (keD a b) (keD a b)) o = zI 0
  rw [h]
  rfl
set_option maxHeartbeats 4000000 in
set_option maxRecDepth 100000 in
theorem N_areWheels (lo d : Nat) (hd : 8 ≤ d) {x : Hou} {R : List Hou} (ok : okH x) : zLN true lo yL_areWheels cL_areWheels 6 (some .boolean) d 100 600 [.ref (lo + 0)] x R (zEq (.int (zI 1)) x R) := by
  refine zLN.mk (by decide) wn_areWheels.2.1 (Nat.le_of_ble_eq_true rfl) ?_
  intro p l e s m args below meth c D cA J0 F0 X Y N
  have hh := okH_h ok
  have hz := zpop_ok ok
  have hw4 := okH_w ok (k := (x.1 4).toNat) (by omega)
  have hlp : ∀ (q k : Nat), k + q = (x.1 0).toNat → zL p l e { frames := d, cells := 100, slots := 600, locals := 35 * d } s m args below meth c D cA lo 6 (11 + 16 * k) (66 + 96 * k) (vx_MQ below (zQ D cA lo 57 (zLP true J0 F0 (zEq (.int (zI 1)) x R))) (fun _ _ _ => False) args s 100 600 (fun q => lo ≤ q)) x R (fun J F => zK J F J0 F0) [some (.ref (lo + 0)), some (.int (zI (x.1 0))), some (.int (zI 1)), some (.int (zI (k : Int))), none, none] [] 84 := by
    intro q
    induction q with
    | zero =>
      intro k hk
      refine zl_iload_n X dL_areWheels_84 rfl ?_
      refine zl_iload_n X dL_areWheels_85 rfl ?_
      refine zl_icmp_ge X dL_areWheels_86 (tgt := 263) (by decide) (by first | decide | omega) (by first | decide | omega) (fun h_86 => ?_) (fun h_86 => ?_)
      · refine zl_aload_n X dL_areWheels_263 rfl ?_
        refine zl_bipush X dL_areWheels_264 (by decide) ?_
        refine zl_callHq (as2 := [_, _]) rfl X Y N zZs_K (L_valueC lo (d - 1) (by omega) ok (u := 9) (A := x.1 8) (by decide) (by decide) rfl) dL_areWheels_266 wl_value iniL (by decide) (by decide) (List.mem_of_getElem? (i := 261) (by decide +kernel)) rfl (by show d - 1 + 1 ≤ d; omega) (by show 19 + 4 + 35 * (d - 1) ≤ 35 * d; omega) (by show _ ≤ 100; omega) (by show _ ≤ 600; omega) (Nat.le_of_ble_eq_true rfl) ?_
        refine zl_aload_n X dL_areWheels_269 rfl ?_
        refine zl_bipush X dL_areWheels_270 (by decide) ?_
        refine zl_callHq (as2 := [_, _]) rfl X Y N zZs_K (L_valueC lo (d - 1) (by omega) ok (u := 11) (A := x.1 10) (by decide) (by decide) rfl) dL_areWheels_272 wl_value iniL (by decide) (by decide) (List.mem_of_getElem? (i := 261) (by decide +kernel)) rfl (by show d - 1 + 1 ≤ d; omega) (by show 19 + 4 + 35 * (d - 1) ≤ 35 * d; omega) (by show _ ≤ 100; omega) (by show _ ≤ 600; omega) (Nat.le_of_ble_eq_true rfl) ?_
        refine zl_iadd X dL_areWheels_275 ?_
        refine zl_istore_n X dL_areWheels_276 (by decide) rfl ?_
        refine zl_iload_n X dL_areWheels_277 rfl ?_
        refine zl_if_eq X dL_areWheels_278 (tgt := 311) (by decide) (by first | decide | omega) (fun h_278 => ?_) (fun h_278 => ?_)
        · exact absurd h_278 (by first | decide | omega)
        · refine zl_aload_n X dL_areWheels_281 rfl ?_
          refine zl_callVq (as2 := []) rfl X zZs_K (V_kept lo (d - 1) ok) dL_areWheels_282 mv_X4_kept (Or.inl (List.mem_of_getElem? (i := 682) (by decide +kernel))) rfl rfl (by decide) rfl (by show d - 1 + 1 ≤ d; omega) (by show 19 + 2 + 35 * (d - 1) ≤ 35 * d; omega) (by show _ ≤ 100; omega) (by show _ ≤ 600; omega) (Nat.le_of_ble_eq_true rfl) ?_
          refine zl_iload_n X dL_areWheels_285 rfl ?_
          refine zl_if_ne X dL_areWheels_286 (tgt := 293) (by decide) (by first | decide | omega) (fun h_286 => ?_) (fun h_286 => ?_)
          · have hcmp : Op.cmpValue (FP.dcmp (keD (x.1 8) (x.1 10)) (FP.ddiv (FP.i2d (zI (x.1 8))) (FP.i2d (zI (x.1 8 + x.1 10))))) .l = zI 0 := by
              have e : keD (x.1 8) (x.1 10) = FP.ddiv (FP.i2d (zI (x.1 8))) (FP.i2d (zI (x.1 8 + x.1 10))) := if_pos (by omega)
              have := ke_cmp (a := x.1 8) (b := x.1 10) (o := .l) (by omega) (by omega) (by omega)
              rw [e] at this ⊢
              exact this
            refine zl_aload_n X dL_areWheels_293 rfl ?_
            refine zl_bipush X dL_areWheels_294 (by decide) ?_
            refine zl_callHq (as2 := [_, _]) rfl X Y N zZs_K (L_valueC lo (d - 1) (by omega) ok (u := 9) (A := x.1 8) (by decide) (by decide) rfl) dL_areWheels_296 wl_value iniL (by decide) (by decide) (List.mem_of_getElem? (i := 261) (by decide +kernel)) rfl (by show d - 1 + 1 ≤ d; omega) (by show 19 + 4 + 35 * (d - 1) ≤ 35 * d; omega) (by show _ ≤ 100; omega) (by show _ ≤ 600; omega) (Nat.le_of_ble_eq_true rfl) ?_
            refine zl_i2d X dL_areWheels_299 ?_
            refine zl_iload_n X dL_areWheels_300 rfl ?_
            refine zl_i2d X dL_areWheels_301 ?_
            refine zl_ddiv X dL_areWheels_302 (kp_nn (kp_nz (by omega) (by omega) (by omega))) ?_
            refine zl_dcmp X dL_areWheels_303 ?_
            rw [hcmp]
            refine zl_if_ne X dL_areWheels_304 (tgt := 311) (by decide) (by first | decide | omega) (fun h_304 => ?_) (fun h_304 => ?_)
            · exact absurd h_304 (by first | decide | omega)
            · refine zl_iconst X dL_areWheels_307 ?_
              refine zl_goto X dL_areWheels_308 (tgt := 312) (by decide) ?_
              refine zl_zret X dL_areWheels_312 rfl (by first | rfl | assumption) (by omega) (by omega) (fun _ J F z => z) ?_
              exact ⟨rfl, rfl, rfl⟩
          · have hcmp : Op.cmpValue (FP.dcmp (keD (x.1 8) (x.1 10)) FP.dconst1) .l = zI 0 := by
              have e : keD (x.1 8) (x.1 10) = FP.dconst1 := if_neg (by omega)
              have := ke_cmp (a := x.1 8) (b := x.1 10) (o := .l) (by omega) (by omega) (by omega)
              rw [e] at this ⊢
              exact this
            refine zl_dconst1 X dL_areWheels_289 ?_
            refine zl_goto X dL_areWheels_290 (tgt := 303) (by decide) ?_
            refine zl_dcmp X dL_areWheels_303 ?_
            rw [hcmp]
            refine zl_if_ne X dL_areWheels_304 (tgt := 311) (by decide) (by first | decide | omega) (fun h_304 => ?_) (fun h_304 => ?_)
            · exact absurd h_304 (by first | decide | omega)
            · refine zl_iconst X dL_areWheels_307 ?_
              refine zl_goto X dL_areWheels_308 (tgt := 312) (by decide) ?_
              refine zl_zret X dL_areWheels_312 rfl (by first | rfl | assumption) (by omega) (by omega) (fun _ J F z => z) ?_
              exact ⟨rfl, rfl, rfl⟩
      · exact absurd h_86 (by first | decide | omega)
    | succ q ih =>
      intro k hk
      have hw := okH_w ok (k := k) (by omega)
      have h6 : 0 ≤ whF x k 6 ∧ whF x k 6 < x.2.1 k 0 := ⟨Int.emod_nonneg _ (by omega), Int.emod_lt_of_pos _ (by omega)⟩
      rcases ok.2.2.2 k (by omega) with hs | hs
      · have hsq : x.2.1 k 5 * x.2.1 k 5 = 0 := by rw [hs.2.2]; decide
        refine zl_iload_n X dL_areWheels_84 rfl ?_
        refine zl_iload_n X dL_areWheels_85 rfl ?_
        refine zl_icmp_ge X dL_areWheels_86 (tgt := 263) (by decide) (by first | decide | omega) (by first | decide | omega) (fun h_86 => ?_) (fun h_86 => ?_)
        · exact absurd h_86 (by first | decide | omega)
        · refine zl_iload_n X dL_areWheels_89 rfl ?_
          refine zl_if_eq X dL_areWheels_90 (tgt := 263) (by decide) (by first | decide | omega) (fun h_90 => ?_) (fun h_90 => ?_)
          · exact absurd h_90 (by first | decide | omega)
          · refine zl_aload_n X dL_areWheels_93 rfl ?_
            refine zl_iload_n X dL_areWheels_94 rfl ?_
            refine zl_iconst X dL_areWheels_95 ?_
            refine zl_callHq (as2 := [_, _, _]) rfl X Y N zZs_K (L_wheelN lo (d - 1) (by omega) ok (k := k) (v := 0) (A := x.2.1 k 0) (by omega) (by decide) (by decide) rfl) dL_areWheels_96 wl_wheel iniL (by decide) (by decide) (List.mem_of_getElem? (i := 385) (by decide +kernel)) rfl (by show d - 1 + 1 ≤ d; omega) (by show 19 + 5 + 35 * (d - 1) ≤ 35 * d; omega) (by show _ ≤ 100; omega) (by show _ ≤ 600; omega) (Nat.le_of_ble_eq_true rfl) ?_
            refine zl_istore X dL_areWheels_99 (by decide) rfl ?_
            refine zl_aload_n X dL_areWheels_101 rfl ?_
            refine zl_iload_n X dL_areWheels_102 rfl ?_
            refine zl_iconst X dL_areWheels_103 ?_
            refine zl_callHq (as2 := [_, _, _]) rfl X Y N zZs_K (L_wheelN lo (d - 1) (by omega) ok (k := k) (v := 3) (A := x.2.1 k 3) (by omega) (by decide) (by decide) rfl) dL_areWheels_104 wl_wheel iniL (by decide) (by decide) (List.mem_of_getElem? (i := 385) (by decide +kernel)) rfl (by show d - 1 + 1 ≤ d; omega) (by show 19 + 5 + 35 * (d - 1) ≤ 35 * d; omega) (by show _ ≤ 100; omega) (by show _ ≤ 600; omega) (Nat.le_of_ble_eq_true rfl) ?_
            refine zl_istore X dL_areWheels_107 (by decide) rfl ?_
            refine zl_iload X dL_areWheels_109 rfl ?_
            refine zl_iconst X dL_areWheels_111 ?_
            refine zl_icmp_le X dL_areWheels_112 (tgt := 255) (by decide) (by first | decide | omega) (by first | decide | omega) (fun h_112 => ?_) (fun h_112 => ?_)
            · exact absurd h_112 (by first | decide | omega)
            · refine zl_iload X dL_areWheels_115 rfl ?_
              refine zl_bipush X dL_areWheels_117 (by decide) ?_
              refine zl_icmp_ge X dL_areWheels_119 (tgt := 255) (by decide) (by first | decide | omega) (by first | decide | omega) (fun h_119 => ?_) (fun h_119 => ?_)
              · exact absurd h_119 (by first | decide | omega)
              · refine zl_aload_n X dL_areWheels_122 rfl ?_
                refine zl_iload_n X dL_areWheels_123 rfl ?_
                refine zl_iconst X dL_areWheels_124 ?_
                refine zl_callHq (as2 := [_, _, _]) rfl X Y N zZs_K (L_wheelN lo (d - 1) (by omega) ok (k := k) (v := 1) (A := x.2.1 k 1) (by omega) (by decide) (by decide) rfl) dL_areWheels_125 wl_wheel iniL (by decide) (by decide) (List.mem_of_getElem? (i := 385) (by decide +kernel)) rfl (by show d - 1 + 1 ≤ d; omega) (by show 19 + 5 + 35 * (d - 1) ≤ 35 * d; omega) (by show _ ≤ 100; omega) (by show _ ≤ 600; omega) (Nat.le_of_ble_eq_true rfl) ?_
                refine zl_if_lt X dL_areWheels_128 (tgt := 255) (by decide) (by first | decide | omega) (fun h_128 => ?_) (fun h_128 => ?_)
                · exact absurd h_128 (by first | decide | omega)
                · refine zl_aload_n X dL_areWheels_131 rfl ?_
                  refine zl_iload_n X dL_areWheels_132 rfl ?_
                  refine zl_iconst X dL_areWheels_133 ?_
                  refine zl_callHq (as2 := [_, _, _]) rfl X Y N zZs_K (L_wheelN lo (d - 1) (by omega) ok (k := k) (v := 1) (A := x.2.1 k 1) (by omega) (by decide) (by decide) rfl) dL_areWheels_134 wl_wheel iniL (by decide) (by decide) (List.mem_of_getElem? (i := 385) (by decide +kernel)) rfl (by show d - 1 + 1 ≤ d; omega) (by show 19 + 5 + 35 * (d - 1) ≤ 35 * d; omega) (by show _ ≤ 100; omega) (by show _ ≤ 600; omega) (Nat.le_of_ble_eq_true rfl) ?_
                  refine zl_iload X dL_areWheels_137 rfl ?_
                  refine zl_icmp_ge X dL_areWheels_139 (tgt := 255) (by decide) (by first | decide | omega) (by first | decide | omega) (fun h_139 => ?_) (fun h_139 => ?_)
                  · exact absurd h_139 (by first | decide | omega)
                  · refine zl_aload_n X dL_areWheels_142 rfl ?_
                    refine zl_iload_n X dL_areWheels_143 rfl ?_
                    refine zl_iconst X dL_areWheels_144 ?_
                    refine zl_callHq (as2 := [_, _, _]) rfl X Y N zZs_K (L_wheelN lo (d - 1) (by omega) ok (k := k) (v := 2) (A := x.2.1 k 2) (by omega) (by decide) (by decide) rfl) dL_areWheels_145 wl_wheel iniL (by decide) (by decide) (List.mem_of_getElem? (i := 385) (by decide +kernel)) rfl (by show d - 1 + 1 ≤ d; omega) (by show 19 + 5 + 35 * (d - 1) ≤ 35 * d; omega) (by show _ ≤ 100; omega) (by show _ ≤ 600; omega) (Nat.le_of_ble_eq_true rfl) ?_
                    refine zl_if_lt X dL_areWheels_148 (tgt := 255) (by decide) (by first | decide | omega) (fun h_148 => ?_) (fun h_148 => ?_)
                    · exact absurd h_148 (by first | decide | omega)
                    · refine zl_aload_n X dL_areWheels_151 rfl ?_
                      refine zl_iload_n X dL_areWheels_152 rfl ?_
                      refine zl_iconst X dL_areWheels_153 ?_
                      refine zl_callHq (as2 := [_, _, _]) rfl X Y N zZs_K (L_wheelN lo (d - 1) (by omega) ok (k := k) (v := 2) (A := x.2.1 k 2) (by omega) (by decide) (by decide) rfl) dL_areWheels_154 wl_wheel iniL (by decide) (by decide) (List.mem_of_getElem? (i := 385) (by decide +kernel)) rfl (by show d - 1 + 1 ≤ d; omega) (by show 19 + 5 + 35 * (d - 1) ≤ 35 * d; omega) (by show _ ≤ 100; omega) (by show _ ≤ 600; omega) (Nat.le_of_ble_eq_true rfl) ?_
                      refine zl_iload X dL_areWheels_157 rfl ?_
                      refine zl_icmp_ge X dL_areWheels_159 (tgt := 255) (by decide) (by first | decide | omega) (by first | decide | omega) (fun h_159 => ?_) (fun h_159 => ?_)
                      · exact absurd h_159 (by first | decide | omega)
                      · refine zl_aload_n X dL_areWheels_162 rfl ?_
                        refine zl_iload_n X dL_areWheels_163 rfl ?_
                        refine zl_bipush X dL_areWheels_164 (by decide) ?_
                        refine zl_callHq (as2 := [_, _, _]) rfl X Y N zZs_K (L_wheelN lo (d - 1) (by omega) ok (k := k) (v := 6) (A := whF x k 6) (by omega) (by decide) (by decide) rfl) dL_areWheels_166 wl_wheel iniL (by decide) (by decide) (List.mem_of_getElem? (i := 385) (by decide +kernel)) rfl (by show d - 1 + 1 ≤ d; omega) (by show 19 + 5 + 35 * (d - 1) ≤ 35 * d; omega) (by show _ ≤ 100; omega) (by show _ ≤ 600; omega) (Nat.le_of_ble_eq_true rfl) ?_
                        refine zl_if_lt X dL_areWheels_169 (tgt := 255) (by decide) (by first | decide | omega) (fun h_169 => ?_) (fun h_169 => ?_)
                        · exact absurd h_169 (by first | decide | omega)
                        · refine zl_aload_n X dL_areWheels_172 rfl ?_
                          refine zl_iload_n X dL_areWheels_173 rfl ?_
                          refine zl_bipush X dL_areWheels_174 (by decide) ?_
                          refine zl_callHq (as2 := [_, _, _]) rfl X Y N zZs_K (L_wheelN lo (d - 1) (by omega) ok (k := k) (v := 6) (A := whF x k 6) (by omega) (by decide) (by decide) rfl) dL_areWheels_176 wl_wheel iniL (by decide) (by decide) (List.mem_of_getElem? (i := 385) (by decide +kernel)) rfl (by show d - 1 + 1 ≤ d; omega) (by show 19 + 5 + 35 * (d - 1) ≤ 35 * d; omega) (by show _ ≤ 100; omega) (by show _ ≤ 600; omega) (Nat.le_of_ble_eq_true rfl) ?_
                          refine zl_iload X dL_areWheels_179 rfl ?_
                          refine zl_icmp_ge X dL_areWheels_181 (tgt := 255) (by decide) (by first | decide | omega) (by first | decide | omega) (fun h_181 => ?_) (fun h_181 => ?_)
                          · exact absurd h_181 (by first | decide | omega)
                          · refine zl_iload X dL_areWheels_184 rfl ?_
                            refine zl_iload_n X dL_areWheels_186 rfl ?_
                            refine zl_icmp_ge X dL_areWheels_187 (tgt := 255) (by decide) (by first | decide | omega) (by first | decide | omega) (fun h_187 => ?_) (fun h_187 => ?_)
                            · exact absurd h_187 (by first | decide | omega)
                            · refine zl_iload X dL_areWheels_190 rfl ?_
                              refine zl_iconst X dL_areWheels_192 ?_
                              refine zl_icmp_ne X dL_areWheels_193 (tgt := 218) (by decide) (by first | decide | omega) (by first | decide | omega) (fun h_193 => ?_) (fun h_193 => ?_)
                              · exact absurd h_193 (by first | decide | omega)
                              · refine zl_aload_n X dL_areWheels_196 rfl ?_
                                refine zl_iload_n X dL_areWheels_197 rfl ?_
                                refine zl_iconst X dL_areWheels_198 ?_
                                refine zl_callHq (as2 := [_, _, _]) rfl X Y N zZs_K (L_wheelN lo (d - 1) (by omega) ok (k := k) (v := 4) (A := x.2.1 k 4) (by omega) (by decide) (by decide) rfl) dL_areWheels_199 wl_wheel iniL (by decide) (by decide) (List.mem_of_getElem? (i := 385) (by decide +kernel)) rfl (by show d - 1 + 1 ≤ d; omega) (by show 19 + 5 + 35 * (d - 1) ≤ 35 * d; omega) (by show _ ≤ 100; omega) (by show _ ≤ 600; omega) (Nat.le_of_ble_eq_true rfl) ?_
                                refine zl_iconst X dL_areWheels_202 ?_
                                refine zl_icmp_ne X dL_areWheels_203 (tgt := 255) (by decide) (by first | decide | omega) (by first | decide | omega) (fun h_203 => ?_) (fun h_203 => ?_)
                                · exact absurd h_203 (by first | decide | omega)
                                · refine zl_aload_n X dL_areWheels_206 rfl ?_
                                  refine zl_iload_n X dL_areWheels_207 rfl ?_
                                  refine zl_iconst X dL_areWheels_208 ?_
                                  refine zl_callHq (as2 := [_, _, _]) rfl X Y N zZs_K (L_wheelN lo (d - 1) (by omega) ok (k := k) (v := 5) (A := x.2.1 k 5) (by omega) (by decide) (by decide) rfl) dL_areWheels_209 wl_wheel iniL (by decide) (by decide) (List.mem_of_getElem? (i := 385) (by decide +kernel)) rfl (by show d - 1 + 1 ≤ d; omega) (by show 19 + 5 + 35 * (d - 1) ≤ 35 * d; omega) (by show _ ≤ 100; omega) (by show _ ≤ 600; omega) (Nat.le_of_ble_eq_true rfl) ?_
                                  refine zl_if_ne X dL_areWheels_212 (tgt := 255) (by decide) (by first | decide | omega) (fun h_212 => ?_) (fun h_212 => ?_)
                                  · exact absurd h_212 (by first | decide | omega)
                                  · refine zl_goto X dL_areWheels_215 (tgt := 251) (by decide) ?_
                                    refine zl_iconst X dL_areWheels_251 ?_
                                    refine zl_goto X dL_areWheels_252 (tgt := 256) (by decide) ?_
                                    refine zl_istore_n X dL_areWheels_256 (by decide) rfl ?_
                                    refine zl_iinc X dL_areWheels_257 rfl (by decide) rfl ?_
                                    refine zl_goto X dL_areWheels_260 (tgt := 84) (by decide) ?_
                                    have h9 := ih (k + 1) (by omega)
                                    exact zl_sub (by repeat (first | exact zle_nil | refine zle_some ?_ | refine zle_none ?_)) (zl_widen (by omega) (by omega) h9)
      · have hsq : x.2.1 k 5 * x.2.1 k 5 = 1 := by
          rcases hs.2.2.2 with g | g <;> rw [g] <;> decide
        have hw3 := okH_w ok (k := (x.2.1 k 3).toNat) (by omega)
        refine zl_iload_n X dL_areWheels_84 rfl ?_
        refine zl_iload_n X dL_areWheels_85 rfl ?_
        refine zl_icmp_ge X dL_areWheels_86 (tgt := 263) (by decide) (by first | decide | omega) (by first | decide | omega) (fun h_86 => ?_) (fun h_86 => ?_)
        · exact absurd h_86 (by first | decide | omega)
        · refine zl_iload_n X dL_areWheels_89 rfl ?_
          refine zl_if_eq X dL_areWheels_90 (tgt := 263) (by decide) (by first | decide | omega) (fun h_90 => ?_) (fun h_90 => ?_)
          · exact absurd h_90 (by first | decide | omega)
          · refine zl_aload_n X dL_areWheels_93 rfl ?_
            refine zl_iload_n X dL_areWheels_94 rfl ?_
            refine zl_iconst X dL_areWheels_95 ?_
            refine zl_callHq (as2 := [_, _, _]) rfl X Y N zZs_K (L_wheelN lo (d - 1) (by omega) ok (k := k) (v := 0) (A := x.2.1 k 0) (by omega) (by decide) (by decide) rfl) dL_areWheels_96 wl_wheel iniL (by decide) (by decide) (List.mem_of_getElem? (i := 385) (by decide +kernel)) rfl (by show d - 1 + 1 ≤ d; omega) (by show 19 + 5 + 35 * (d - 1) ≤ 35 * d; omega) (by show _ ≤ 100; omega) (by show _ ≤ 600; omega) (Nat.le_of_ble_eq_true rfl) ?_
            refine zl_istore X dL_areWheels_99 (by decide) rfl ?_
            refine zl_aload_n X dL_areWheels_101 rfl ?_
            refine zl_iload_n X dL_areWheels_102 rfl ?_
            refine zl_iconst X dL_areWheels_103 ?_
            refine zl_callHq (as2 := [_, _, _]) rfl X Y N zZs_K (L_wheelN lo (d - 1) (by omega) ok (k := k) (v := 3) (A := x.2.1 k 3) (by omega) (by decide) (by decide) rfl) dL_areWheels_104 wl_wheel iniL (by decide) (by decide) (List.mem_of_getElem? (i := 385) (by decide +kernel)) rfl (by show d - 1 + 1 ≤ d; omega) (by show 19 + 5 + 35 * (d - 1) ≤ 35 * d; omega) (by show _ ≤ 100; omega) (by show _ ≤ 600; omega) (Nat.le_of_ble_eq_true rfl) ?_
            refine zl_istore X dL_areWheels_107 (by decide) rfl ?_
            refine zl_iload X dL_areWheels_109 rfl ?_
            refine zl_iconst X dL_areWheels_111 ?_
            refine zl_icmp_le X dL_areWheels_112 (tgt := 255) (by decide) (by first | decide | omega) (by first | decide | omega) (fun h_112 => ?_) (fun h_112 => ?_)
            · exact absurd h_112 (by first | decide | omega)
            · refine zl_iload X dL_areWheels_115 rfl ?_
              refine zl_bipush X dL_areWheels_117 (by decide) ?_
              refine zl_icmp_ge X dL_areWheels_119 (tgt := 255) (by decide) (by first | decide | omega) (by first | decide | omega) (fun h_119 => ?_) (fun h_119 => ?_)
              · exact absurd h_119 (by first | decide | omega)
              · refine zl_aload_n X dL_areWheels_122 rfl ?_
                refine zl_iload_n X dL_areWheels_123 rfl ?_
                refine zl_iconst X dL_areWheels_124 ?_
                refine zl_callHq (as2 := [_, _, _]) rfl X Y N zZs_K (L_wheelN lo (d - 1) (by omega) ok (k := k) (v := 1) (A := x.2.1 k 1) (by omega) (by decide) (by decide) rfl) dL_areWheels_125 wl_wheel iniL (by decide) (by decide) (List.mem_of_getElem? (i := 385) (by decide +kernel)) rfl (by show d - 1 + 1 ≤ d; omega) (by show 19 + 5 + 35 * (d - 1) ≤ 35 * d; omega) (by show _ ≤ 100; omega) (by show _ ≤ 600; omega) (Nat.le_of_ble_eq_true rfl) ?_
                refine zl_if_lt X dL_areWheels_128 (tgt := 255) (by decide) (by first | decide | omega) (fun h_128 => ?_) (fun h_128 => ?_)
                · exact absurd h_128 (by first | decide | omega)
                · refine zl_aload_n X dL_areWheels_131 rfl ?_
                  refine zl_iload_n X dL_areWheels_132 rfl ?_
                  refine zl_iconst X dL_areWheels_133 ?_
                  refine zl_callHq (as2 := [_, _, _]) rfl X Y N zZs_K (L_wheelN lo (d - 1) (by omega) ok (k := k) (v := 1) (A := x.2.1 k 1) (by omega) (by decide) (by decide) rfl) dL_areWheels_134 wl_wheel iniL (by decide) (by decide) (List.mem_of_getElem? (i := 385) (by decide +kernel)) rfl (by show d - 1 + 1 ≤ d; omega) (by show 19 + 5 + 35 * (d - 1) ≤ 35 * d; omega) (by show _ ≤ 100; omega) (by show _ ≤ 600; omega) (Nat.le_of_ble_eq_true rfl) ?_
                  refine zl_iload X dL_areWheels_137 rfl ?_
                  refine zl_icmp_ge X dL_areWheels_139 (tgt := 255) (by decide) (by first | decide | omega) (by first | decide | omega) (fun h_139 => ?_) (fun h_139 => ?_)
                  · exact absurd h_139 (by first | decide | omega)
                  · refine zl_aload_n X dL_areWheels_142 rfl ?_
                    refine zl_iload_n X dL_areWheels_143 rfl ?_
                    refine zl_iconst X dL_areWheels_144 ?_
                    refine zl_callHq (as2 := [_, _, _]) rfl X Y N zZs_K (L_wheelN lo (d - 1) (by omega) ok (k := k) (v := 2) (A := x.2.1 k 2) (by omega) (by decide) (by decide) rfl) dL_areWheels_145 wl_wheel iniL (by decide) (by decide) (List.mem_of_getElem? (i := 385) (by decide +kernel)) rfl (by show d - 1 + 1 ≤ d; omega) (by show 19 + 5 + 35 * (d - 1) ≤ 35 * d; omega) (by show _ ≤ 100; omega) (by show _ ≤ 600; omega) (Nat.le_of_ble_eq_true rfl) ?_
                    refine zl_if_lt X dL_areWheels_148 (tgt := 255) (by decide) (by first | decide | omega) (fun h_148 => ?_) (fun h_148 => ?_)
                    · exact absurd h_148 (by first | decide | omega)
                    · refine zl_aload_n X dL_areWheels_151 rfl ?_
                      refine zl_iload_n X dL_areWheels_152 rfl ?_
                      refine zl_iconst X dL_areWheels_153 ?_
                      refine zl_callHq (as2 := [_, _, _]) rfl X Y N zZs_K (L_wheelN lo (d - 1) (by omega) ok (k := k) (v := 2) (A := x.2.1 k 2) (by omega) (by decide) (by decide) rfl) dL_areWheels_154 wl_wheel iniL (by decide) (by decide) (List.mem_of_getElem? (i := 385) (by decide +kernel)) rfl (by show d - 1 + 1 ≤ d; omega) (by show 19 + 5 + 35 * (d - 1) ≤ 35 * d; omega) (by show _ ≤ 100; omega) (by show _ ≤ 600; omega) (Nat.le_of_ble_eq_true rfl) ?_
                      refine zl_iload X dL_areWheels_157 rfl ?_
                      refine zl_icmp_ge X dL_areWheels_159 (tgt := 255) (by decide) (by first | decide | omega) (by first | decide | omega) (fun h_159 => ?_) (fun h_159 => ?_)
                      · exact absurd h_159 (by first | decide | omega)
                      · refine zl_aload_n X dL_areWheels_162 rfl ?_
                        refine zl_iload_n X dL_areWheels_163 rfl ?_
                        refine zl_bipush X dL_areWheels_164 (by decide) ?_
                        refine zl_callHq (as2 := [_, _, _]) rfl X Y N zZs_K (L_wheelN lo (d - 1) (by omega) ok (k := k) (v := 6) (A := whF x k 6) (by omega) (by decide) (by decide) rfl) dL_areWheels_166 wl_wheel iniL (by decide) (by decide) (List.mem_of_getElem? (i := 385) (by decide +kernel)) rfl (by show d - 1 + 1 ≤ d; omega) (by show 19 + 5 + 35 * (d - 1) ≤ 35 * d; omega) (by show _ ≤ 100; omega) (by show _ ≤ 600; omega) (Nat.le_of_ble_eq_true rfl) ?_
                        refine zl_if_lt X dL_areWheels_169 (tgt := 255) (by decide) (by first | decide | omega) (fun h_169 => ?_) (fun h_169 => ?_)
                        · exact absurd h_169 (by first | decide | omega)
                        · refine zl_aload_n X dL_areWheels_172 rfl ?_
                          refine zl_iload_n X dL_areWheels_173 rfl ?_
                          refine zl_bipush X dL_areWheels_174 (by decide) ?_
                          refine zl_callHq (as2 := [_, _, _]) rfl X Y N zZs_K (L_wheelN lo (d - 1) (by omega) ok (k := k) (v := 6) (A := whF x k 6) (by omega) (by decide) (by decide) rfl) dL_areWheels_176 wl_wheel iniL (by decide) (by decide) (List.mem_of_getElem? (i := 385) (by decide +kernel)) rfl (by show d - 1 + 1 ≤ d; omega) (by show 19 + 5 + 35 * (d - 1) ≤ 35 * d; omega) (by show _ ≤ 100; omega) (by show _ ≤ 600; omega) (Nat.le_of_ble_eq_true rfl) ?_
                          refine zl_iload X dL_areWheels_179 rfl ?_
                          refine zl_icmp_ge X dL_areWheels_181 (tgt := 255) (by decide) (by first | decide | omega) (by first | decide | omega) (fun h_181 => ?_) (fun h_181 => ?_)
                          · exact absurd h_181 (by first | decide | omega)
                          · refine zl_iload X dL_areWheels_184 rfl ?_
                            refine zl_iload_n X dL_areWheels_186 rfl ?_
                            refine zl_icmp_ge X dL_areWheels_187 (tgt := 255) (by decide) (by first | decide | omega) (by first | decide | omega) (fun h_187 => ?_) (fun h_187 => ?_)
                            · exact absurd h_187 (by first | decide | omega)
                            · refine zl_iload X dL_areWheels_190 rfl ?_
                              refine zl_iconst X dL_areWheels_192 ?_
                              refine zl_icmp_ne X dL_areWheels_193 (tgt := 218) (by decide) (by first | decide | omega) (by first | decide | omega) (fun h_193 => ?_) (fun h_193 => ?_)
                              · refine zl_aload_n X dL_areWheels_218 rfl ?_
                                refine zl_iload_n X dL_areWheels_219 rfl ?_
                                refine zl_iconst X dL_areWheels_220 ?_
                                refine zl_callHq (as2 := [_, _, _]) rfl X Y N zZs_K (L_wheelN lo (d - 1) (by omega) ok (k := k) (v := 4) (A := x.2.1 k 4) (by omega) (by decide) (by decide) rfl) dL_areWheels_221 wl_wheel iniL (by decide) (by decide) (List.mem_of_getElem? (i := 385) (by decide +kernel)) rfl (by show d - 1 + 1 ≤ d; omega) (by show 19 + 5 + 35 * (d - 1) ≤ 35 * d; omega) (by show _ ≤ 100; omega) (by show _ ≤ 600; omega) (Nat.le_of_ble_eq_true rfl) ?_
                                refine zl_aload_n X dL_areWheels_224 rfl ?_
                                refine zl_iload X dL_areWheels_225 rfl ?_
                                refine zl_iconst X dL_areWheels_227 ?_
                                refine zl_callHq (as2 := [_, _, _]) rfl X Y N zZs_K (L_wheelI lo (d - 1) (by omega) ok (u := x.2.1 k 3) (v := 0) (A := x.2.1 (x.2.1 k 3).toNat 0) (by omega) (by omega) (by decide) (by decide) rfl) dL_areWheels_228 wl_wheel iniL (by decide) (by decide) (List.mem_of_getElem? (i := 385) (by decide +kernel)) rfl (by show d - 1 + 1 ≤ d; omega) (by show 19 + 5 + 35 * (d - 1) ≤ 35 * d; omega) (by show _ ≤ 100; omega) (by show _ ≤ 600; omega) (Nat.le_of_ble_eq_true rfl) ?_
                                refine zl_icmp_ge X dL_areWheels_231 (tgt := 255) (by decide) (by first | decide | omega) (by first | decide | omega) (fun h_231 => ?_) (fun h_231 => ?_)
                                · exact absurd h_231 (by first | decide | omega)
                                · refine zl_aload_n X dL_areWheels_234 rfl ?_
                                  refine zl_iload_n X dL_areWheels_235 rfl ?_
                                  refine zl_iconst X dL_areWheels_236 ?_
                                  refine zl_callHq (as2 := [_, _, _]) rfl X Y N zZs_K (L_wheelN lo (d - 1) (by omega) ok (k := k) (v := 5) (A := x.2.1 k 5) (by omega) (by decide) (by decide) rfl) dL_areWheels_237 wl_wheel iniL (by decide) (by decide) (List.mem_of_getElem? (i := 385) (by decide +kernel)) rfl (by show d - 1 + 1 ≤ d; omega) (by show 19 + 5 + 35 * (d - 1) ≤ 35 * d; omega) (by show _ ≤ 100; omega) (by show _ ≤ 600; omega) (Nat.le_of_ble_eq_true rfl) ?_
                                  refine zl_aload_n X dL_areWheels_240 rfl ?_
                                  refine zl_iload_n X dL_areWheels_241 rfl ?_
                                  refine zl_iconst X dL_areWheels_242 ?_
                                  refine zl_callHq (as2 := [_, _, _]) rfl X Y N zZs_K (L_wheelN lo (d - 1) (by omega) ok (k := k) (v := 5) (A := x.2.1 k 5) (by omega) (by decide) (by decide) rfl) dL_areWheels_243 wl_wheel iniL (by decide) (by decide) (List.mem_of_getElem? (i := 385) (by decide +kernel)) rfl (by show d - 1 + 1 ≤ d; omega) (by show 19 + 5 + 35 * (d - 1) ≤ 35 * d; omega) (by show _ ≤ 100; omega) (by show _ ≤ 600; omega) (Nat.le_of_ble_eq_true rfl) ?_
                                  refine zl_imul X dL_areWheels_246 ?_
                                  refine zl_iconst X dL_areWheels_247 ?_
                                  refine zl_icmp_ne X dL_areWheels_248 (tgt := 255) (by decide) (by first | decide | (rw [hsq]; decide)) (by first | decide | (rw [hsq]; decide)) (fun h_248 => ?_) (fun h_248 => ?_)
                                  · exact absurd hsq h_248
                                  · refine zl_iconst X dL_areWheels_251 ?_
                                    refine zl_goto X dL_areWheels_252 (tgt := 256) (by decide) ?_
                                    refine zl_istore_n X dL_areWheels_256 (by decide) rfl ?_
                                    refine zl_iinc X dL_areWheels_257 rfl (by decide) rfl ?_
                                    refine zl_goto X dL_areWheels_260 (tgt := 84) (by decide) ?_
                                    have h9 := ih (k + 1) (by omega)
                                    exact zl_sub (by repeat (first | exact zle_nil | refine zle_some ?_ | refine zle_none ?_)) (zl_widen (by omega) (by omega) h9)
                              · exact absurd h_193 (by first | decide | omega)
  refine zl_aload_n X dL_areWheels_0 rfl ?_
  refine zl_iconst X dL_areWheels_1 ?_
  refine zl_callHq (as2 := [_, _]) rfl X Y N zZs_K (L_valueC lo (d - 1) (by omega) ok (u := 1) (A := x.1 0) (by decide) (by decide) rfl) dL_areWheels_2 wl_value iniL (by decide) (by decide) (List.mem_of_getElem? (i := 261) (by decide +kernel)) rfl (by show d - 1 + 1 ≤ d; omega) (by show 19 + 4 + 35 * (d - 1) ≤ 35 * d; omega) (by show _ ≤ 100; omega) (by show _ ≤ 600; omega) (Nat.le_of_ble_eq_true rfl) ?_
  refine zl_istore_n X dL_areWheels_5 (by decide) rfl ?_
  refine zl_iload_n X dL_areWheels_6 rfl ?_
  refine zl_iconst X dL_areWheels_7 ?_
  refine zl_icmp_gt X dL_areWheels_8 (tgt := 80) (by decide) (by first | decide | omega) (by first | decide | omega) (fun h_8 => ?_) (fun h_8 => ?_)
  · exact absurd h_8 (by first | decide | omega)
  · refine zl_aload_n X dL_areWheels_11 rfl ?_
    refine zl_bipush X dL_areWheels_12 (by decide) ?_
    refine zl_callHq (as2 := [_, _]) rfl X Y N zZs_K (L_valueC lo (d - 1) (by omega) ok (u := 13) (A := x.1 12) (by decide) (by decide) rfl) dL_areWheels_14 wl_value iniL (by decide) (by decide) (List.mem_of_getElem? (i := 261) (by decide +kernel)) rfl (by show d - 1 + 1 ≤ d; omega) (by show 19 + 4 + 35 * (d - 1) ≤ 35 * d; omega) (by show _ ≤ 100; omega) (by show _ ≤ 600; omega) (Nat.le_of_ble_eq_true rfl) ?_
    refine zl_aload_n X dL_areWheels_17 rfl ?_
    refine zl_iconst X dL_areWheels_18 ?_
    refine zl_callHq (as2 := [_, _]) rfl X Y N zZs_K (L_valueC lo (d - 1) (by omega) ok (u := 0) (A := x.1 1) (by decide) (by decide) rfl) dL_areWheels_19 wl_value iniL (by decide) (by decide) (List.mem_of_getElem? (i := 261) (by decide +kernel)) rfl (by show d - 1 + 1 ≤ d; omega) (by show 19 + 4 + 35 * (d - 1) ≤ 35 * d; omega) (by show _ ≤ 100; omega) (by show _ ≤ 600; omega) (Nat.le_of_ble_eq_true rfl) ?_
    refine zl_icmp_gt X dL_areWheels_22 (tgt := 80) (by decide) (by first | decide | omega) (by first | decide | omega) (fun h_22 => ?_) (fun h_22 => ?_)
    · exact absurd h_22 (by first | decide | omega)
    · refine zl_aload_n X dL_areWheels_25 rfl ?_
      refine zl_bipush X dL_areWheels_26 (by decide) ?_
      refine zl_callHq (as2 := [_, _]) rfl X Y N zZs_K (L_valueC lo (d - 1) (by omega) ok (u := 12) (A := x.1 11) (by decide) (by decide) rfl) dL_areWheels_28 wl_value iniL (by decide) (by decide) (List.mem_of_getElem? (i := 261) (by decide +kernel)) rfl (by show d - 1 + 1 ≤ d; omega) (by show 19 + 4 + 35 * (d - 1) ≤ 35 * d; omega) (by show _ ≤ 100; omega) (by show _ ≤ 600; omega) (Nat.le_of_ble_eq_true rfl) ?_
      refine zl_iconst X dL_areWheels_31 ?_
      refine zl_icmp_gt X dL_areWheels_32 (tgt := 80) (by decide) (by first | decide | omega) (by first | decide | omega) (fun h_32 => ?_) (fun h_32 => ?_)
      · exact absurd h_32 (by first | decide | omega)
      · refine zl_aload_n X dL_areWheels_35 rfl ?_
        refine zl_bipush X dL_areWheels_36 (by decide) ?_
        refine zl_callHq (as2 := [_, _]) rfl X Y N zZs_K (L_valueC lo (d - 1) (by omega) ok (u := 8) (A := zpop x.2.2) (by decide) (by decide) rfl) dL_areWheels_38 wl_value iniL (by decide) (by decide) (List.mem_of_getElem? (i := 261) (by decide +kernel)) rfl (by show d - 1 + 1 ≤ d; omega) (by show 19 + 4 + 35 * (d - 1) ≤ 35 * d; omega) (by show _ ≤ 100; omega) (by show _ ≤ 600; omega) (Nat.le_of_ble_eq_true rfl) ?_
        refine zl_if_lt X dL_areWheels_41 (tgt := 80) (by decide) (by first | decide | omega) (fun h_41 => ?_) (fun h_41 => ?_)
        · exact absurd h_41 (by first | decide | omega)
        · refine zl_iload_n X dL_areWheels_44 rfl ?_
          refine zl_if_eq X dL_areWheels_45 (tgt := 67) (by decide) (by first | decide | omega) (fun h_45 => ?_) (fun h_45 => ?_)
          · refine zl_aload_n X dL_areWheels_67 rfl ?_
            refine zl_bipush X dL_areWheels_68 (by decide) ?_
            refine zl_callHq (as2 := [_, _]) rfl X Y N zZs_K (L_valueC lo (d - 1) (by omega) ok (u := 10) (A := x.1 9) (by decide) (by decide) rfl) dL_areWheels_70 wl_value iniL (by decide) (by decide) (List.mem_of_getElem? (i := 261) (by decide +kernel)) rfl (by show d - 1 + 1 ≤ d; omega) (by show 19 + 4 + 35 * (d - 1) ≤ 35 * d; omega) (by show _ ≤ 100; omega) (by show _ ≤ 600; omega) (Nat.le_of_ble_eq_true rfl) ?_
            refine zl_if_lt X dL_areWheels_73 (tgt := 80) (by decide) (by first | decide | omega) (fun h_73 => ?_) (fun h_73 => ?_)
            · exact absurd h_73 (by first | decide | omega)
            · refine zl_iconst X dL_areWheels_76 ?_
              refine zl_goto X dL_areWheels_77 (tgt := 81) (by decide) ?_
              refine zl_istore_n X dL_areWheels_81 (by decide) rfl ?_
              refine zl_iconst X dL_areWheels_82 ?_
              refine zl_istore_n X dL_areWheels_83 (by decide) rfl ?_
              have h9 := hlp (x.1 0).toNat 0 (by omega)
              exact zl_sub (by repeat (first | exact zle_nil | refine zle_some ?_ | refine zle_none ?_)) (zl_widen (by omega) (by omega) h9)
          · refine zl_aload_n X dL_areWheels_48 rfl ?_
            refine zl_bipush X dL_areWheels_49 (by decide) ?_
            refine zl_callHq (as2 := [_, _]) rfl X Y N zZs_K (L_valueC lo (d - 1) (by omega) ok (u := 8) (A := zpop x.2.2) (by decide) (by decide) rfl) dL_areWheels_51 wl_value iniL (by decide) (by decide) (List.mem_of_getElem? (i := 261) (by decide +kernel)) rfl (by show d - 1 + 1 ≤ d; omega) (by show 19 + 4 + 35 * (d - 1) ≤ 35 * d; omega) (by show _ ≤ 100; omega) (by show _ ≤ 600; omega) (Nat.le_of_ble_eq_true rfl) ?_
            refine zl_aload_n X dL_areWheels_54 rfl ?_
            refine zl_aload_n X dL_areWheels_55 rfl ?_
            refine zl_iconst X dL_areWheels_56 ?_
            refine zl_callHq (as2 := [_, _]) rfl X Y N zZs_K (L_valueC lo (d - 1) (by omega) ok (u := 4) (A := x.1 4) (by decide) (by decide) rfl) dL_areWheels_57 wl_value iniL (by decide) (by decide) (List.mem_of_getElem? (i := 261) (by decide +kernel)) rfl (by show d - 1 + 1 ≤ d; omega) (by show 19 + 4 + 35 * (d - 1) ≤ 35 * d; omega) (by show _ ≤ 100; omega) (by show _ ≤ 600; omega) (Nat.le_of_ble_eq_true rfl) ?_
            refine zl_iconst X dL_areWheels_60 ?_
            refine zl_callHq (as2 := [_, _, _]) rfl X Y N zZs_K (L_wheelI lo (d - 1) (by omega) ok (u := x.1 4) (v := 0) (A := x.2.1 (x.1 4).toNat 0) (by omega) (by omega) (by decide) (by decide) rfl) dL_areWheels_61 wl_wheel iniL (by decide) (by decide) (List.mem_of_getElem? (i := 385) (by decide +kernel)) rfl (by show d - 1 + 1 ≤ d; omega) (by show 19 + 5 + 35 * (d - 1) ≤ 35 * d; omega) (by show _ ≤ 100; omega) (by show _ ≤ 600; omega) (Nat.le_of_ble_eq_true rfl) ?_
            refine zl_icmp_gt X dL_areWheels_64 (tgt := 80) (by decide) (by first | decide | omega) (by first | decide | omega) (fun h_64 => ?_) (fun h_64 => ?_)
            · exact absurd h_64 (by first | decide | omega)
            · refine zl_aload_n X dL_areWheels_67 rfl ?_
              refine zl_bipush X dL_areWheels_68 (by decide) ?_
              refine zl_callHq (as2 := [_, _]) rfl X Y N zZs_K (L_valueC lo (d - 1) (by omega) ok (u := 10) (A := x.1 9) (by decide) (by decide) rfl) dL_areWheels_70 wl_value iniL (by decide) (by decide) (List.mem_of_getElem? (i := 261) (by decide +kernel)) rfl (by show d - 1 + 1 ≤ d; omega) (by show 19 + 4 + 35 * (d - 1) ≤ 35 * d; omega) (by show _ ≤ 100; omega) (by show _ ≤ 600; omega) (Nat.le_of_ble_eq_true rfl) ?_
              refine zl_if_lt X dL_areWheels_73 (tgt := 80) (by decide) (by first | decide | omega) (fun h_73 => ?_) (fun h_73 => ?_)
              · exact absurd h_73 (by first | decide | omega)
              · refine zl_iconst X dL_areWheels_76 ?_
                refine zl_goto X dL_areWheels_77 (tgt := 81) (by decide) ?_
                refine zl_istore_n X dL_areWheels_81 (by decide) rfl ?_
                refine zl_iconst X dL_areWheels_82 ?_
                refine zl_istore_n X dL_areWheels_83 (by decide) rfl ?_
                have h9 := hlp (x.1 0).toNat 0 (by omega)
                exact zl_sub (by repeat (first | exact zle_nil | refine zle_some ?_ | refine zle_none ?_)) (zl_widen (by omega) (by omega) h9)
