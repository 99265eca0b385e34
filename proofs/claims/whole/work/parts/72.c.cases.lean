/-! the law's cases 18 .. -/
set_option maxHeartbeats 4000000 in
set_option maxRecDepth 100000 in
theorem lc_18 {p : Program} {l : Launch} {e : Env} {s : State} {m : MethodId} {args : Array Value} {below : List Frame} {meth : Method} {c : Code} {D : va_G} {cA : Nat → ClassId} {lo : Nat} {cells slots : Nat} {Q : State → Prop} {J : Nat → Nat → Int} {G : Nat → Nat → Int64} {F : Nat → Nat → Option Nat} {b1 : Nat → Nat} {nm : String} (X : zCx p l s m meth c (yLn nm) cL_law 9 ret D cA) (Y : zXS lo s) (Nn : zNC s) {b N : Nat} {xs : Nat → Int32} (hX : va_X b N xs s s.heap) (hbl : b < lo) (hN : N ≤ 2560) {i : Int} (hi0 : 0 ≤ i) (hi : i + 5 ≤ N) (hce : cells + 1 ≤ 601024) (hsl : slots + 6 ≤ 7293034) (I : zInv J G F b1) (k : ∀ J3 G3 F3 b3, zInv J3 G3 F3 b3 → zG p l e room_1 s m args below meth c D cA lo 9 (cells + 1) (slots + 6) Q 57 (zM J3) G3 F3 (lwL b lo i) [] 1486) : zG p l e room_1 s m args below meth c D cA lo 9 cells slots Q 57 (zM J) G F (lwL b lo i) [] 1193 := by
  obtain ⟨r, P, hr, hw, hj0⟩ := pl_errors (lo := lo) I (zr_x (x := (xs (i + 1).toNat)))
  refine zG_aload_n X dL_law_1193 rfl ?_
  refine zL_arg X hX hbl hN (i := i) 1 rfl rfl (by omega) (by omega) dL_law_1194 dL_law_1195 dL_law_1197 dL_law_1198 dL_law_1199 ?_
  refine zG_aload_n X dL_law_1200 rfl ?_
  refine zG_callH (as2 := [_, _, _]) rfl X Y Nn hw dL_law_1201 wl_errors.1 iniL wl_errors.2.1 (by decide) (by decide) wl_errors.2.2 (show Cond.methodLink RL 150 yL_errors ∈ lw_tbl from List.mem_of_getElem? (i := 758) (by decide +kernel)) rfl (Nat.le_of_ble_eq_true rfl) (Nat.le_of_ble_eq_true rfl) hce hsl (Nat.le_of_ble_eq_true rfl) ?_
  intro v I2 G2 F2 hP
  obtain ⟨rfl, PM, hM, hj⟩ := hj0 v I2 G2 F2 hP
  refine zG_istore X dL_law_1204 (by decide) rfl ?_
  refine zG_aload_n X dL_law_1206 rfl ?_
  refine zL_arg X hX hbl hN (i := i) 1 rfl rfl (by omega) (by omega) dL_law_1207 dL_law_1208 dL_law_1210 dL_law_1211 dL_law_1212 ?_
  refine zG_callV (as2 := [_]) rfl X hM dL_law_1213 mv_X5_errors ml_L_152 rfl rfl (by decide) rfl (Nat.le_of_ble_eq_true rfl) (Nat.le_of_ble_eq_true rfl) hce hsl (Nat.le_of_ble_eq_true rfl) ?_
  intro v3 I3 G3 F3 hP3
  obtain ⟨aM, J3, b3, rfl, rfl, h4, hG, hI⟩ := hj v3 I3 G3 F3 hP3
  refine zG_istore X dL_law_1216 (by decide) rfl ?_
  refine zG_aload_n X dL_law_1218 rfl ?_
  refine zj_callV1 (as2 := []) X (k_X5_thrown lo 10 J3 G3 F3) dL_law_1219 mv_X5_thrown ml_L_89 rfl rfl (by decide) rfl rfl (Nat.le_of_ble_eq_true rfl) (Nat.le_of_ble_eq_true rfl) hce hsl (Nat.le_of_ble_eq_true rfl) ?_
  rw [h4]
  refine zG_iload X dL_law_1222 rfl ?_
  refine zG_icmp_eq X dL_law_1224 (tgt := 1229) (by decide) (fun _ => ?_) (fun h => absurd rfl h)
  refine zG_iload X dL_law_1229 rfl ?_
  refine zj_if_ne X dL_law_1231 (tgt := 1246) (by decide) hr (fun _ => zG_goto X dL_law_1246 (tgt := 1486) (by decide) (zG_sub (zle_set (zle_set zle_rf (fun v h => by cases h)) (fun v h => by cases h)) (k _ _ _ _ hI))) (fun h0 => ?_)
  refine zG_aload_n X dL_law_1234 rfl ?_
  refine zj_iconst X dL_law_1235 ?_
  refine zj_laload X dL_law_1236 rfl (by decide) 0 rfl (by decide) ?_
  refine zG_iload X dL_law_1237 rfl ?_
  refine zG_i2l X dL_law_1239 ?_
  exact zG_lcmp_eq X dL_law_1240 dL_law_1241 (tgt := 1246) (by decide) (fun _ => zG_goto X dL_law_1246 (tgt := 1486) (by decide) (zG_sub (zle_set (zle_set zle_rf (fun v h => by cases h)) (fun v h => by cases h)) (k _ _ _ _ hI))) (fun h => absurd (hG h0) h)
set_option maxHeartbeats 4000000 in
set_option maxRecDepth 100000 in
theorem lc_19 {p : Program} {l : Launch} {e : Env} {s : State} {m : MethodId} {args : Array Value} {below : List Frame} {meth : Method} {c : Code} {D : va_G} {cA : Nat → ClassId} {lo : Nat} {cells slots : Nat} {Q : State → Prop} {J : Nat → Nat → Int} {G : Nat → Nat → Int64} {F : Nat → Nat → Option Nat} {b1 : Nat → Nat} {nm : String} (X : zCx p l s m meth c (yLn nm) cL_law 9 ret D cA) (Y : zXS lo s) (Nn : zNC s) {b N : Nat} {xs : Nat → Int32} (hX : va_X b N xs s s.heap) (hbl : b < lo) (hN : N ≤ 2560) {i : Int} (hi0 : 0 ≤ i) (hi : i + 5 ≤ N) (hce : cells + 1 ≤ 601024) (hsl : slots + 6 ≤ 7293034) (I : zInv J G F b1) (k : ∀ J3 G3 F3 b3, zInv J3 G3 F3 b3 → zG p l e room_1 s m args below meth c D cA lo 9 (cells + 1) (slots + 6) Q 57 (zM J3) G3 F3 (lwL b lo i) [] 1486) : zG p l e room_1 s m args below meth c D cA lo 9 cells slots Q 57 (zM J) G F (lwL b lo i) [] 1249 := by
  obtain ⟨r, P, hr, hw, hj0⟩ := pl_bestLag (lo := lo) I (zr_x (x := (xs (i + 1).toNat)))
  refine zG_aload_n X dL_law_1249 rfl ?_
  refine zL_arg X hX hbl hN (i := i) 1 rfl rfl (by omega) (by omega) dL_law_1250 dL_law_1251 dL_law_1253 dL_law_1254 dL_law_1255 ?_
  refine zG_aload_n X dL_law_1256 rfl ?_
  refine zG_callH (as2 := [_, _, _]) rfl X Y Nn hw dL_law_1257 wl_bestLag.1 iniL wl_bestLag.2.1 (by decide) (by decide) wl_bestLag.2.2 (show Cond.methodLink RL 153 yL_bestLag ∈ lw_tbl from List.mem_of_getElem? (i := 774) (by decide +kernel)) rfl (Nat.le_of_ble_eq_true rfl) (Nat.le_of_ble_eq_true rfl) hce hsl (Nat.le_of_ble_eq_true rfl) ?_
  intro v I2 G2 F2 hP
  obtain ⟨rfl, PM, hM, hj⟩ := hj0 v I2 G2 F2 hP
  refine zG_istore X dL_law_1260 (by decide) rfl ?_
  refine zG_aload_n X dL_law_1262 rfl ?_
  refine zL_arg X hX hbl hN (i := i) 1 rfl rfl (by omega) (by omega) dL_law_1263 dL_law_1264 dL_law_1266 dL_law_1267 dL_law_1268 ?_
  refine zG_callV (as2 := [_]) rfl X hM dL_law_1269 mv_X5_bestLag ml_L_155 rfl rfl (by decide) rfl (Nat.le_of_ble_eq_true rfl) (Nat.le_of_ble_eq_true rfl) hce hsl (Nat.le_of_ble_eq_true rfl) ?_
  intro v3 I3 G3 F3 hP3
  obtain ⟨aM, J3, b3, rfl, rfl, h4, hG, hI⟩ := hj v3 I3 G3 F3 hP3
  refine zG_istore X dL_law_1272 (by decide) rfl ?_
  refine zG_aload_n X dL_law_1274 rfl ?_
  refine zj_callV1 (as2 := []) X (k_X5_thrown lo 10 J3 G3 F3) dL_law_1275 mv_X5_thrown ml_L_89 rfl rfl (by decide) rfl rfl (Nat.le_of_ble_eq_true rfl) (Nat.le_of_ble_eq_true rfl) hce hsl (Nat.le_of_ble_eq_true rfl) ?_
  rw [h4]
  refine zG_iload X dL_law_1278 rfl ?_
  refine zG_icmp_eq X dL_law_1280 (tgt := 1285) (by decide) (fun _ => ?_) (fun h => absurd rfl h)
  refine zG_iload X dL_law_1285 rfl ?_
  refine zj_if_ne X dL_law_1287 (tgt := 1302) (by decide) hr (fun _ => zG_goto X dL_law_1302 (tgt := 1486) (by decide) (zG_sub (zle_set (zle_set zle_rf (fun v h => by cases h)) (fun v h => by cases h)) (k _ _ _ _ hI))) (fun h0 => ?_)
  refine zG_aload_n X dL_law_1290 rfl ?_
  refine zj_iconst X dL_law_1291 ?_
  refine zj_laload X dL_law_1292 rfl (by decide) 0 rfl (by decide) ?_
  refine zG_iload X dL_law_1293 rfl ?_
  refine zG_i2l X dL_law_1295 ?_
  exact zG_lcmp_eq X dL_law_1296 dL_law_1297 (tgt := 1302) (by decide) (fun _ => zG_goto X dL_law_1302 (tgt := 1486) (by decide) (zG_sub (zle_set (zle_set zle_rf (fun v h => by cases h)) (fun v h => by cases h)) (k _ _ _ _ hI))) (fun h => absurd (hG h0) h)
set_option maxHeartbeats 4000000 in
set_option maxRecDepth 100000 in
theorem lc_20 {p : Program} {l : Launch} {e : Env} {s : State} {m : MethodId} {args : Array Value} {below : List Frame} {meth : Method} {c : Code} {D : va_G} {cA : Nat → ClassId} {lo : Nat} {cells slots : Nat} {Q : State → Prop} {J : Nat → Nat → Int} {G : Nat → Nat → Int64} {F : Nat → Nat → Option Nat} {b1 : Nat → Nat} {nm : String} (X : zCx p l s m meth c (yLn nm) cL_law 9 ret D cA) (Y : zXS lo s) (Nn : zNC s) {b N : Nat} {xs : Nat → Int32} (hX : va_X b N xs s s.heap) (hbl : b < lo) (hN : N ≤ 2560) {i : Int} (hi0 : 0 ≤ i) (hi : i + 5 ≤ N) (hce : cells + 1 ≤ 601024) (hsl : slots + 6 ≤ 7293034) (I : zInv J G F b1) (k : ∀ J3 G3 F3 b3, zInv J3 G3 F3 b3 → zG p l e room_1 s m args below meth c D cA lo 9 (cells + 1) (slots + 6) Q 57 (zM J3) G3 F3 (lwL b lo i) [] 1486) : zG p l e room_1 s m args below meth c D cA lo 9 cells slots Q 57 (zM J) G F (lwL b lo i) [] 1305 := by
  obtain ⟨PC, hc, hj0⟩ := ps_kept (lo := lo) I
  refine zG_aload_n X dL_law_1305 rfl ?_
  refine zG_callV (as2 := []) rfl X hc dL_law_1306 mv_X4_kept ml_L_156 rfl rfl (by decide) rfl (Nat.le_of_ble_eq_true rfl) (Nat.le_of_ble_eq_true rfl) (by show cells + 0 ≤ 601024; omega) (by show slots + 0 ≤ 7293034; omega) (Nat.le_of_ble_eq_true rfl) ?_
  intro v I2 G2 F2 hP
  obtain ⟨v0, rfl, PM, hM, hj⟩ := hj0 v I2 G2 F2 hP
  refine zG_dstore X dL_law_1309 (by decide) rfl ?_
  refine zG_aload_n X dL_law_1311 rfl ?_
  refine zG_callV (as2 := []) rfl X hM dL_law_1312 mv_X5_kept ml_L_160 rfl rfl (by decide) rfl (Nat.le_of_ble_eq_true rfl) (Nat.le_of_ble_eq_true rfl) (by show cells + 0 + 0 ≤ 601024; omega) (by show slots + 0 + 0 ≤ 7293034; omega) (Nat.le_of_ble_eq_true rfl) ?_
  intro v3 I3 G3 F3 hP3
  obtain ⟨rfl, J3, b3, rfl, hI⟩ := hj v3 I3 G3 F3 hP3
  refine zG_dstore X dL_law_1315 (by decide) rfl ?_
  have fin : zG p l e room_1 s m args below meth c D cA lo 9 (cells + 0 + 0) (slots + 0 + 0) Q 57 (zM J3) G3 F3 (((((lwL b lo i).set (5 + 1) none).set 5 (some (Value.double v0))).set (7 + 1) none).set 7 (some (Value.double v0))) [] 1343 := zG_goto X dL_law_1343 (tgt := 1486) (by decide) (zG_widen (mc := cells + 1) (ms := slots + 6) (Qc := fun _ _ _ _ => True) (free := fun _ => True) (by omega) (by omega) (zG_sub (zle_set (zle_set (zle_set (zle_set zle_rf (fun v h => by cases h)) (fun v h => by cases h)) (fun v h => by cases h)) (fun v h => by cases h)) (k _ _ _ _ hI)))
  refine zG_dload X dL_law_1317 rfl ?_
  refine zG_dload X dL_law_1319 rfl ?_
  refine zG_dcmp X dL_law_1321 ?_
  refine zG_if_eq X dL_law_1322 (tgt := 1343) (by decide) (fun _ => fin) (fun h => ?_)
  refine zG_dload X dL_law_1325 rfl ?_
  refine zG_dload X dL_law_1327 rfl ?_
  refine zG_dcmp X dL_law_1329 ?_
  refine zG_if_eq X dL_law_1330 (tgt := 1341) (by decide) (fun q => absurd q h) (fun _ => ?_)
  refine zG_dload X dL_law_1333 rfl ?_
  refine zG_dload X dL_law_1335 rfl ?_
  refine zG_dcmp X dL_law_1337 ?_
  exact zG_if_ne X dL_law_1338 (tgt := 1343) (by decide) (fun _ => fin) (fun q => absurd q h)
set_option maxHeartbeats 4000000 in
set_option maxRecDepth 100000 in
theorem lc_21 {p : Program} {l : Launch} {e : Env} {s : State} {m : MethodId} {args : Array Value} {below : List Frame} {meth : Method} {c : Code} {D : va_G} {cA : Nat → ClassId} {lo : Nat} {cells slots : Nat} {Q : State → Prop} {J : Nat → Nat → Int} {G : Nat → Nat → Int64} {F : Nat → Nat → Option Nat} {b1 : Nat → Nat} {nm : String} (X : zCx p l s m meth c (yLn nm) cL_law 9 ret D cA) (Y : zXS lo s) (Nn : zNC s) {b N : Nat} {xs : Nat → Int32} (hX : va_X b N xs s s.heap) (hbl : b < lo) (hN : N ≤ 2560) {i : Int} (hi0 : 0 ≤ i) (hi : i + 5 ≤ N) (hce : cells + 1 ≤ 601024) (hsl : slots + 6 ≤ 7293034) (I : zInv J G F b1) (k : ∀ J3 G3 F3 b3, zInv J3 G3 F3 b3 → zG p l e room_1 s m args below meth c D cA lo 9 (cells + 1) (slots + 6) Q 57 (zM J3) G3 F3 (lwL b lo i) [] 1486) : zG p l e room_1 s m args below meth c D cA lo 9 cells slots Q 57 (zM J) G F (lwL b lo i) [] 1346 := by
  obtain ⟨r, P, hr, hw, hj0⟩ := pe_append (lo := lo) I (zr_x (x := (xs (i + 1).toNat)))
  refine zG_aload_n X dL_law_1346 rfl ?_
  refine zL_arg X hX hbl hN (i := i) 1 rfl rfl (by omega) (by omega) dL_law_1347 dL_law_1348 dL_law_1350 dL_law_1351 dL_law_1352 ?_
  refine zG_aload_n X dL_law_1353 rfl ?_
  refine zG_callH (as2 := [_, _, _]) rfl X Y Nn hw dL_law_1354 wl_append.1 iniL wl_append.2.1 (by decide) (by decide) wl_append.2.2 (show Cond.methodLink RL 161 yL_append ∈ lw_tbl from List.mem_of_getElem? (i := 785) (by decide +kernel)) rfl (Nat.le_of_ble_eq_true rfl) (Nat.le_of_ble_eq_true rfl) hce hsl (Nat.le_of_ble_eq_true rfl) ?_
  intro v I2 G2 F2 hP
  obtain ⟨rfl, PM, hM, hj⟩ := hj0 v I2 G2 F2 hP
  refine zG_istore X dL_law_1357 (by decide) rfl ?_
  refine zG_aload_n X dL_law_1359 rfl ?_
  refine zL_arg X hX hbl hN (i := i) 1 rfl rfl (by omega) (by omega) dL_law_1360 dL_law_1361 dL_law_1363 dL_law_1364 dL_law_1365 ?_
  refine zG_callV (as2 := [_]) rfl X hM dL_law_1366 mv_X5_append ml_L_163 rfl rfl (by decide) rfl (Nat.le_of_ble_eq_true rfl) (Nat.le_of_ble_eq_true rfl) hce hsl (Nat.le_of_ble_eq_true rfl) ?_
  intro v3 I3 G3 F3 hP3
  obtain ⟨aM, J3, b3, rfl, rfl, h4, hG, hI⟩ := hj v3 I3 G3 F3 hP3
  refine zG_istore X dL_law_1369 (by decide) rfl ?_
  refine zG_aload_n X dL_law_1371 rfl ?_
  refine zj_callV1 (as2 := []) X (k_X5_thrown lo 10 J3 G3 F3) dL_law_1372 mv_X5_thrown ml_L_89 rfl rfl (by decide) rfl rfl (Nat.le_of_ble_eq_true rfl) (Nat.le_of_ble_eq_true rfl) hce hsl (Nat.le_of_ble_eq_true rfl) ?_
  rw [h4]
  refine zG_iload X dL_law_1375 rfl ?_
  refine zG_icmp_eq X dL_law_1377 (tgt := 1382) (by decide) (fun _ => ?_) (fun h => absurd rfl h)
  refine zG_iload X dL_law_1382 rfl ?_
  refine zj_if_ne X dL_law_1384 (tgt := 1399) (by decide) hr (fun _ => zG_goto X dL_law_1399 (tgt := 1486) (by decide) (zG_sub (zle_set (zle_set zle_rf (fun v h => by cases h)) (fun v h => by cases h)) (k _ _ _ _ hI))) (fun h0 => ?_)
  refine zG_aload_n X dL_law_1387 rfl ?_
  refine zj_iconst X dL_law_1388 ?_
  refine zj_laload X dL_law_1389 rfl (by decide) 0 rfl (by decide) ?_
  refine zG_iload X dL_law_1390 rfl ?_
  refine zG_i2l X dL_law_1392 ?_
  exact zG_lcmp_eq X dL_law_1393 dL_law_1394 (tgt := 1399) (by decide) (fun _ => zG_goto X dL_law_1399 (tgt := 1486) (by decide) (zG_sub (zle_set (zle_set zle_rf (fun v h => by cases h)) (fun v h => by cases h)) (k _ _ _ _ hI))) (fun h => absurd (hG h0) h)
set_option maxHeartbeats 4000000 in
set_option maxRecDepth 100000 in
theorem lc_22 {p : Program} {l : Launch} {e : Env} {s : State} {m : MethodId} {args : Array Value} {below : List Frame} {meth : Method} {c : Code} {D : va_G} {cA : Nat → ClassId} {lo : Nat} {cells slots : Nat} {Q : State → Prop} {J : Nat → Nat → Int} {G : Nat → Nat → Int64} {F : Nat → Nat → Option Nat} {b1 : Nat → Nat} {nm : String} (X : zCx p l s m meth c (yLn nm) cL_law 9 ret D cA) (Y : zXS lo s) (Nn : zNC s) {b N : Nat} {xs : Nat → Int32} (hX : va_X b N xs s s.heap) (hbl : b < lo) (hN : N ≤ 2560) {i : Int} (hi0 : 0 ≤ i) (hi : i + 5 ≤ N) (hce : cells + 1 ≤ 601024) (hsl : slots + 6 ≤ 7293034) (I : zInv J G F b1) (k : ∀ J3 G3 F3 b3, zInv J3 G3 F3 b3 → zG p l e room_1 s m args below meth c D cA lo 9 (cells + 1) (slots + 6) Q 57 (zM J3) G3 F3 (lwL b lo i) [] 1486) : zG p l e room_1 s m args below meth c D cA lo 9 cells slots Q 57 (zM J) G F (lwL b lo i) [] 1402 := by
  obtain ⟨PC, hc, hj0⟩ := ps_clearText (lo := lo) I
  refine zG_aload_n X dL_law_1402 rfl ?_
  refine zG_callV (as2 := []) rfl X hc dL_law_1403 mv_X4_clearText ml_L_164 rfl rfl (by decide) rfl (Nat.le_of_ble_eq_true rfl) (Nat.le_of_ble_eq_true rfl) (by show cells + 0 ≤ 601024; omega) (by show slots + 0 ≤ 7293034; omega) (Nat.le_of_ble_eq_true rfl) ?_
  intro v I2 G2 F2 hP
  obtain ⟨v0, rfl, PM, hM, hj⟩ := hj0 v I2 G2 F2 hP
  refine zG_aload_n X dL_law_1406 rfl ?_
  refine zG_callV (as2 := []) rfl X hM dL_law_1407 mv_X5_clearText ml_L_167 rfl rfl (by decide) rfl (Nat.le_of_ble_eq_true rfl) (Nat.le_of_ble_eq_true rfl) (by show cells + 0 + 0 ≤ 601024; omega) (by show slots + 0 + 0 ≤ 7293034; omega) (Nat.le_of_ble_eq_true rfl) ?_
  intro v3 I3 G3 F3 hP3
  obtain ⟨rfl, J3, b3, rfl, hI⟩ := hj v3 I3 G3 F3 hP3
  exact zG_icmp_eq X dL_law_1410 (tgt := 1486) (by decide) (fun _ => zG_widen (mc := cells + 1) (ms := slots + 6) (Qc := fun _ _ _ _ => True) (free := fun _ => True) (by omega) (by omega) ((k _ _ _ _ hI))) (fun h => absurd rfl h)
set_option maxHeartbeats 4000000 in
set_option maxRecDepth 100000 in
theorem lc_23 {p : Program} {l : Launch} {e : Env} {s : State} {m : MethodId} {args : Array Value} {below : List Frame} {meth : Method} {c : Code} {D : va_G} {cA : Nat → ClassId} {lo : Nat} {cells slots : Nat} {Q : State → Prop} {J : Nat → Nat → Int} {G : Nat → Nat → Int64} {F : Nat → Nat → Option Nat} {b1 : Nat → Nat} {nm : String} (X : zCx p l s m meth c (yLn nm) cL_law 9 ret D cA) (Y : zXS lo s) (Nn : zNC s) {b N : Nat} {xs : Nat → Int32} (hX : va_X b N xs s s.heap) (hbl : b < lo) (hN : N ≤ 2560) {i : Int} (hi0 : 0 ≤ i) (hi : i + 5 ≤ N) (hce : cells + 1 ≤ 601024) (hsl : slots + 6 ≤ 7293034) (I : zInv J G F b1) (k : ∀ J3 G3 F3 b3, zInv J3 G3 F3 b3 → zG p l e room_1 s m args below meth c D cA lo 9 (cells + 1) (slots + 6) Q 57 (zM J3) G3 F3 (lwL b lo i) [] 1486) : zG p l e room_1 s m args below meth c D cA lo 9 cells slots Q 57 (zM J) G F (lwL b lo i) [] 1415 := by
  obtain ⟨PC, hc, hj0⟩ := ps_parse (lo := lo) I
  refine zG_aload_n X dL_law_1415 rfl ?_
  refine zG_callV (as2 := []) rfl X hc dL_law_1416 mv_X4_parse ml_L_168 rfl rfl (by decide) rfl (Nat.le_of_ble_eq_true rfl) (Nat.le_of_ble_eq_true rfl) (by show cells + 0 ≤ 601024; omega) (by show slots + 0 ≤ 7293034; omega) (Nat.le_of_ble_eq_true rfl) ?_
  intro v I2 G2 F2 hP
  obtain ⟨v0, rfl, PM, hM, hj⟩ := hj0 v I2 G2 F2 hP
  refine zG_aload_n X dL_law_1419 rfl ?_
  refine zG_callV (as2 := []) rfl X hM dL_law_1420 mv_X5_parse ml_L_171 rfl rfl (by decide) rfl (Nat.le_of_ble_eq_true rfl) (Nat.le_of_ble_eq_true rfl) (by show cells + 0 + 0 ≤ 601024; omega) (by show slots + 0 + 0 ≤ 7293034; omega) (Nat.le_of_ble_eq_true rfl) ?_
  intro v3 I3 G3 F3 hP3
  obtain ⟨rfl, J3, b3, rfl, hI⟩ := hj v3 I3 G3 F3 hP3
  exact zG_icmp_eq X dL_law_1423 (tgt := 1486) (by decide) (fun _ => zG_widen (mc := cells + 1) (ms := slots + 6) (Qc := fun _ _ _ _ => True) (free := fun _ => True) (by omega) (by omega) ((k _ _ _ _ hI))) (fun h => absurd rfl h)
set_option maxHeartbeats 4000000 in
set_option maxRecDepth 100000 in
theorem lc_24 {p : Program} {l : Launch} {e : Env} {s : State} {m : MethodId} {args : Array Value} {below : List Frame} {meth : Method} {c : Code} {D : va_G} {cA : Nat → ClassId} {lo : Nat} {cells slots : Nat} {Q : State → Prop} {J : Nat → Nat → Int} {G : Nat → Nat → Int64} {F : Nat → Nat → Option Nat} {b1 : Nat → Nat} {nm : String} (X : zCx p l s m meth c (yLn nm) cL_law 9 ret D cA) (Y : zXS lo s) (Nn : zNC s) {b N : Nat} {xs : Nat → Int32} (hX : va_X b N xs s s.heap) (hbl : b < lo) (hN : N ≤ 2560) {i : Int} (hi0 : 0 ≤ i) (hi : i + 5 ≤ N) (hce : cells + 1 ≤ 601024) (hsl : slots + 6 ≤ 7293034) (I : zInv J G F b1) (k : ∀ J3 G3 F3 b3, zInv J3 G3 F3 b3 → zG p l e room_1 s m args below meth c D cA lo 9 (cells + 1) (slots + 6) Q 57 (zM J3) G3 F3 (lwL b lo i) [] 1486) : zG p l e room_1 s m args below meth c D cA lo 9 cells slots Q 57 (zM J) G F (lwL b lo i) [] 1428 := by
  obtain ⟨r, P, hr, hw, hj0⟩ := pe_undo (lo := lo) I 
  refine zG_aload_n X dL_law_1428 rfl ?_
  refine zG_aload_n X dL_law_1429 rfl ?_
  refine zG_callH (as2 := [_, _]) rfl X Y Nn hw dL_law_1430 wl_undo.1 iniL wl_undo.2.1 (by decide) (by decide) wl_undo.2.2 (show Cond.methodLink RL 172 yL_undo ∈ lw_tbl from List.mem_of_getElem? (i := 794) (by decide +kernel)) rfl (Nat.le_of_ble_eq_true rfl) (Nat.le_of_ble_eq_true rfl) hce hsl (Nat.le_of_ble_eq_true rfl) ?_
  intro v I2 G2 F2 hP
  obtain ⟨rfl, PM, hM, hj⟩ := hj0 v I2 G2 F2 hP
  refine zG_istore X dL_law_1433 (by decide) rfl ?_
  refine zG_aload_n X dL_law_1435 rfl ?_
  refine zG_callV (as2 := []) rfl X hM dL_law_1436 mv_X5_undo ml_L_175 rfl rfl (by decide) rfl (Nat.le_of_ble_eq_true rfl) (Nat.le_of_ble_eq_true rfl) hce hsl (Nat.le_of_ble_eq_true rfl) ?_
  intro v3 I3 G3 F3 hP3
  obtain ⟨aM, J3, b3, rfl, rfl, h4, hG, hI⟩ := hj v3 I3 G3 F3 hP3
  refine zG_istore X dL_law_1439 (by decide) rfl ?_
  refine zG_aload_n X dL_law_1441 rfl ?_
  refine zj_callV1 (as2 := []) X (k_X5_thrown lo 10 J3 G3 F3) dL_law_1442 mv_X5_thrown ml_L_89 rfl rfl (by decide) rfl rfl (Nat.le_of_ble_eq_true rfl) (Nat.le_of_ble_eq_true rfl) hce hsl (Nat.le_of_ble_eq_true rfl) ?_
  rw [h4]
  refine zG_iload X dL_law_1445 rfl ?_
  refine zG_icmp_eq X dL_law_1447 (tgt := 1452) (by decide) (fun _ => ?_) (fun h => absurd rfl h)
  refine zG_iload X dL_law_1452 rfl ?_
  refine zj_if_ne X dL_law_1454 (tgt := 1469) (by decide) hr (fun _ => zG_goto X dL_law_1469 (tgt := 1486) (by decide) (zG_sub (zle_set (zle_set zle_rf (fun v h => by cases h)) (fun v h => by cases h)) (k _ _ _ _ hI))) (fun h0 => ?_)
  refine zG_aload_n X dL_law_1457 rfl ?_
  refine zj_iconst X dL_law_1458 ?_
  refine zj_laload X dL_law_1459 rfl (by decide) 0 rfl (by decide) ?_
  refine zG_iload X dL_law_1460 rfl ?_
  refine zG_i2l X dL_law_1462 ?_
  exact zG_lcmp_eq X dL_law_1463 dL_law_1464 (tgt := 1469) (by decide) (fun _ => zG_goto X dL_law_1469 (tgt := 1486) (by decide) (zG_sub (zle_set (zle_set zle_rf (fun v h => by cases h)) (fun v h => by cases h)) (k _ _ _ _ hI))) (fun h => absurd (hG h0) h)
set_option maxHeartbeats 4000000 in
set_option maxRecDepth 100000 in
theorem lc_25 {p : Program} {l : Launch} {e : Env} {s : State} {m : MethodId} {args : Array Value} {below : List Frame} {meth : Method} {c : Code} {D : va_G} {cA : Nat → ClassId} {lo : Nat} {cells slots : Nat} {Q : State → Prop} {J : Nat → Nat → Int} {G : Nat → Nat → Int64} {F : Nat → Nat → Option Nat} {b1 : Nat → Nat} {nm : String} (X : zCx p l s m meth c (yLn nm) cL_law 9 ret D cA) (Y : zXS lo s) (Nn : zNC s) {b N : Nat} {xs : Nat → Int32} (hX : va_X b N xs s s.heap) (hbl : b < lo) (hN : N ≤ 2560) {i : Int} (hi0 : 0 ≤ i) (hi : i + 5 ≤ N) (hce : cells + 1 ≤ 601024) (hsl : slots + 6 ≤ 7293034) (I : zInv J G F b1) (k : ∀ J3 G3 F3 b3, zInv J3 G3 F3 b3 → zG p l e room_1 s m args below meth c D cA lo 9 (cells + 1) (slots + 6) Q 57 (zM J3) G3 F3 (lwL b lo i) [] 1486) : zG p l e room_1 s m args below meth c D cA lo 9 cells slots Q 57 (zM J) G F (lwL b lo i) [] 1472 := by
  obtain ⟨PC, hc, hj0⟩ := ps_digest (lo := lo) I (N := 2001) rfl
  refine zG_aload_n X dL_law_1472 rfl ?_
  refine zG_callV (as2 := []) rfl X hc dL_law_1473 mv_X4_digest ml_L_176 rfl rfl (by decide) rfl (Nat.le_of_ble_eq_true rfl) (Nat.le_of_ble_eq_true rfl) (by show cells + 0 ≤ 601024; omega) (by show slots + 0 ≤ 7293034; omega) (Nat.le_of_ble_eq_true rfl) ?_
  intro v I2 G2 F2 hP
  obtain ⟨v0, rfl, PM, hM, hj⟩ := hj0 v I2 G2 F2 hP
  refine zG_aload_n X dL_law_1476 rfl ?_
  refine zG_callV (as2 := []) rfl X hM dL_law_1477 mv_X5_digest ml_L_180 rfl rfl (by decide) rfl (Nat.le_of_ble_eq_true rfl) (Nat.le_of_ble_eq_true rfl) (by show cells + 0 + 0 ≤ 601024; omega) (by show slots + 0 + 0 ≤ 7293034; omega) (Nat.le_of_ble_eq_true rfl) ?_
  intro v3 I3 G3 F3 hP3
  obtain ⟨rfl, J3, b3, rfl, hI⟩ := hj v3 I3 G3 F3 hP3
  exact zG_lcmp_eq X dL_law_1480 dL_law_1481 (tgt := 1486) (by decide) (fun _ => zG_widen (mc := cells + 1) (ms := slots + 6) (Qc := fun _ _ _ _ => True) (free := fun _ => True) (by omega) (by omega) ((k _ _ _ _ hI))) (fun h => absurd rfl h)
