/-! the law's cases -/
set_option maxHeartbeats 4000000 in
set_option maxRecDepth 100000 in
theorem k_state {p : Program} {l : Launch} {e : Env} {s : State} {m : MethodId} {args : Array Value} {below : List Frame} {meth : Method} {c : Code} {A : Nat → Prop} {G : jG} {Q : State → Prop} {b L n : Nat} {xs : Nat → Int32} {h h2 : Nat → Nat} {o od : Nat} {FC : Nat → Nat → Int} {VC : Nat → Int} {FM : Nat → Nat → Int} {VM fd fo : Nat → Int} {fdd : Nat → UInt64}
    (hh : jOK p s m args meth c A G cL_law wsL_law RL 9) (hnc : ∀ E ∈ jEX, ∀ nm ∈ jEX, E ≠ nm → va_Nc E nm s) (hlt : l.stackTraces = false) (hX : va_X b L xs s s.heap) (hbl : b < s.heap.size) (hbA : ¬ A b) (hn : 5 * n + 5 ≤ L) (hL : L ≤ 2560) (hI : Inv FC VC FM VM)
    (next : ∀ (FC : Nat → Nat → Int) (VC : Nat → Int) (FM : Nat → Nat → Int) (VM fd fo : Nat → Int) (fdd : Nat → UInt64), Inv FC VC FM VM → J p l e room_1 s m args below meth c A G 9 (37 + (n + 1)) (1592 + 6 * (n + 1)) Q (wQ G h FC VC h2 FM VM fd o fo od fdd) 1554 [(0, .ref b), (1, .ref (h 0)), (2, .ref (h2 0)), (3, .ref o), (4, .ref od), (5, .int (iI ((5 * n : Nat) : Int)))] []) : J p l e room_1 s m args below meth c A G 9 (37 + n) (1592 + 6 * n) Q (wQ G h FC VC h2 FM VM fd o fo od fdd) 1274 [(0, .ref b), (1, .ref (h 0)), (2, .ref (h2 0)), (3, .ref o), (4, .ref od), (5, .int (iI ((5 * n : Nat) : Int)))] [] := by
  have hok := okC_of hI
  have hown := inv_own hI
  refine jr_aload_n (pc := 1274) hh 1 dL_law_1274 rfl rfl ?_
  refine jr_aload_n (pc := 1275) hh 0 dL_law_1275 rfl rfl ?_
  refine jr_iload (pc := 1276) hh 5 dL_law_1276 rfl ?_
  refine jr_iconst (pc := 1278) hh dL_law_1278 ?_
  refine jr_iadd (pc := 1279) hh dL_law_1279 ?_
  refine jr_sld (pc := 1280) hh hX hbl hbA (5 * n + 1) (by omega) (by omega) (by omega) dL_law_1280 ?_
  refine jr_aload_n (pc := 1281) hh 0 dL_law_1281 rfl rfl ?_
  refine jr_iload (pc := 1282) hh 5 dL_law_1282 rfl ?_
  refine jr_iconst (pc := 1284) hh dL_law_1284 ?_
  refine jr_iadd (pc := 1285) hh dL_law_1285 ?_
  refine jr_sld (pc := 1286) hh hX hbl hbA (5 * n + 2) (by omega) (by omega) (by omega) dL_law_1286 ?_
  refine jr_aload_n (pc := 1287) hh 3 dL_law_1287 rfl rfl ?_
  refine jr_callSL (pc := 1288) hh hnc [.ref (h 0), .int (iI (xs (5 * n + 1)).toInt), .int (iI (xs (5 * n + 2)).toInt), .ref o] [] (w_state l hlt G h FC VC o fo ((xs (5 * n + 1)).toInt) ((xs (5 * n + 2)).toInt) (iI_range _) (iI_range _) hok) gL_law_L_state rfl (by decide) ⟨by show 37 + n + 1 ≤ 3130; omega, by show 1592 + 6 * n + 6 ≤ 120502; omega⟩ [0, 1, 2, 3, 4, 5, 6, 7, 8, 9, 10, 11, 12, 13, 14, 15, 16, 17, 35] [18, 19, 20, 21, 22, 23, 24, 25, 26, 27, 28, 29, 30, 31, 32, 33, 34, 36] rfl rfl rfl rfl (by decide) 4 rfl rfl (Nat.le_of_ble_eq_true rfl) (by decide +kernel) dL_law_1288 (fun rv1 w1 hw1 => ?_)
  obtain ⟨rfl, FC', VC', fo', rfl, hc1, hc2⟩ := hw1
  generalize hcdC : cdState (VC 2) ((xs (5 * n + 1)).toInt) ((xs (5 * n + 2)).toInt) = kC at hc1 hc2
  refine jr_perm (ws' := (wQ G h FC' VC' h2 FM VM fd o fo' od fdd)) (st := [.int (iI kC)]) [18, 19, 20, 21, 22, 23, 24, 25, 26, 27, 28, 29, 30, 31, 32, 33, 34, 35, 0, 1, 2, 3, 4, 5, 6, 7, 8, 9, 10, 11, 12, 13, 14, 15, 16, 36, 17] rfl rfl ?_
  refine jr_istore (lv' := [(6, .int (iI kC)), (0, .ref b), (1, .ref (h 0)), (2, .ref (h2 0)), (3, .ref o), (4, .ref od), (5, .int (iI ((5 * n : Nat) : Int)))]) (pc := 1291) hh dL_law_1291 (by decide) rfl ?_
  refine jr_aload_n (pc := 1293) hh 3 dL_law_1293 rfl rfl ?_
  refine jr_aload_n (pc := 1294) hh 1 dL_law_1294 rfl rfl ?_
  refine jr_iload (pc := 1295) hh 6 dL_law_1295 rfl ?_
  refine jr_iconst (pc := 1297) hh dL_law_1297 ?_
  refine jr_iadd (pc := 1298) hh dL_law_1298 ?_
  refine jr_sld (pc := 1299) hh hX hbl hbA (5 * n + 1) (by omega) (by omega) (by omega) dL_law_1299 ?_
  refine jr_aload_n (pc := 1300) hh 1 dL_law_1300 rfl rfl ?_
  refine jr_iload (pc := 1301) hh 6 dL_law_1301 rfl ?_
  refine jr_iconst (pc := 1303) hh dL_law_1303 ?_
  refine jr_iadd (pc := 1304) hh dL_law_1304 ?_
  refine jr_sld (pc := 1305) hh hX hbl hbA (5 * n + 2) (by omega) (by omega) (by omega) dL_law_1305 ?_
  refine jr_callV (pc := 1306) hh [.int (iI (xs (5 * n + 1)).toInt), .int (iI (xs (5 * n + 2)).toInt)] [] (c_X4_state l G h2 FM VM fd ((xs (5 * n + 1)).toInt) ((xs (5 * n + 2)).toInt) (iI_range _) (iI_range _) hI.1) gL_law_X4_state rfl (by decide) ⟨by show 37 + n + 1 + 0 ≤ 3130; omega, by show 1592 + 6 * n + 6 + 0 ≤ 120502; omega⟩ [18, 19, 20, 21, 22, 23, 24, 25, 26, 27, 28, 29, 30, 31, 32, 33, 34] [0, 1, 2, 3, 4, 5, 6, 7, 8, 9, 10, 11, 12, 13, 14, 15, 16, 17, 35, 36] rfl rfl rfl rfl (by decide) 0 rfl rfl 2 rfl rfl (Nat.le_of_ble_eq_true rfl) (by decide +kernel) dL_law_1306 (fun rv2 w2 hw2 => ?_)
  obtain ⟨v, FM', VM', fd', rfl, rfl, hm1, hm2⟩ := hw2
  rw [← hcdC] at hc1 hc2
  have hop := op_state hI hc1 hc2 hm1 hm2
  rw [hcdC] at hop
  obtain ⟨h0, hkr, hval, hI2⟩ := hop
  refine jr_perm (ws' := (wQ G h FC' VC' h2 FM' VM' fd' o fo' od fdd)) (st := [.int (iI v)]) [0, 1, 2, 3, 4, 5, 6, 7, 8, 9, 10, 11, 12, 13, 14, 15, 16, 17, 20, 21, 22, 23, 24, 25, 26, 27, 28, 29, 30, 31, 32, 33, 34, 35, 36, 18, 19] rfl rfl ?_
  refine jr_istore (lv' := [(7, .int (iI v)), (6, .int (iI kC)), (0, .ref b), (1, .ref (h 0)), (2, .ref (h2 0)), (3, .ref o), (4, .ref od), (5, .int (iI ((5 * n : Nat) : Int)))]) (pc := 1309) hh dL_law_1309 (by decide) rfl ?_
  refine jr_aload_n (pc := 1311) hh 4 dL_law_1311 rfl rfl ?_
  refine jr_callV (pc := 1312) hh [] [] (c_X4_thrown l G h2 FM' VM' fd') gL_law_X4_thrown rfl (by decide) ⟨by show 37 + n + 1 + 0 + 0 ≤ 3130; omega, by show 1592 + 6 * n + 6 + 0 + 0 ≤ 120502; omega⟩ [18, 19, 20, 21, 22, 23, 24, 25, 26, 27, 28, 29, 30, 31, 32, 33, 34] [0, 1, 2, 3, 4, 5, 6, 7, 8, 9, 10, 11, 12, 13, 14, 15, 16, 17, 35, 36] rfl rfl rfl rfl (by decide) 0 rfl rfl 0 rfl rfl (Nat.le_of_ble_eq_true rfl) (by decide +kernel) dL_law_1312 (fun rv3 w3 hw3 => ?_)
  obtain ⟨rfl, rfl⟩ := hw3
  refine jr_perm (ws' := (wQ G h FC' VC' h2 FM' VM' fd' o fo' od fdd)) (st := [.int (iI (VM' 0))]) [0, 1, 2, 3, 4, 5, 6, 7, 8, 9, 10, 11, 12, 13, 14, 15, 16, 17, 20, 21, 22, 23, 24, 25, 26, 27, 28, 29, 30, 31, 32, 33, 34, 35, 36, 18, 19] rfl rfl ?_
  refine jr_topi (b := kC) h0 ?_
  refine jr_iload (pc := 1315) hh 1 dL_law_1315 rfl ?_
  refine jr_icmp_eq (tgt := 1322) (pc := 1317) hh dL_law_1317 (by decide) ⟨by omega, by omega⟩ ⟨by omega, by omega⟩ (fun _ => ?_) (fun c9 => absurd rfl c9)
  refine jr_iload (pc := 1322) hh 1 dL_law_1322 rfl ?_
  refine jr_if_ne (tgt := 1339) (pc := 1324) hh dL_law_1324 (by decide) ⟨by omega, by omega⟩ (fun _ => ?_) (fun c9 => ?_)
  · skip
    refine jr_goto (tgt := 1554) (pc := 1339) hh dL_law_1339 (by decide) ?_
    refine jr_loc (lv' := [(0, .ref b), (1, .ref (h 0)), (2, .ref (h2 0)), (3, .ref o), (4, .ref od), (5, .int (iI ((5 * n : Nat) : Int)))]) [2, 3, 4, 5, 6, 7] rfl ?_
    exact jr_room (by show 37 + n + 1 + 0 + 0 ≤ 37 + (n + 1); omega) (by show 1592 + 6 * n + 6 + 0 + 0 ≤ 1592 + 6 * (n + 1); omega) (next FC' VC' FM' VM' fd' fo' fdd hI2)
  · skip
    obtain ⟨hv1, hv2⟩ := hval c9
    have hv3 := hv2.1
    have hv4 := hv2.2
    refine jr_aload_n (pc := 1327) hh 5 dL_law_1327 rfl rfl ?_
    refine jr_iconst (pc := 1328) hh dL_law_1328 ?_
    refine jr_lald (F := fo') (pc := 1329) hh 35 rfl 0 rfl (by decide) (by decide) dL_law_1329 ?_
    refine jr_iload (pc := 1330) hh 0 dL_law_1330 rfl ?_
    refine jr_i2l (pc := 1332) hh dL_law_1332 ⟨hv3, hv4⟩ ?_
    refine jr_lcmp_eq (tgt := 1339) (pc := 1333) hh dL_law_1333 dL_law_1334 (by decide) ⟨by omega, by omega⟩ ⟨by omega, by omega⟩ (fun _ => ?_) (fun c8 => absurd hv1 c8)
    refine jr_goto (tgt := 1554) (pc := 1339) hh dL_law_1339 (by decide) ?_
    refine jr_loc (lv' := [(0, .ref b), (1, .ref (h 0)), (2, .ref (h2 0)), (3, .ref o), (4, .ref od), (5, .int (iI ((5 * n : Nat) : Int)))]) [2, 3, 4, 5, 6, 7] rfl ?_
    exact jr_room (by show 37 + n + 1 + 0 + 0 ≤ 37 + (n + 1); omega) (by show 1592 + 6 * n + 6 + 0 + 0 ≤ 1592 + 6 * (n + 1); omega) (next FC' VC' FM' VM' fd' fo' fdd hI2)
set_option maxHeartbeats 4000000 in
set_option maxRecDepth 100000 in
theorem k_drift {p : Program} {l : Launch} {e : Env} {s : State} {m : MethodId} {args : Array Value} {below : List Frame} {meth : Method} {c : Code} {A : Nat → Prop} {G : jG} {Q : State → Prop} {b L n : Nat} {xs : Nat → Int32} {h h2 : Nat → Nat} {o od : Nat} {FC : Nat → Nat → Int} {VC : Nat → Int} {FM : Nat → Nat → Int} {VM fd fo : Nat → Int} {fdd : Nat → UInt64}
    (hh : jOK p s m args meth c A G cL_law wsL_law RL 9) (hnc : ∀ E ∈ jEX, ∀ nm ∈ jEX, E ≠ nm → va_Nc E nm s) (hlt : l.stackTraces = false) (hX : va_X b L xs s s.heap) (hbl : b < s.heap.size) (hbA : ¬ A b) (hn : 5 * n + 5 ≤ L) (hL : L ≤ 2560) (hI : Inv FC VC FM VM)
    (next : ∀ (FC : Nat → Nat → Int) (VC : Nat → Int) (FM : Nat → Nat → Int) (VM fd fo : Nat → Int) (fdd : Nat → UInt64), Inv FC VC FM VM → J p l e room_1 s m args below meth c A G 9 (37 + (n + 1)) (1592 + 6 * (n + 1)) Q (wQ G h FC VC h2 FM VM fd o fo od fdd) 1554 [(0, .ref b), (1, .ref (h 0)), (2, .ref (h2 0)), (3, .ref o), (4, .ref od), (5, .int (iI ((5 * n : Nat) : Int)))] []) : J p l e room_1 s m args below meth c A G 9 (37 + n) (1592 + 6 * n) Q (wQ G h FC VC h2 FM VM fd o fo od fdd) 1342 [(0, .ref b), (1, .ref (h 0)), (2, .ref (h2 0)), (3, .ref o), (4, .ref od), (5, .int (iI ((5 * n : Nat) : Int)))] [] := by
  have hok := okC_of hI
  have hown := inv_own hI
  refine jr_aload_n (pc := 1342) hh 1 dL_law_1342 rfl rfl ?_
  refine jr_aload_n (pc := 1343) hh 0 dL_law_1343 rfl rfl ?_
  refine jr_iload (pc := 1344) hh 5 dL_law_1344 rfl ?_
  refine jr_iconst (pc := 1346) hh dL_law_1346 ?_
  refine jr_iadd (pc := 1347) hh dL_law_1347 ?_
  refine jr_sld (pc := 1348) hh hX hbl hbA (5 * n + 1) (by omega) (by omega) (by omega) dL_law_1348 ?_
  refine jr_aload_n (pc := 1349) hh 0 dL_law_1349 rfl rfl ?_
  refine jr_iload (pc := 1350) hh 5 dL_law_1350 rfl ?_
  refine jr_iconst (pc := 1352) hh dL_law_1352 ?_
  refine jr_iadd (pc := 1353) hh dL_law_1353 ?_
  refine jr_sld (pc := 1354) hh hX hbl hbA (5 * n + 2) (by omega) (by omega) (by omega) dL_law_1354 ?_
  refine jr_aload_n (pc := 1355) hh 3 dL_law_1355 rfl rfl ?_
  refine jr_callSL (pc := 1356) hh hnc [.ref (h 0), .int (iI (xs (5 * n + 1)).toInt), .int (iI (xs (5 * n + 2)).toInt), .ref o] [] (w_drift l hlt G h FC VC o fo ((xs (5 * n + 1)).toInt) ((xs (5 * n + 2)).toInt) (iI_range _) (iI_range _) hok) gL_law_L_drift rfl (by decide) ⟨by show 37 + n + 1 ≤ 3130; omega, by show 1592 + 6 * n + 6 ≤ 120502; omega⟩ [0, 1, 2, 3, 4, 5, 6, 7, 8, 9, 10, 11, 12, 13, 14, 15, 16, 17, 35] [18, 19, 20, 21, 22, 23, 24, 25, 26, 27, 28, 29, 30, 31, 32, 33, 34, 36] rfl rfl rfl rfl (by decide) 4 rfl rfl (Nat.le_of_ble_eq_true rfl) (by decide +kernel) dL_law_1356 (fun rv1 w1 hw1 => ?_)
  obtain ⟨rfl, FC', VC', fo', rfl, hc1, hc2⟩ := hw1
  generalize hcdC : cdDrift (VC 2) ((xs (5 * n + 1)).toInt) ((xs (5 * n + 2)).toInt) (FC 11 (((xs (5 * n + 1)).toInt).toNat * 12 + ((xs (5 * n + 2)).toInt).toNat)) (enc (nmC FC 0 ((xs (5 * n + 2)).toInt).toNat 6 ((xs (5 * n + 1)).toInt).toNat)) = kC at hc1 hc2
  refine jr_perm (ws' := (wQ G h FC' VC' h2 FM VM fd o fo' od fdd)) (st := [.int (iI kC)]) [18, 19, 20, 21, 22, 23, 24, 25, 26, 27, 28, 29, 30, 31, 32, 33, 34, 35, 0, 1, 2, 3, 4, 5, 6, 7, 8, 9, 10, 11, 12, 13, 14, 15, 16, 36, 17] rfl rfl ?_
  refine jr_istore (lv' := [(6, .int (iI kC)), (0, .ref b), (1, .ref (h 0)), (2, .ref (h2 0)), (3, .ref o), (4, .ref od), (5, .int (iI ((5 * n : Nat) : Int)))]) (pc := 1359) hh dL_law_1359 (by decide) rfl ?_
  refine jr_aload_n (pc := 1361) hh 3 dL_law_1361 rfl rfl ?_
  refine jr_aload_n (pc := 1362) hh 1 dL_law_1362 rfl rfl ?_
  refine jr_iload (pc := 1363) hh 6 dL_law_1363 rfl ?_
  refine jr_iconst (pc := 1365) hh dL_law_1365 ?_
  refine jr_iadd (pc := 1366) hh dL_law_1366 ?_
  refine jr_sld (pc := 1367) hh hX hbl hbA (5 * n + 1) (by omega) (by omega) (by omega) dL_law_1367 ?_
  refine jr_aload_n (pc := 1368) hh 1 dL_law_1368 rfl rfl ?_
  refine jr_iload (pc := 1369) hh 6 dL_law_1369 rfl ?_
  refine jr_iconst (pc := 1371) hh dL_law_1371 ?_
  refine jr_iadd (pc := 1372) hh dL_law_1372 ?_
  refine jr_sld (pc := 1373) hh hX hbl hbA (5 * n + 2) (by omega) (by omega) (by omega) dL_law_1373 ?_
  refine jr_callV (pc := 1374) hh [.int (iI (xs (5 * n + 1)).toInt), .int (iI (xs (5 * n + 2)).toInt)] [] (c_X4_drift l G h2 FM VM fd ((xs (5 * n + 1)).toInt) ((xs (5 * n + 2)).toInt) (iI_range _) (iI_range _) hI.1) gL_law_X4_drift rfl (by decide) ⟨by show 37 + n + 1 + 0 ≤ 3130; omega, by show 1592 + 6 * n + 6 + 0 ≤ 120502; omega⟩ [18, 19, 20, 21, 22, 23, 24, 25, 26, 27, 28, 29, 30, 31, 32, 33, 34] [0, 1, 2, 3, 4, 5, 6, 7, 8, 9, 10, 11, 12, 13, 14, 15, 16, 17, 35, 36] rfl rfl rfl rfl (by decide) 0 rfl rfl 2 rfl rfl (Nat.le_of_ble_eq_true rfl) (by decide +kernel) dL_law_1374 (fun rv2 w2 hw2 => ?_)
  obtain ⟨v, FM', VM', fd', rfl, rfl, hm1, hm2⟩ := hw2
  rw [← hcdC] at hc1 hc2
  have hop := op_drift hI hc1 hc2 hm1 hm2
  rw [hcdC] at hop
  obtain ⟨h0, hkr, hval, hI2⟩ := hop
  refine jr_perm (ws' := (wQ G h FC' VC' h2 FM' VM' fd' o fo' od fdd)) (st := [.int (iI v)]) [0, 1, 2, 3, 4, 5, 6, 7, 8, 9, 10, 11, 12, 13, 14, 15, 16, 17, 20, 21, 22, 23, 24, 25, 26, 27, 28, 29, 30, 31, 32, 33, 34, 35, 36, 18, 19] rfl rfl ?_
  refine jr_istore (lv' := [(7, .int (iI v)), (6, .int (iI kC)), (0, .ref b), (1, .ref (h 0)), (2, .ref (h2 0)), (3, .ref o), (4, .ref od), (5, .int (iI ((5 * n : Nat) : Int)))]) (pc := 1377) hh dL_law_1377 (by decide) rfl ?_
  refine jr_aload_n (pc := 1379) hh 4 dL_law_1379 rfl rfl ?_
  refine jr_callV (pc := 1380) hh [] [] (c_X4_thrown l G h2 FM' VM' fd') gL_law_X4_thrown rfl (by decide) ⟨by show 37 + n + 1 + 0 + 0 ≤ 3130; omega, by show 1592 + 6 * n + 6 + 0 + 0 ≤ 120502; omega⟩ [18, 19, 20, 21, 22, 23, 24, 25, 26, 27, 28, 29, 30, 31, 32, 33, 34] [0, 1, 2, 3, 4, 5, 6, 7, 8, 9, 10, 11, 12, 13, 14, 15, 16, 17, 35, 36] rfl rfl rfl rfl (by decide) 0 rfl rfl 0 rfl rfl (Nat.le_of_ble_eq_true rfl) (by decide +kernel) dL_law_1380 (fun rv3 w3 hw3 => ?_)
  obtain ⟨rfl, rfl⟩ := hw3
  refine jr_perm (ws' := (wQ G h FC' VC' h2 FM' VM' fd' o fo' od fdd)) (st := [.int (iI (VM' 0))]) [0, 1, 2, 3, 4, 5, 6, 7, 8, 9, 10, 11, 12, 13, 14, 15, 16, 17, 20, 21, 22, 23, 24, 25, 26, 27, 28, 29, 30, 31, 32, 33, 34, 35, 36, 18, 19] rfl rfl ?_
  refine jr_topi (b := kC) h0 ?_
  refine jr_iload (pc := 1383) hh 1 dL_law_1383 rfl ?_
  refine jr_icmp_eq (tgt := 1390) (pc := 1385) hh dL_law_1385 (by decide) ⟨by omega, by omega⟩ ⟨by omega, by omega⟩ (fun _ => ?_) (fun c9 => absurd rfl c9)
  refine jr_iload (pc := 1390) hh 1 dL_law_1390 rfl ?_
  refine jr_if_ne (tgt := 1407) (pc := 1392) hh dL_law_1392 (by decide) ⟨by omega, by omega⟩ (fun _ => ?_) (fun c9 => ?_)
  · skip
    refine jr_goto (tgt := 1554) (pc := 1407) hh dL_law_1407 (by decide) ?_
    refine jr_loc (lv' := [(0, .ref b), (1, .ref (h 0)), (2, .ref (h2 0)), (3, .ref o), (4, .ref od), (5, .int (iI ((5 * n : Nat) : Int)))]) [2, 3, 4, 5, 6, 7] rfl ?_
    exact jr_room (by show 37 + n + 1 + 0 + 0 ≤ 37 + (n + 1); omega) (by show 1592 + 6 * n + 6 + 0 + 0 ≤ 1592 + 6 * (n + 1); omega) (next FC' VC' FM' VM' fd' fo' fdd hI2)
  · skip
    obtain ⟨hv1, hv2⟩ := hval c9
    have hv3 := hv2.1
    have hv4 := hv2.2
    refine jr_aload_n (pc := 1395) hh 5 dL_law_1395 rfl rfl ?_
    refine jr_iconst (pc := 1396) hh dL_law_1396 ?_
    refine jr_lald (F := fo') (pc := 1397) hh 35 rfl 0 rfl (by decide) (by decide) dL_law_1397 ?_
    refine jr_iload (pc := 1398) hh 0 dL_law_1398 rfl ?_
    refine jr_i2l (pc := 1400) hh dL_law_1400 ⟨hv3, hv4⟩ ?_
    refine jr_lcmp_eq (tgt := 1407) (pc := 1401) hh dL_law_1401 dL_law_1402 (by decide) ⟨by omega, by omega⟩ ⟨by omega, by omega⟩ (fun _ => ?_) (fun c8 => absurd hv1 c8)
    refine jr_goto (tgt := 1554) (pc := 1407) hh dL_law_1407 (by decide) ?_
    refine jr_loc (lv' := [(0, .ref b), (1, .ref (h 0)), (2, .ref (h2 0)), (3, .ref o), (4, .ref od), (5, .int (iI ((5 * n : Nat) : Int)))]) [2, 3, 4, 5, 6, 7] rfl ?_
    exact jr_room (by show 37 + n + 1 + 0 + 0 ≤ 37 + (n + 1); omega) (by show 1592 + 6 * n + 6 + 0 + 0 ≤ 1592 + 6 * (n + 1); omega) (next FC' VC' FM' VM' fd' fo' fdd hI2)
set_option maxHeartbeats 4000000 in
set_option maxRecDepth 100000 in
theorem k_open {p : Program} {l : Launch} {e : Env} {s : State} {m : MethodId} {args : Array Value} {below : List Frame} {meth : Method} {c : Code} {A : Nat → Prop} {G : jG} {Q : State → Prop} {b L n : Nat} {xs : Nat → Int32} {h h2 : Nat → Nat} {o od : Nat} {FC : Nat → Nat → Int} {VC : Nat → Int} {FM : Nat → Nat → Int} {VM fd fo : Nat → Int} {fdd : Nat → UInt64}
    (hh : jOK p s m args meth c A G cL_law wsL_law RL 9) (hnc : ∀ E ∈ jEX, ∀ nm ∈ jEX, E ≠ nm → va_Nc E nm s) (hlt : l.stackTraces = false) (hX : va_X b L xs s s.heap) (hbl : b < s.heap.size) (hbA : ¬ A b) (hn : 5 * n + 5 ≤ L) (hL : L ≤ 2560) (hI : Inv FC VC FM VM)
    (next : ∀ (FC : Nat → Nat → Int) (VC : Nat → Int) (FM : Nat → Nat → Int) (VM fd fo : Nat → Int) (fdd : Nat → UInt64), Inv FC VC FM VM → J p l e room_1 s m args below meth c A G 9 (37 + (n + 1)) (1592 + 6 * (n + 1)) Q (wQ G h FC VC h2 FM VM fd o fo od fdd) 1554 [(0, .ref b), (1, .ref (h 0)), (2, .ref (h2 0)), (3, .ref o), (4, .ref od), (5, .int (iI ((5 * n : Nat) : Int)))] []) : J p l e room_1 s m args below meth c A G 9 (37 + n) (1592 + 6 * n) Q (wQ G h FC VC h2 FM VM fd o fo od fdd) 1410 [(0, .ref b), (1, .ref (h 0)), (2, .ref (h2 0)), (3, .ref o), (4, .ref od), (5, .int (iI ((5 * n : Nat) : Int)))] [] := by
  have hok := okC_of hI
  obtain ⟨v0, v1, v2, v3, v4⟩ := id hI.2.1.1
  obtain ⟨m1, m2, m3, m4, m5, -⟩ := id hI.1
  have hcb := cntTo_bound (FM 14) 111 120
  have heq : (cntTo (FC 11) 111 120) = (cntTo (FM 14) 111 120) := (by rw [hI.2.1.2.2.2.2.2.2.2.1])
  refine jr_aload_n (pc := 1410) hh 1 dL_law_1410 rfl rfl ?_
  refine jr_callV (pc := 1411) hh [] [] (c_X3_open l G h FC VC hok) gL_law_X3_open rfl (by decide) ⟨by show 37 + n + 0 ≤ 3130; omega, by show 1592 + 6 * n + 0 ≤ 120502; omega⟩ [0, 1, 2, 3, 4, 5, 6, 7, 8, 9, 10, 11, 12, 13, 14, 15, 16, 17] [18, 19, 20, 21, 22, 23, 24, 25, 26, 27, 28, 29, 30, 31, 32, 33, 34, 35, 36] rfl rfl rfl rfl (by decide) 0 rfl rfl 0 rfl rfl (Nat.le_of_ble_eq_true rfl) (by decide +kernel) dL_law_1411 (fun rv1 w1 hw1 => ?_)
  obtain ⟨rfl, rfl⟩ := hw1
  refine jr_perm (ws' := (wQ G h FC VC h2 FM VM fd o fo od fdd)) (st := [.int (iI (cntTo (FC 11) 111 120))]) [19, 20, 21, 22, 23, 24, 25, 26, 27, 28, 29, 30, 31, 32, 33, 34, 35, 36, 0, 1, 2, 3, 4, 5, 6, 7, 8, 9, 10, 11, 12, 13, 14, 15, 16, 17, 18] rfl rfl ?_
  refine jr_aload_n (pc := 1414) hh 2 dL_law_1414 rfl rfl ?_
  refine jr_callV (pc := 1415) hh [] [.int (iI (cntTo (FC 11) 111 120))] (c_X4_open l G h2 FM VM fd hI.1) gL_law_X4_open rfl (by decide) ⟨by show 37 + n + 0 + 0 ≤ 3130; omega, by show 1592 + 6 * n + 0 + 0 ≤ 120502; omega⟩ [18, 19, 20, 21, 22, 23, 24, 25, 26, 27, 28, 29, 30, 31, 32, 33, 34] [0, 1, 2, 3, 4, 5, 6, 7, 8, 9, 10, 11, 12, 13, 14, 15, 16, 17, 35, 36] rfl rfl rfl rfl (by decide) 0 rfl rfl 0 rfl rfl (Nat.le_of_ble_eq_true rfl) (by decide +kernel) dL_law_1415 (fun rv2 w2 hw2 => ?_)
  obtain ⟨rfl, rfl⟩ := hw2
  refine jr_perm (ws' := (wQ G h FC VC h2 FM (jU VM 0 0) fd o fo od fdd)) (st := [.int (iI (cntTo (FM 14) 111 120)), .int (iI (cntTo (FC 11) 111 120))]) [0, 1, 2, 3, 4, 5, 6, 7, 8, 9, 10, 11, 12, 13, 14, 15, 16, 17, 20, 21, 22, 23, 24, 25, 26, 27, 28, 29, 30, 31, 32, 33, 34, 35, 36, 18, 19] rfl rfl ?_
  refine jr_icmp_eq (tgt := 1554) (pc := 1418) hh dL_law_1418 (by decide) ⟨by omega, by omega⟩ ⟨by omega, by omega⟩ (fun _ => ?_) (fun c9 => absurd heq c9)
  exact jr_room (by show 37 + n + 0 + 0 ≤ 37 + (n + 1); omega) (by show 1592 + 6 * n + 0 + 0 ≤ 1592 + 6 * (n + 1); omega) (next FC VC FM (jU VM 0 0) fd fo fdd (Inv_cong hI (scr_i hI) (mSc_rf FM) (fun k hk => jU_n hk)))
set_option maxHeartbeats 4000000 in
set_option maxRecDepth 100000 in
theorem k_approvedShare {p : Program} {l : Launch} {e : Env} {s : State} {m : MethodId} {args : Array Value} {below : List Frame} {meth : Method} {c : Code} {A : Nat → Prop} {G : jG} {Q : State → Prop} {b L n : Nat} {xs : Nat → Int32} {h h2 : Nat → Nat} {o od : Nat} {FC : Nat → Nat → Int} {VC : Nat → Int} {FM : Nat → Nat → Int} {VM fd fo : Nat → Int} {fdd : Nat → UInt64}
    (hh : jOK p s m args meth c A G cL_law wsL_law RL 9) (hnc : ∀ E ∈ jEX, ∀ nm ∈ jEX, E ≠ nm → va_Nc E nm s) (hlt : l.stackTraces = false) (hX : va_X b L xs s s.heap) (hbl : b < s.heap.size) (hbA : ¬ A b) (hn : 5 * n + 5 ≤ L) (hL : L ≤ 2560) (hI : Inv FC VC FM VM)
    (next : ∀ (FC : Nat → Nat → Int) (VC : Nat → Int) (FM : Nat → Nat → Int) (VM fd fo : Nat → Int) (fdd : Nat → UInt64), Inv FC VC FM VM → J p l e room_1 s m args below meth c A G 9 (37 + (n + 1)) (1592 + 6 * (n + 1)) Q (wQ G h FC VC h2 FM VM fd o fo od fdd) 1554 [(0, .ref b), (1, .ref (h 0)), (2, .ref (h2 0)), (3, .ref o), (4, .ref od), (5, .int (iI ((5 * n : Nat) : Int)))] []) : J p l e room_1 s m args below meth c A G 9 (37 + n) (1592 + 6 * n) Q (wQ G h FC VC h2 FM VM fd o fo od fdd) 1423 [(0, .ref b), (1, .ref (h 0)), (2, .ref (h2 0)), (3, .ref o), (4, .ref od), (5, .int (iI ((5 * n : Nat) : Int)))] [] := by
  have hok := okC_of hI
  have hown := inv_own hI
  refine jr_aload_n (pc := 1423) hh 1 dL_law_1423 rfl rfl ?_
  refine jr_aload (pc := 1424) hh 4 dL_law_1424 rfl ?_
  refine jr_callSL (pc := 1426) hh hnc [.ref (h 0), .ref od] [] (w_approvedShare l hlt G h FC VC od fdd   hok) gL_law_L_approvedShare rfl (by decide) ⟨by show 37 + n + 1 ≤ 3130; omega, by show 1592 + 6 * n + 6 ≤ 120502; omega⟩ [0, 1, 2, 3, 4, 5, 6, 7, 8, 9, 10, 11, 12, 13, 14, 15, 16, 17, 36] [18, 19, 20, 21, 22, 23, 24, 25, 26, 27, 28, 29, 30, 31, 32, 33, 34, 35] rfl rfl rfl rfl (by decide) 2 rfl rfl (Nat.le_of_ble_eq_true rfl) (by decide +kernel) dL_law_1426 (fun rv1 w1 hw1 => ?_)
  obtain ⟨rfl, FC', VC', fo', rfl, hc1, hc2⟩ := hw1
  generalize hcdC : cdShare (cntTo (FC 11) 97 120 + cntTo (FC 11) 111 120) = kC at hc1 hc2
  refine jr_perm (ws' := (wQ G h FC' VC' h2 FM VM fd o fo od fo')) (st := [.int (iI kC)]) [18, 19, 20, 21, 22, 23, 24, 25, 26, 27, 28, 29, 30, 31, 32, 33, 34, 35, 0, 1, 2, 3, 4, 5, 6, 7, 8, 9, 10, 11, 12, 13, 14, 15, 16, 17, 36] rfl rfl ?_
  refine jr_istore (lv' := [(6, .int (iI kC)), (0, .ref b), (1, .ref (h 0)), (2, .ref (h2 0)), (3, .ref o), (4, .ref od), (5, .int (iI ((5 * n : Nat) : Int)))]) (pc := 1429) hh dL_law_1429 (by decide) rfl ?_
  refine jr_aload_n (pc := 1431) hh 3 dL_law_1431 rfl rfl ?_
  refine jr_callV (pc := 1432) hh [] [] (c_X4_approvedShare l G h2 FM VM fd   hI.1) gL_law_X4_approvedShare rfl (by decide) ⟨by show 37 + n + 1 + 0 ≤ 3130; omega, by show 1592 + 6 * n + 6 + 0 ≤ 120502; omega⟩ [18, 19, 20, 21, 22, 23, 24, 25, 26, 27, 28, 29, 30, 31, 32, 33, 34] [0, 1, 2, 3, 4, 5, 6, 7, 8, 9, 10, 11, 12, 13, 14, 15, 16, 17, 35, 36] rfl rfl rfl rfl (by decide) 0 rfl rfl 0 rfl rfl (Nat.le_of_ble_eq_true rfl) (by decide +kernel) dL_law_1432 (fun rv2 w2 hw2 => ?_)
  obtain ⟨v, rfl, rfl, hm⟩ := hw2
  rw [← hcdC] at hc1 hc2
  have hop := op_approvedShare (FM' := FM) (VM' := VM) hI hc1 hc2 hm
  rw [hcdC] at hop
  obtain ⟨h0, hkr, hval, hI2⟩ := hop
  refine jr_perm (ws' := (wQ G h FC' VC' h2 FM (jU VM 0 (cdShare (cntTo (FM 14) 97 120 + cntTo (FM 14) 111 120))) fd o fo od fo')) (st := [.float v]) [0, 1, 2, 3, 4, 5, 6, 7, 8, 9, 10, 11, 12, 13, 14, 15, 16, 17, 20, 21, 22, 23, 24, 25, 26, 27, 28, 29, 30, 31, 32, 33, 34, 35, 36, 18, 19] rfl rfl ?_
  refine jr_fstore (lv' := [(7, .float v), (6, .int (iI kC)), (0, .ref b), (1, .ref (h 0)), (2, .ref (h2 0)), (3, .ref o), (4, .ref od), (5, .int (iI ((5 * n : Nat) : Int)))]) (pc := 1435) hh dL_law_1435 (by decide) rfl ?_
  refine jr_aload_n (pc := 1437) hh 4 dL_law_1437 rfl rfl ?_
  refine jr_callV (pc := 1438) hh [] [] (c_X4_thrown l G h2 FM (jU VM 0 (cdShare (cntTo (FM 14) 97 120 + cntTo (FM 14) 111 120))) fd) gL_law_X4_thrown rfl (by decide) ⟨by show 37 + n + 1 + 0 + 0 ≤ 3130; omega, by show 1592 + 6 * n + 6 + 0 + 0 ≤ 120502; omega⟩ [18, 19, 20, 21, 22, 23, 24, 25, 26, 27, 28, 29, 30, 31, 32, 33, 34] [0, 1, 2, 3, 4, 5, 6, 7, 8, 9, 10, 11, 12, 13, 14, 15, 16, 17, 35, 36] rfl rfl rfl rfl (by decide) 0 rfl rfl 0 rfl rfl (Nat.le_of_ble_eq_true rfl) (by decide +kernel) dL_law_1438 (fun rv3 w3 hw3 => ?_)
  obtain ⟨rfl, rfl⟩ := hw3
  refine jr_perm (ws' := (wQ G h FC' VC' h2 FM (jU VM 0 (cdShare (cntTo (FM 14) 97 120 + cntTo (FM 14) 111 120))) fd o fo od fo')) (st := [.int (iI ((jU VM 0 (cdShare (cntTo (FM 14) 97 120 + cntTo (FM 14) 111 120))) 0))]) [0, 1, 2, 3, 4, 5, 6, 7, 8, 9, 10, 11, 12, 13, 14, 15, 16, 17, 20, 21, 22, 23, 24, 25, 26, 27, 28, 29, 30, 31, 32, 33, 34, 35, 36, 18, 19] rfl rfl ?_
  refine jr_topi (b := kC) h0 ?_
  refine jr_iload (pc := 1441) hh 1 dL_law_1441 rfl ?_
  refine jr_icmp_eq (tgt := 1448) (pc := 1443) hh dL_law_1443 (by decide) ⟨by omega, by omega⟩ ⟨by omega, by omega⟩ (fun _ => ?_) (fun c9 => absurd rfl c9)
  refine jr_iload (pc := 1448) hh 1 dL_law_1448 rfl ?_
  refine jr_if_ne (tgt := 1486) (pc := 1450) hh dL_law_1450 (by decide) ⟨by omega, by omega⟩ (fun _ => ?_) (fun c9 => ?_)
  · skip
    refine jr_goto (tgt := 1554) (pc := 1486) hh dL_law_1486 (by decide) ?_
    refine jr_loc (lv' := [(0, .ref b), (1, .ref (h 0)), (2, .ref (h2 0)), (3, .ref o), (4, .ref od), (5, .int (iI ((5 * n : Nat) : Int)))]) [2, 3, 4, 5, 6, 7] rfl ?_
    exact jr_room (by show 37 + n + 1 + 0 + 0 ≤ 37 + (n + 1); omega) (by show 1592 + 6 * n + 6 + 0 + 0 ≤ 1592 + 6 * (n + 1); omega) (next FC' VC' FM (jU VM 0 (cdShare (cntTo (FM 14) 97 120 + cntTo (FM 14) 111 120))) fd fo fo' hI2)
  · skip
    obtain ⟨hv1, hv2⟩ := hval c9
    refine jr_aload (pc := 1453) hh 6 dL_law_1453 rfl ?_
    refine jr_iconst (pc := 1455) hh dL_law_1455 ?_
    refine jr_dald (F := fo') (pc := 1456) hh 36 rfl 0 rfl (by decide) (by decide) dL_law_1456 ?_
    refine jr_fload (pc := 1457) hh 0 dL_law_1457 rfl ?_
    refine jr_f2d (pc := 1459) hh dL_law_1459 (jn64 (hv1 ▸ hv2)) ?_
    refine jr_dcmp_same (pc := 1460) hh hv1 hv2 dL_law_1460 ?_
    refine jr_if_eq (tgt := 1486) (pc := 1461) hh dL_law_1461 (by decide) ⟨by decide, by decide⟩ (fun _ => ?_) (fun c8 => absurd rfl c8)
    refine jr_goto (tgt := 1554) (pc := 1486) hh dL_law_1486 (by decide) ?_
    refine jr_loc (lv' := [(0, .ref b), (1, .ref (h 0)), (2, .ref (h2 0)), (3, .ref o), (4, .ref od), (5, .int (iI ((5 * n : Nat) : Int)))]) [2, 3, 4, 5, 6, 7] rfl ?_
    exact jr_room (by show 37 + n + 1 + 0 + 0 ≤ 37 + (n + 1); omega) (by show 1592 + 6 * n + 6 + 0 + 0 ≤ 1592 + 6 * (n + 1); omega) (next FC' VC' FM (jU VM 0 (cdShare (cntTo (FM 14) 97 120 + cntTo (FM 14) 111 120))) fd fo fo' hI2)
set_option maxHeartbeats 4000000 in
set_option maxRecDepth 100000 in
theorem k_meanTolerance {p : Program} {l : Launch} {e : Env} {s : State} {m : MethodId} {args : Array Value} {below : List Frame} {meth : Method} {c : Code} {A : Nat → Prop} {G : jG} {Q : State → Prop} {b L n : Nat} {xs : Nat → Int32} {h h2 : Nat → Nat} {o od : Nat} {FC : Nat → Nat → Int} {VC : Nat → Int} {FM : Nat → Nat → Int} {VM fd fo : Nat → Int} {fdd : Nat → UInt64}
    (hh : jOK p s m args meth c A G cL_law wsL_law RL 9) (hnc : ∀ E ∈ jEX, ∀ nm ∈ jEX, E ≠ nm → va_Nc E nm s) (hlt : l.stackTraces = false) (hX : va_X b L xs s s.heap) (hbl : b < s.heap.size) (hbA : ¬ A b) (hn : 5 * n + 5 ≤ L) (hL : L ≤ 2560) (hI : Inv FC VC FM VM)
    (next : ∀ (FC : Nat → Nat → Int) (VC : Nat → Int) (FM : Nat → Nat → Int) (VM fd fo : Nat → Int) (fdd : Nat → UInt64), Inv FC VC FM VM → J p l e room_1 s m args below meth c A G 9 (37 + (n + 1)) (1592 + 6 * (n + 1)) Q (wQ G h FC VC h2 FM VM fd o fo od fdd) 1554 [(0, .ref b), (1, .ref (h 0)), (2, .ref (h2 0)), (3, .ref o), (4, .ref od), (5, .int (iI ((5 * n : Nat) : Int)))] []) : J p l e room_1 s m args below meth c A G 9 (37 + n) (1592 + 6 * n) Q (wQ G h FC VC h2 FM VM fd o fo od fdd) 1489 [(0, .ref b), (1, .ref (h 0)), (2, .ref (h2 0)), (3, .ref o), (4, .ref od), (5, .int (iI ((5 * n : Nat) : Int)))] [] := by
  have hok := okC_of hI
  have hown := inv_own hI
  refine jr_aload_n (pc := 1489) hh 1 dL_law_1489 rfl rfl ?_
  refine jr_aload (pc := 1490) hh 4 dL_law_1490 rfl ?_
  refine jr_callSL (pc := 1492) hh hnc [.ref (h 0), .ref od] [] (w_meanTolerance l hlt G h FC VC od fdd   hok) gL_law_L_meanTolerance rfl (by decide) ⟨by show 37 + n + 1 ≤ 3130; omega, by show 1592 + 6 * n + 6 ≤ 120502; omega⟩ [0, 1, 2, 3, 4, 5, 6, 7, 8, 9, 10, 11, 12, 13, 14, 15, 16, 17, 36] [18, 19, 20, 21, 22, 23, 24, 25, 26, 27, 28, 29, 30, 31, 32, 33, 34, 35] rfl rfl rfl rfl (by decide) 2 rfl rfl (Nat.le_of_ble_eq_true rfl) (by decide +kernel) dL_law_1492 (fun rv1 w1 hw1 => ?_)
  obtain ⟨rfl, FC', VC', fo', rfl, hc1, hc2⟩ := hw1
  generalize hcdC : cdShare (cntTo (FC 11) 97 120 + cntTo (FC 11) 111 120) = kC at hc1 hc2
  refine jr_perm (ws' := (wQ G h FC' VC' h2 FM VM fd o fo od fo')) (st := [.int (iI kC)]) [18, 19, 20, 21, 22, 23, 24, 25, 26, 27, 28, 29, 30, 31, 32, 33, 34, 35, 0, 1, 2, 3, 4, 5, 6, 7, 8, 9, 10, 11, 12, 13, 14, 15, 16, 17, 36] rfl rfl ?_
  refine jr_istore (lv' := [(6, .int (iI kC)), (0, .ref b), (1, .ref (h 0)), (2, .ref (h2 0)), (3, .ref o), (4, .ref od), (5, .int (iI ((5 * n : Nat) : Int)))]) (pc := 1495) hh dL_law_1495 (by decide) rfl ?_
  refine jr_aload_n (pc := 1497) hh 3 dL_law_1497 rfl rfl ?_
  refine jr_callV (pc := 1498) hh [] [] (c_X4_meanTolerance l G h2 FM VM fd   hI.1) gL_law_X4_meanTolerance rfl (by decide) ⟨by show 37 + n + 1 + 0 ≤ 3130; omega, by show 1592 + 6 * n + 6 + 0 ≤ 120502; omega⟩ [18, 19, 20, 21, 22, 23, 24, 25, 26, 27, 28, 29, 30, 31, 32, 33, 34] [0, 1, 2, 3, 4, 5, 6, 7, 8, 9, 10, 11, 12, 13, 14, 15, 16, 17, 35, 36] rfl rfl rfl rfl (by decide) 0 rfl rfl 0 rfl rfl (Nat.le_of_ble_eq_true rfl) (by decide +kernel) dL_law_1498 (fun rv2 w2 hw2 => ?_)
  obtain ⟨v, rfl, rfl, hm⟩ := hw2
  rw [← hcdC] at hc1 hc2
  have hop := op_meanTolerance (FM' := FM) (VM' := VM) hI hc1 hc2 hm
  rw [hcdC] at hop
  obtain ⟨h0, hkr, hval, hI2⟩ := hop
  refine jr_perm (ws' := (wQ G h FC' VC' h2 FM (jU VM 0 (cdShare (cntTo (FM 14) 97 120 + cntTo (FM 14) 111 120))) fd o fo od fo')) (st := [.double v]) [0, 1, 2, 3, 4, 5, 6, 7, 8, 9, 10, 11, 12, 13, 14, 15, 16, 17, 20, 21, 22, 23, 24, 25, 26, 27, 28, 29, 30, 31, 32, 33, 34, 35, 36, 18, 19] rfl rfl ?_
  refine jr_dstore (lv' := [(7, .double v), (6, .int (iI kC)), (0, .ref b), (1, .ref (h 0)), (2, .ref (h2 0)), (3, .ref o), (4, .ref od), (5, .int (iI ((5 * n : Nat) : Int)))]) (pc := 1501) hh dL_law_1501 (by decide) rfl ?_
  refine jr_aload_n (pc := 1503) hh 4 dL_law_1503 rfl rfl ?_
  refine jr_callV (pc := 1504) hh [] [] (c_X4_thrown l G h2 FM (jU VM 0 (cdShare (cntTo (FM 14) 97 120 + cntTo (FM 14) 111 120))) fd) gL_law_X4_thrown rfl (by decide) ⟨by show 37 + n + 1 + 0 + 0 ≤ 3130; omega, by show 1592 + 6 * n + 6 + 0 + 0 ≤ 120502; omega⟩ [18, 19, 20, 21, 22, 23, 24, 25, 26, 27, 28, 29, 30, 31, 32, 33, 34] [0, 1, 2, 3, 4, 5, 6, 7, 8, 9, 10, 11, 12, 13, 14, 15, 16, 17, 35, 36] rfl rfl rfl rfl (by decide) 0 rfl rfl 0 rfl rfl (Nat.le_of_ble_eq_true rfl) (by decide +kernel) dL_law_1504 (fun rv3 w3 hw3 => ?_)
  obtain ⟨rfl, rfl⟩ := hw3
  refine jr_perm (ws' := (wQ G h FC' VC' h2 FM (jU VM 0 (cdShare (cntTo (FM 14) 97 120 + cntTo (FM 14) 111 120))) fd o fo od fo')) (st := [.int (iI ((jU VM 0 (cdShare (cntTo (FM 14) 97 120 + cntTo (FM 14) 111 120))) 0))]) [0, 1, 2, 3, 4, 5, 6, 7, 8, 9, 10, 11, 12, 13, 14, 15, 16, 17, 20, 21, 22, 23, 24, 25, 26, 27, 28, 29, 30, 31, 32, 33, 34, 35, 36, 18, 19] rfl rfl ?_
  refine jr_topi (b := kC) h0 ?_
  refine jr_iload (pc := 1507) hh 1 dL_law_1507 rfl ?_
  refine jr_icmp_eq (tgt := 1514) (pc := 1509) hh dL_law_1509 (by decide) ⟨by omega, by omega⟩ ⟨by omega, by omega⟩ (fun _ => ?_) (fun c9 => absurd rfl c9)
  refine jr_iload (pc := 1514) hh 1 dL_law_1514 rfl ?_
  refine jr_if_ne (tgt := 1551) (pc := 1516) hh dL_law_1516 (by decide) ⟨by omega, by omega⟩ (fun _ => ?_) (fun c9 => ?_)
  · skip
    refine jr_goto (tgt := 1554) (pc := 1551) hh dL_law_1551 (by decide) ?_
    refine jr_loc (lv' := [(0, .ref b), (1, .ref (h 0)), (2, .ref (h2 0)), (3, .ref o), (4, .ref od), (5, .int (iI ((5 * n : Nat) : Int)))]) [2, 3, 4, 5, 6, 7] rfl ?_
    exact jr_room (by show 37 + n + 1 + 0 + 0 ≤ 37 + (n + 1); omega) (by show 1592 + 6 * n + 6 + 0 + 0 ≤ 1592 + 6 * (n + 1); omega) (next FC' VC' FM (jU VM 0 (cdShare (cntTo (FM 14) 97 120 + cntTo (FM 14) 111 120))) fd fo fo' hI2)
  · skip
    obtain ⟨hv1, hv2⟩ := hval c9
    refine jr_aload (pc := 1519) hh 6 dL_law_1519 rfl ?_
    refine jr_iconst (pc := 1521) hh dL_law_1521 ?_
    refine jr_dald (F := fo') (pc := 1522) hh 36 rfl 0 rfl (by decide) (by decide) dL_law_1522 ?_
    refine jr_dload (pc := 1523) hh 0 dL_law_1523 rfl ?_
    refine jr_dcmp_same (pc := 1525) hh hv1 hv2 dL_law_1525 ?_
    refine jr_if_eq (tgt := 1551) (pc := 1526) hh dL_law_1526 (by decide) ⟨by decide, by decide⟩ (fun _ => ?_) (fun c8 => absurd rfl c8)
    refine jr_goto (tgt := 1554) (pc := 1551) hh dL_law_1551 (by decide) ?_
    refine jr_loc (lv' := [(0, .ref b), (1, .ref (h 0)), (2, .ref (h2 0)), (3, .ref o), (4, .ref od), (5, .int (iI ((5 * n : Nat) : Int)))]) [2, 3, 4, 5, 6, 7] rfl ?_
    exact jr_room (by show 37 + n + 1 + 0 + 0 ≤ 37 + (n + 1); omega) (by show 1592 + 6 * n + 6 + 0 + 0 ≤ 1592 + 6 * (n + 1); omega) (next FC' VC' FM (jU VM 0 (cdShare (cntTo (FM 14) 97 120 + cntTo (FM 14) 111 120))) fd fo fo' hI2)
