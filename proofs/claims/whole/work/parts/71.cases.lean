/-! the law's cases -/
theorem c16_jR (a : Int) : jR (c16 a) := by
  have := c16_B a
  exact ⟨by omega, by omega⟩
set_option maxHeartbeats 4000000 in
set_option maxRecDepth 100000 in
theorem k_setDriver {p : Program} {l : Launch} {e : Env} {s : State} {m : MethodId} {args : Array Value} {below : List Frame} {meth : Method} {c : Code} {A : Nat → Prop} {G : jG} {Q : State → Prop} {b L n : Nat} {xs : Nat → Int32} {h h2 : Nat → Nat} {o od : Nat} {FC : Nat → Nat → Int} {VC : Nat → Int} {FM : Nat → Nat → Int} {VM fd fo : Nat → Int} {fdd : Nat → UInt64}
    (hh : jOK p s m args meth c A G cL_law wsL_law RL 9) (hnc : ∀ E ∈ jEX, ∀ nm ∈ jEX, E ≠ nm → va_Nc E nm s) (hlt : l.stackTraces = false) (hX : va_X b L xs s s.heap) (hbl : b < s.heap.size) (hbA : ¬ A b) (hn : 5 * n + 5 ≤ L) (hL : L ≤ 2560) (hI : Inv FC VC FM VM)
    (next : ∀ (FC : Nat → Nat → Int) (VC : Nat → Int) (FM : Nat → Nat → Int) (VM fd fo : Nat → Int) (fdd : Nat → UInt64), Inv FC VC FM VM → J p l e room_1 s m args below meth c A G 9 (37 + (n + 1)) (1592 + 6 * (n + 1)) Q (wQ G h FC VC h2 FM VM fd o fo od fdd) 1554 [(0, .ref b), (1, .ref (h 0)), (2, .ref (h2 0)), (3, .ref o), (4, .ref od), (5, .int (iI ((5 * n : Nat) : Int)))] []) : J p l e room_1 s m args below meth c A G 9 (37 + n) (1592 + 6 * n) Q (wQ G h FC VC h2 FM VM fd o fo od fdd) 200 [(0, .ref b), (1, .ref (h 0)), (2, .ref (h2 0)), (3, .ref o), (4, .ref od), (5, .int (iI ((5 * n : Nat) : Int)))] [] := by
  have hok := okC_of hI
  have hown := inv_own hI
  refine jr_aload_n (pc := 200) hh 1 dL_law_200 rfl rfl ?_
  refine jr_aload_n (pc := 201) hh 0 dL_law_201 rfl rfl ?_
  refine jr_iload (pc := 202) hh 5 dL_law_202 rfl ?_
  refine jr_iconst (pc := 204) hh dL_law_204 ?_
  refine jr_iadd (pc := 205) hh dL_law_205 ?_
  refine jr_sld (pc := 206) hh hX hbl hbA (5 * n + 1) (by omega) (by omega) (by omega) dL_law_206 ?_
  refine jr_aload_n (pc := 207) hh 0 dL_law_207 rfl rfl ?_
  refine jr_iload (pc := 208) hh 5 dL_law_208 rfl ?_
  refine jr_iconst (pc := 210) hh dL_law_210 ?_
  refine jr_iadd (pc := 211) hh dL_law_211 ?_
  refine jr_sld (pc := 212) hh hX hbl hbA (5 * n + 2) (by omega) (by omega) (by omega) dL_law_212 ?_
  refine jr_aload_n (pc := 213) hh 3 dL_law_213 rfl rfl ?_
  refine jr_callSL (pc := 214) hh hnc [.ref (h 0), .int (iI (xs (5 * n + 1)).toInt), .int (iI (xs (5 * n + 2)).toInt), .ref o] [] (w_setDriver l hlt G h FC VC o fo ((xs (5 * n + 1)).toInt) ((xs (5 * n + 2)).toInt) (iI_range _) (iI_range _) hok) gL_law_L_setDriver rfl (by decide) ⟨by show 37 + n + 1 ≤ 3130; omega, by show 1592 + 6 * n + 6 ≤ 120502; omega⟩ [0, 1, 2, 3, 4, 5, 6, 7, 8, 9, 10, 11, 12, 13, 14, 15, 16, 17, 35] [18, 19, 20, 21, 22, 23, 24, 25, 26, 27, 28, 29, 30, 31, 32, 33, 34, 36] rfl rfl rfl rfl (by decide) 4 rfl rfl (Nat.le_of_ble_eq_true rfl) (by decide +kernel) dL_law_214 (fun rv1 w1 hw1 => ?_)
  obtain ⟨rfl, FC', VC', fo', rfl, hc1, hc2⟩ := hw1
  generalize hcdC : cdSetDriver (VC 3) ((xs (5 * n + 1)).toInt) ((xs (5 * n + 2)).toInt) = kC at hc1 hc2
  refine jr_perm (ws' := (wQ G h FC' VC' h2 FM VM fd o fo' od fdd)) (st := [.int (iI kC)]) [18, 19, 20, 21, 22, 23, 24, 25, 26, 27, 28, 29, 30, 31, 32, 33, 34, 35, 0, 1, 2, 3, 4, 5, 6, 7, 8, 9, 10, 11, 12, 13, 14, 15, 16, 36, 17] rfl rfl ?_
  refine jr_istore (lv' := [(6, .int (iI kC)), (0, .ref b), (1, .ref (h 0)), (2, .ref (h2 0)), (3, .ref o), (4, .ref od), (5, .int (iI ((5 * n : Nat) : Int)))]) (pc := 217) hh dL_law_217 (by decide) rfl ?_
  refine jr_aload_n (pc := 219) hh 3 dL_law_219 rfl rfl ?_
  refine jr_aload_n (pc := 220) hh 1 dL_law_220 rfl rfl ?_
  refine jr_iload (pc := 221) hh 6 dL_law_221 rfl ?_
  refine jr_iconst (pc := 223) hh dL_law_223 ?_
  refine jr_iadd (pc := 224) hh dL_law_224 ?_
  refine jr_sld (pc := 225) hh hX hbl hbA (5 * n + 1) (by omega) (by omega) (by omega) dL_law_225 ?_
  refine jr_aload_n (pc := 226) hh 1 dL_law_226 rfl rfl ?_
  refine jr_iload (pc := 227) hh 6 dL_law_227 rfl ?_
  refine jr_iconst (pc := 229) hh dL_law_229 ?_
  refine jr_iadd (pc := 230) hh dL_law_230 ?_
  refine jr_sld (pc := 231) hh hX hbl hbA (5 * n + 2) (by omega) (by omega) (by omega) dL_law_231 ?_
  refine jr_callV (pc := 232) hh [.int (iI (xs (5 * n + 1)).toInt), .int (iI (xs (5 * n + 2)).toInt)] [] (c_X4_setDriver l G h2 FM VM fd ((xs (5 * n + 1)).toInt) ((xs (5 * n + 2)).toInt) (iI_range _) (iI_range _) hI.1) gL_law_X4_setDriver rfl (by decide) ⟨by show 37 + n + 1 + 0 ≤ 3130; omega, by show 1592 + 6 * n + 6 + 0 ≤ 120502; omega⟩ [18, 19, 20, 21, 22, 23, 24, 25, 26, 27, 28, 29, 30, 31, 32, 33, 34] [0, 1, 2, 3, 4, 5, 6, 7, 8, 9, 10, 11, 12, 13, 14, 15, 16, 17, 35, 36] rfl rfl rfl rfl (by decide) 0 rfl rfl 2 rfl rfl (Nat.le_of_ble_eq_true rfl) (by decide +kernel) dL_law_232 (fun rv2 w2 hw2 => ?_)
  obtain ⟨v, FM', VM', fd', rfl, rfl, hm1, hm2⟩ := hw2
  rw [← hcdC] at hc1 hc2
  have hop := op_setDriver hI hc1 hc2 hm1 hm2
  rw [hcdC] at hop
  obtain ⟨h0, hkr, hval, hI2⟩ := hop
  refine jr_perm (ws' := (wQ G h FC' VC' h2 FM' VM' fd' o fo' od fdd)) (st := [.int (iI v)]) [0, 1, 2, 3, 4, 5, 6, 7, 8, 9, 10, 11, 12, 13, 14, 15, 16, 17, 20, 21, 22, 23, 24, 25, 26, 27, 28, 29, 30, 31, 32, 33, 34, 35, 36, 18, 19] rfl rfl ?_
  refine jr_istore (lv' := [(7, .int (iI v)), (6, .int (iI kC)), (0, .ref b), (1, .ref (h 0)), (2, .ref (h2 0)), (3, .ref o), (4, .ref od), (5, .int (iI ((5 * n : Nat) : Int)))]) (pc := 235) hh dL_law_235 (by decide) rfl ?_
  refine jr_aload_n (pc := 237) hh 4 dL_law_237 rfl rfl ?_
  refine jr_callV (pc := 238) hh [] [] (c_X4_thrown l G h2 FM' VM' fd') gL_law_X4_thrown rfl (by decide) ⟨by show 37 + n + 1 + 0 + 0 ≤ 3130; omega, by show 1592 + 6 * n + 6 + 0 + 0 ≤ 120502; omega⟩ [18, 19, 20, 21, 22, 23, 24, 25, 26, 27, 28, 29, 30, 31, 32, 33, 34] [0, 1, 2, 3, 4, 5, 6, 7, 8, 9, 10, 11, 12, 13, 14, 15, 16, 17, 35, 36] rfl rfl rfl rfl (by decide) 0 rfl rfl 0 rfl rfl (Nat.le_of_ble_eq_true rfl) (by decide +kernel) dL_law_238 (fun rv3 w3 hw3 => ?_)
  obtain ⟨rfl, rfl⟩ := hw3
  refine jr_perm (ws' := (wQ G h FC' VC' h2 FM' VM' fd' o fo' od fdd)) (st := [.int (iI (VM' 0))]) [0, 1, 2, 3, 4, 5, 6, 7, 8, 9, 10, 11, 12, 13, 14, 15, 16, 17, 20, 21, 22, 23, 24, 25, 26, 27, 28, 29, 30, 31, 32, 33, 34, 35, 36, 18, 19] rfl rfl ?_
  refine jr_topi (b := kC) h0 ?_
  refine jr_iload (pc := 241) hh 1 dL_law_241 rfl ?_
  refine jr_icmp_eq (tgt := 248) (pc := 243) hh dL_law_243 (by decide) ⟨by omega, by omega⟩ ⟨by omega, by omega⟩ (fun _ => ?_) (fun c9 => absurd rfl c9)
  refine jr_iload (pc := 248) hh 1 dL_law_248 rfl ?_
  refine jr_if_ne (tgt := 265) (pc := 250) hh dL_law_250 (by decide) ⟨by omega, by omega⟩ (fun _ => ?_) (fun c9 => ?_)
  · skip
    refine jr_goto (tgt := 1554) (pc := 265) hh dL_law_265 (by decide) ?_
    refine jr_loc (lv' := [(0, .ref b), (1, .ref (h 0)), (2, .ref (h2 0)), (3, .ref o), (4, .ref od), (5, .int (iI ((5 * n : Nat) : Int)))]) [2, 3, 4, 5, 6, 7] rfl ?_
    exact jr_room (by show 37 + n + 1 + 0 + 0 ≤ 37 + (n + 1); omega) (by show 1592 + 6 * n + 6 + 0 + 0 ≤ 1592 + 6 * (n + 1); omega) (next FC' VC' FM' VM' fd' fo' fdd hI2)
  · skip
    obtain ⟨hv1, hv2⟩ := hval c9
    have hv3 := hv2.1
    have hv4 := hv2.2
    refine jr_aload_n (pc := 253) hh 5 dL_law_253 rfl rfl ?_
    refine jr_iconst (pc := 254) hh dL_law_254 ?_
    refine jr_lald (F := fo') (pc := 255) hh 35 rfl 0 rfl (by decide) (by decide) dL_law_255 ?_
    refine jr_iload (pc := 256) hh 0 dL_law_256 rfl ?_
    refine jr_i2l (pc := 258) hh dL_law_258 ⟨hv3, hv4⟩ ?_
    refine jr_lcmp_eq (tgt := 265) (pc := 259) hh dL_law_259 dL_law_260 (by decide) ⟨by omega, by omega⟩ ⟨by omega, by omega⟩ (fun _ => ?_) (fun c8 => absurd hv1 c8)
    refine jr_goto (tgt := 1554) (pc := 265) hh dL_law_265 (by decide) ?_
    refine jr_loc (lv' := [(0, .ref b), (1, .ref (h 0)), (2, .ref (h2 0)), (3, .ref o), (4, .ref od), (5, .int (iI ((5 * n : Nat) : Int)))]) [2, 3, 4, 5, 6, 7] rfl ?_
    exact jr_room (by show 37 + n + 1 + 0 + 0 ≤ 37 + (n + 1); omega) (by show 1592 + 6 * n + 6 + 0 + 0 ≤ 1592 + 6 * (n + 1); omega) (next FC' VC' FM' VM' fd' fo' fdd hI2)
set_option maxHeartbeats 4000000 in
set_option maxRecDepth 100000 in
theorem k_driver {p : Program} {l : Launch} {e : Env} {s : State} {m : MethodId} {args : Array Value} {below : List Frame} {meth : Method} {c : Code} {A : Nat → Prop} {G : jG} {Q : State → Prop} {b L n : Nat} {xs : Nat → Int32} {h h2 : Nat → Nat} {o od : Nat} {FC : Nat → Nat → Int} {VC : Nat → Int} {FM : Nat → Nat → Int} {VM fd fo : Nat → Int} {fdd : Nat → UInt64}
    (hh : jOK p s m args meth c A G cL_law wsL_law RL 9) (hnc : ∀ E ∈ jEX, ∀ nm ∈ jEX, E ≠ nm → va_Nc E nm s) (hlt : l.stackTraces = false) (hX : va_X b L xs s s.heap) (hbl : b < s.heap.size) (hbA : ¬ A b) (hn : 5 * n + 5 ≤ L) (hL : L ≤ 2560) (hI : Inv FC VC FM VM)
    (next : ∀ (FC : Nat → Nat → Int) (VC : Nat → Int) (FM : Nat → Nat → Int) (VM fd fo : Nat → Int) (fdd : Nat → UInt64), Inv FC VC FM VM → J p l e room_1 s m args below meth c A G 9 (37 + (n + 1)) (1592 + 6 * (n + 1)) Q (wQ G h FC VC h2 FM VM fd o fo od fdd) 1554 [(0, .ref b), (1, .ref (h 0)), (2, .ref (h2 0)), (3, .ref o), (4, .ref od), (5, .int (iI ((5 * n : Nat) : Int)))] []) : J p l e room_1 s m args below meth c A G 9 (37 + n) (1592 + 6 * n) Q (wQ G h FC VC h2 FM VM fd o fo od fdd) 268 [(0, .ref b), (1, .ref (h 0)), (2, .ref (h2 0)), (3, .ref o), (4, .ref od), (5, .int (iI ((5 * n : Nat) : Int)))] [] := by
  have hok := okC_of hI
  have hown := inv_own hI
  refine jr_aload_n (pc := 268) hh 1 dL_law_268 rfl rfl ?_
  refine jr_aload_n (pc := 269) hh 0 dL_law_269 rfl rfl ?_
  refine jr_iload (pc := 270) hh 5 dL_law_270 rfl ?_
  refine jr_iconst (pc := 272) hh dL_law_272 ?_
  refine jr_iadd (pc := 273) hh dL_law_273 ?_
  refine jr_sld (pc := 274) hh hX hbl hbA (5 * n + 1) (by omega) (by omega) (by omega) dL_law_274 ?_
  refine jr_aload_n (pc := 275) hh 0 dL_law_275 rfl rfl ?_
  refine jr_iload (pc := 276) hh 5 dL_law_276 rfl ?_
  refine jr_iconst (pc := 278) hh dL_law_278 ?_
  refine jr_iadd (pc := 279) hh dL_law_279 ?_
  refine jr_sld (pc := 280) hh hX hbl hbA (5 * n + 2) (by omega) (by omega) (by omega) dL_law_280 ?_
  refine jr_aload_n (pc := 281) hh 0 dL_law_281 rfl rfl ?_
  refine jr_iload (pc := 282) hh 5 dL_law_282 rfl ?_
  refine jr_iconst (pc := 284) hh dL_law_284 ?_
  refine jr_iadd (pc := 285) hh dL_law_285 ?_
  refine jr_sld (pc := 286) hh hX hbl hbA (5 * n + 3) (by omega) (by omega) (by omega) dL_law_286 ?_
  refine jr_aload_n (pc := 287) hh 3 dL_law_287 rfl rfl ?_
  refine jr_callSL (pc := 288) hh hnc [.ref (h 0), .int (iI (xs (5 * n + 1)).toInt), .int (iI (xs (5 * n + 2)).toInt), .int (iI (xs (5 * n + 3)).toInt), .ref o] [] (w_driver l hlt G h FC VC o fo ((xs (5 * n + 1)).toInt) ((xs (5 * n + 2)).toInt) ((xs (5 * n + 3)).toInt) (iI_range _) (iI_range _) (iI_range _) hok) gL_law_L_driver rfl (by decide) ⟨by show 37 + n + 1 ≤ 3130; omega, by show 1592 + 6 * n + 6 ≤ 120502; omega⟩ [0, 1, 2, 3, 4, 5, 6, 7, 8, 9, 10, 11, 12, 13, 14, 15, 16, 17, 35] [18, 19, 20, 21, 22, 23, 24, 25, 26, 27, 28, 29, 30, 31, 32, 33, 34, 36] rfl rfl rfl rfl (by decide) 5 rfl rfl (Nat.le_of_ble_eq_true rfl) (by decide +kernel) dL_law_288 (fun rv1 w1 hw1 => ?_)
  obtain ⟨rfl, FC', VC', fo', rfl, hc1, hc2⟩ := hw1
  generalize hcdC : cdDriver (VC 0) (VC 3) ((xs (5 * n + 1)).toInt) ((xs (5 * n + 2)).toInt) ((xs (5 * n + 3)).toInt) = kC at hc1 hc2
  refine jr_perm (ws' := (wQ G h FC' VC' h2 FM VM fd o fo' od fdd)) (st := [.int (iI kC)]) [18, 19, 20, 21, 22, 23, 24, 25, 26, 27, 28, 29, 30, 31, 32, 33, 34, 35, 0, 1, 2, 3, 4, 5, 6, 7, 8, 9, 10, 11, 12, 13, 14, 15, 16, 36, 17] rfl rfl ?_
  refine jr_istore (lv' := [(6, .int (iI kC)), (0, .ref b), (1, .ref (h 0)), (2, .ref (h2 0)), (3, .ref o), (4, .ref od), (5, .int (iI ((5 * n : Nat) : Int)))]) (pc := 291) hh dL_law_291 (by decide) rfl ?_
  refine jr_aload_n (pc := 293) hh 3 dL_law_293 rfl rfl ?_
  refine jr_aload_n (pc := 294) hh 1 dL_law_294 rfl rfl ?_
  refine jr_iload (pc := 295) hh 6 dL_law_295 rfl ?_
  refine jr_iconst (pc := 297) hh dL_law_297 ?_
  refine jr_iadd (pc := 298) hh dL_law_298 ?_
  refine jr_sld (pc := 299) hh hX hbl hbA (5 * n + 1) (by omega) (by omega) (by omega) dL_law_299 ?_
  refine jr_aload_n (pc := 300) hh 1 dL_law_300 rfl rfl ?_
  refine jr_iload (pc := 301) hh 6 dL_law_301 rfl ?_
  refine jr_iconst (pc := 303) hh dL_law_303 ?_
  refine jr_iadd (pc := 304) hh dL_law_304 ?_
  refine jr_sld (pc := 305) hh hX hbl hbA (5 * n + 2) (by omega) (by omega) (by omega) dL_law_305 ?_
  refine jr_aload_n (pc := 306) hh 1 dL_law_306 rfl rfl ?_
  refine jr_iload (pc := 307) hh 6 dL_law_307 rfl ?_
  refine jr_iconst (pc := 309) hh dL_law_309 ?_
  refine jr_iadd (pc := 310) hh dL_law_310 ?_
  refine jr_sld (pc := 311) hh hX hbl hbA (5 * n + 3) (by omega) (by omega) (by omega) dL_law_311 ?_
  refine jr_callV (pc := 312) hh [.int (iI (xs (5 * n + 1)).toInt), .int (iI (xs (5 * n + 2)).toInt), .int (iI (xs (5 * n + 3)).toInt)] [] (c_X4_driver l G h2 FM VM fd ((xs (5 * n + 1)).toInt) ((xs (5 * n + 2)).toInt) ((xs (5 * n + 3)).toInt) (iI_range _) (iI_range _) (iI_range _) hI.1) gL_law_X4_driver rfl (by decide) ⟨by show 37 + n + 1 + 0 ≤ 3130; omega, by show 1592 + 6 * n + 6 + 0 ≤ 120502; omega⟩ [18, 19, 20, 21, 22, 23, 24, 25, 26, 27, 28, 29, 30, 31, 32, 33, 34] [0, 1, 2, 3, 4, 5, 6, 7, 8, 9, 10, 11, 12, 13, 14, 15, 16, 17, 35, 36] rfl rfl rfl rfl (by decide) 0 rfl rfl 3 rfl rfl (Nat.le_of_ble_eq_true rfl) (by decide +kernel) dL_law_312 (fun rv2 w2 hw2 => ?_)
  obtain ⟨v, FM', VM', fd', rfl, rfl, hm1, hm2⟩ := hw2
  rw [← hcdC] at hc1 hc2
  have hop := op_driver hI hc1 hc2 hm1 hm2
  rw [hcdC] at hop
  obtain ⟨h0, hkr, hval, hI2⟩ := hop
  refine jr_perm (ws' := (wQ G h FC' VC' h2 FM' VM' fd' o fo' od fdd)) (st := [.int (iI v)]) [0, 1, 2, 3, 4, 5, 6, 7, 8, 9, 10, 11, 12, 13, 14, 15, 16, 17, 20, 21, 22, 23, 24, 25, 26, 27, 28, 29, 30, 31, 32, 33, 34, 35, 36, 18, 19] rfl rfl ?_
  refine jr_istore (lv' := [(7, .int (iI v)), (6, .int (iI kC)), (0, .ref b), (1, .ref (h 0)), (2, .ref (h2 0)), (3, .ref o), (4, .ref od), (5, .int (iI ((5 * n : Nat) : Int)))]) (pc := 315) hh dL_law_315 (by decide) rfl ?_
  refine jr_aload_n (pc := 317) hh 4 dL_law_317 rfl rfl ?_
  refine jr_callV (pc := 318) hh [] [] (c_X4_thrown l G h2 FM' VM' fd') gL_law_X4_thrown rfl (by decide) ⟨by show 37 + n + 1 + 0 + 0 ≤ 3130; omega, by show 1592 + 6 * n + 6 + 0 + 0 ≤ 120502; omega⟩ [18, 19, 20, 21, 22, 23, 24, 25, 26, 27, 28, 29, 30, 31, 32, 33, 34] [0, 1, 2, 3, 4, 5, 6, 7, 8, 9, 10, 11, 12, 13, 14, 15, 16, 17, 35, 36] rfl rfl rfl rfl (by decide) 0 rfl rfl 0 rfl rfl (Nat.le_of_ble_eq_true rfl) (by decide +kernel) dL_law_318 (fun rv3 w3 hw3 => ?_)
  obtain ⟨rfl, rfl⟩ := hw3
  refine jr_perm (ws' := (wQ G h FC' VC' h2 FM' VM' fd' o fo' od fdd)) (st := [.int (iI (VM' 0))]) [0, 1, 2, 3, 4, 5, 6, 7, 8, 9, 10, 11, 12, 13, 14, 15, 16, 17, 20, 21, 22, 23, 24, 25, 26, 27, 28, 29, 30, 31, 32, 33, 34, 35, 36, 18, 19] rfl rfl ?_
  refine jr_topi (b := kC) h0 ?_
  refine jr_iload (pc := 321) hh 1 dL_law_321 rfl ?_
  refine jr_icmp_eq (tgt := 328) (pc := 323) hh dL_law_323 (by decide) ⟨by omega, by omega⟩ ⟨by omega, by omega⟩ (fun _ => ?_) (fun c9 => absurd rfl c9)
  refine jr_iload (pc := 328) hh 1 dL_law_328 rfl ?_
  refine jr_if_ne (tgt := 345) (pc := 330) hh dL_law_330 (by decide) ⟨by omega, by omega⟩ (fun _ => ?_) (fun c9 => ?_)
  · skip
    refine jr_goto (tgt := 1554) (pc := 345) hh dL_law_345 (by decide) ?_
    refine jr_loc (lv' := [(0, .ref b), (1, .ref (h 0)), (2, .ref (h2 0)), (3, .ref o), (4, .ref od), (5, .int (iI ((5 * n : Nat) : Int)))]) [2, 3, 4, 5, 6, 7] rfl ?_
    exact jr_room (by show 37 + n + 1 + 0 + 0 ≤ 37 + (n + 1); omega) (by show 1592 + 6 * n + 6 + 0 + 0 ≤ 1592 + 6 * (n + 1); omega) (next FC' VC' FM' VM' fd' fo' fdd hI2)
  · skip
    obtain ⟨hv1, hv2⟩ := hval c9
    have hv3 := hv2.1
    have hv4 := hv2.2
    refine jr_aload_n (pc := 333) hh 5 dL_law_333 rfl rfl ?_
    refine jr_iconst (pc := 334) hh dL_law_334 ?_
    refine jr_lald (F := fo') (pc := 335) hh 35 rfl 0 rfl (by decide) (by decide) dL_law_335 ?_
    refine jr_iload (pc := 336) hh 0 dL_law_336 rfl ?_
    refine jr_i2l (pc := 338) hh dL_law_338 ⟨hv3, hv4⟩ ?_
    refine jr_lcmp_eq (tgt := 345) (pc := 339) hh dL_law_339 dL_law_340 (by decide) ⟨by omega, by omega⟩ ⟨by omega, by omega⟩ (fun _ => ?_) (fun c8 => absurd hv1 c8)
    refine jr_goto (tgt := 1554) (pc := 345) hh dL_law_345 (by decide) ?_
    refine jr_loc (lv' := [(0, .ref b), (1, .ref (h 0)), (2, .ref (h2 0)), (3, .ref o), (4, .ref od), (5, .int (iI ((5 * n : Nat) : Int)))]) [2, 3, 4, 5, 6, 7] rfl ?_
    exact jr_room (by show 37 + n + 1 + 0 + 0 ≤ 37 + (n + 1); omega) (by show 1592 + 6 * n + 6 + 0 + 0 ≤ 1592 + 6 * (n + 1); omega) (next FC' VC' FM' VM' fd' fo' fdd hI2)
set_option maxHeartbeats 4000000 in
set_option maxRecDepth 100000 in
theorem k_addLine {p : Program} {l : Launch} {e : Env} {s : State} {m : MethodId} {args : Array Value} {below : List Frame} {meth : Method} {c : Code} {A : Nat → Prop} {G : jG} {Q : State → Prop} {b L n : Nat} {xs : Nat → Int32} {h h2 : Nat → Nat} {o od : Nat} {FC : Nat → Nat → Int} {VC : Nat → Int} {FM : Nat → Nat → Int} {VM fd fo : Nat → Int} {fdd : Nat → UInt64}
    (hh : jOK p s m args meth c A G cL_law wsL_law RL 9) (hnc : ∀ E ∈ jEX, ∀ nm ∈ jEX, E ≠ nm → va_Nc E nm s) (hlt : l.stackTraces = false) (hX : va_X b L xs s s.heap) (hbl : b < s.heap.size) (hbA : ¬ A b) (hn : 5 * n + 5 ≤ L) (hL : L ≤ 2560) (hI : Inv FC VC FM VM)
    (next : ∀ (FC : Nat → Nat → Int) (VC : Nat → Int) (FM : Nat → Nat → Int) (VM fd fo : Nat → Int) (fdd : Nat → UInt64), Inv FC VC FM VM → J p l e room_1 s m args below meth c A G 9 (37 + (n + 1)) (1592 + 6 * (n + 1)) Q (wQ G h FC VC h2 FM VM fd o fo od fdd) 1554 [(0, .ref b), (1, .ref (h 0)), (2, .ref (h2 0)), (3, .ref o), (4, .ref od), (5, .int (iI ((5 * n : Nat) : Int)))] []) : J p l e room_1 s m args below meth c A G 9 (37 + n) (1592 + 6 * n) Q (wQ G h FC VC h2 FM VM fd o fo od fdd) 348 [(0, .ref b), (1, .ref (h 0)), (2, .ref (h2 0)), (3, .ref o), (4, .ref od), (5, .int (iI ((5 * n : Nat) : Int)))] [] := by
  have hok := okC_of hI
  have hown := inv_own hI
  refine jr_aload_n (pc := 348) hh 1 dL_law_348 rfl rfl ?_
  refine jr_aload_n (pc := 349) hh 0 dL_law_349 rfl rfl ?_
  refine jr_iload (pc := 350) hh 5 dL_law_350 rfl ?_
  refine jr_iconst (pc := 352) hh dL_law_352 ?_
  refine jr_iadd (pc := 353) hh dL_law_353 ?_
  refine jr_sld (pc := 354) hh hX hbl hbA (5 * n + 1) (by omega) (by omega) (by omega) dL_law_354 ?_
  refine jr_i2c (pc := 355) hh dL_law_355 ?_
  refine jr_aload_n (pc := 356) hh 0 dL_law_356 rfl rfl ?_
  refine jr_iload (pc := 357) hh 5 dL_law_357 rfl ?_
  refine jr_iconst (pc := 359) hh dL_law_359 ?_
  refine jr_iadd (pc := 360) hh dL_law_360 ?_
  refine jr_sld (pc := 361) hh hX hbl hbA (5 * n + 2) (by omega) (by omega) (by omega) dL_law_361 ?_
  refine jr_aload_n (pc := 362) hh 0 dL_law_362 rfl rfl ?_
  refine jr_iload (pc := 363) hh 5 dL_law_363 rfl ?_
  refine jr_iconst (pc := 365) hh dL_law_365 ?_
  refine jr_iadd (pc := 366) hh dL_law_366 ?_
  refine jr_sld (pc := 367) hh hX hbl hbA (5 * n + 3) (by omega) (by omega) (by omega) dL_law_367 ?_
  refine jr_aload_n (pc := 368) hh 3 dL_law_368 rfl rfl ?_
  refine jr_callSL (pc := 369) hh hnc [.ref (h 0), .int (iI (c16 ((xs (5 * n + 1)).toInt))), .int (iI (xs (5 * n + 2)).toInt), .int (iI (xs (5 * n + 3)).toInt), .ref o] [] (w_addLine l hlt G h FC VC o fo (c16 ((xs (5 * n + 1)).toInt)) ((xs (5 * n + 2)).toInt) ((xs (5 * n + 3)).toInt) (c16_jR _) (iI_range _) (iI_range _) hok (c16_B _)) gL_law_L_addLine rfl (by decide) ⟨by show 37 + n + 1 ≤ 3130; omega, by show 1592 + 6 * n + 6 ≤ 120502; omega⟩ [0, 1, 2, 3, 4, 5, 6, 7, 8, 9, 10, 11, 12, 13, 14, 15, 16, 17, 35] [18, 19, 20, 21, 22, 23, 24, 25, 26, 27, 28, 29, 30, 31, 32, 33, 34, 36] rfl rfl rfl rfl (by decide) 5 rfl rfl (Nat.le_of_ble_eq_true rfl) (by decide +kernel) dL_law_369 (fun rv1 w1 hw1 => ?_)
  obtain ⟨rfl, FC', VC', fo', rfl, hc1, hc2⟩ := hw1
  generalize hcdC : cdAddLine (VC 3) (VC 2) (c16 ((xs (5 * n + 1)).toInt)) ((xs (5 * n + 2)).toInt) ((xs (5 * n + 3)).toInt) = kC at hc1 hc2
  refine jr_perm (ws' := (wQ G h FC' VC' h2 FM VM fd o fo' od fdd)) (st := [.int (iI kC)]) [18, 19, 20, 21, 22, 23, 24, 25, 26, 27, 28, 29, 30, 31, 32, 33, 34, 35, 0, 1, 2, 3, 4, 5, 6, 7, 8, 9, 10, 11, 12, 13, 14, 15, 16, 36, 17] rfl rfl ?_
  refine jr_istore (lv' := [(6, .int (iI kC)), (0, .ref b), (1, .ref (h 0)), (2, .ref (h2 0)), (3, .ref o), (4, .ref od), (5, .int (iI ((5 * n : Nat) : Int)))]) (pc := 372) hh dL_law_372 (by decide) rfl ?_
  refine jr_aload_n (pc := 374) hh 3 dL_law_374 rfl rfl ?_
  refine jr_aload_n (pc := 375) hh 1 dL_law_375 rfl rfl ?_
  refine jr_iload (pc := 376) hh 6 dL_law_376 rfl ?_
  refine jr_iconst (pc := 378) hh dL_law_378 ?_
  refine jr_iadd (pc := 379) hh dL_law_379 ?_
  refine jr_sld (pc := 380) hh hX hbl hbA (5 * n + 1) (by omega) (by omega) (by omega) dL_law_380 ?_
  refine jr_i2c (pc := 381) hh dL_law_381 ?_
  refine jr_aload_n (pc := 382) hh 1 dL_law_382 rfl rfl ?_
  refine jr_iload (pc := 383) hh 6 dL_law_383 rfl ?_
  refine jr_iconst (pc := 385) hh dL_law_385 ?_
  refine jr_iadd (pc := 386) hh dL_law_386 ?_
  refine jr_sld (pc := 387) hh hX hbl hbA (5 * n + 2) (by omega) (by omega) (by omega) dL_law_387 ?_
  refine jr_aload_n (pc := 388) hh 1 dL_law_388 rfl rfl ?_
  refine jr_iload (pc := 389) hh 6 dL_law_389 rfl ?_
  refine jr_iconst (pc := 391) hh dL_law_391 ?_
  refine jr_iadd (pc := 392) hh dL_law_392 ?_
  refine jr_sld (pc := 393) hh hX hbl hbA (5 * n + 3) (by omega) (by omega) (by omega) dL_law_393 ?_
  refine jr_callV (pc := 394) hh [.int (iI (c16 ((xs (5 * n + 1)).toInt))), .int (iI (xs (5 * n + 2)).toInt), .int (iI (xs (5 * n + 3)).toInt)] [] (c_X4_addLine l G h2 FM VM fd (c16 ((xs (5 * n + 1)).toInt)) ((xs (5 * n + 2)).toInt) ((xs (5 * n + 3)).toInt) (c16_jR _) (iI_range _) (iI_range _) hI.1 (c16_B _)) gL_law_X4_addLine rfl (by decide) ⟨by show 37 + n + 1 + 0 ≤ 3130; omega, by show 1592 + 6 * n + 6 + 0 ≤ 120502; omega⟩ [18, 19, 20, 21, 22, 23, 24, 25, 26, 27, 28, 29, 30, 31, 32, 33, 34] [0, 1, 2, 3, 4, 5, 6, 7, 8, 9, 10, 11, 12, 13, 14, 15, 16, 17, 35, 36] rfl rfl rfl rfl (by decide) 0 rfl rfl 3 rfl rfl (Nat.le_of_ble_eq_true rfl) (by decide +kernel) dL_law_394 (fun rv2 w2 hw2 => ?_)
  obtain ⟨v, FM', VM', fd', rfl, rfl, hm1, hm2⟩ := hw2
  rw [← hcdC] at hc1 hc2
  have hop := op_addLine hI (c16_B _) hc1 hc2 hm1 hm2
  rw [hcdC] at hop
  obtain ⟨h0, hkr, hval, hI2⟩ := hop
  refine jr_perm (ws' := (wQ G h FC' VC' h2 FM' VM' fd' o fo' od fdd)) (st := [.int (iI v)]) [0, 1, 2, 3, 4, 5, 6, 7, 8, 9, 10, 11, 12, 13, 14, 15, 16, 17, 20, 21, 22, 23, 24, 25, 26, 27, 28, 29, 30, 31, 32, 33, 34, 35, 36, 18, 19] rfl rfl ?_
  refine jr_istore (lv' := [(7, .int (iI v)), (6, .int (iI kC)), (0, .ref b), (1, .ref (h 0)), (2, .ref (h2 0)), (3, .ref o), (4, .ref od), (5, .int (iI ((5 * n : Nat) : Int)))]) (pc := 397) hh dL_law_397 (by decide) rfl ?_
  refine jr_aload_n (pc := 399) hh 4 dL_law_399 rfl rfl ?_
  refine jr_callV (pc := 400) hh [] [] (c_X4_thrown l G h2 FM' VM' fd') gL_law_X4_thrown rfl (by decide) ⟨by show 37 + n + 1 + 0 + 0 ≤ 3130; omega, by show 1592 + 6 * n + 6 + 0 + 0 ≤ 120502; omega⟩ [18, 19, 20, 21, 22, 23, 24, 25, 26, 27, 28, 29, 30, 31, 32, 33, 34] [0, 1, 2, 3, 4, 5, 6, 7, 8, 9, 10, 11, 12, 13, 14, 15, 16, 17, 35, 36] rfl rfl rfl rfl (by decide) 0 rfl rfl 0 rfl rfl (Nat.le_of_ble_eq_true rfl) (by decide +kernel) dL_law_400 (fun rv3 w3 hw3 => ?_)
  obtain ⟨rfl, rfl⟩ := hw3
  refine jr_perm (ws' := (wQ G h FC' VC' h2 FM' VM' fd' o fo' od fdd)) (st := [.int (iI (VM' 0))]) [0, 1, 2, 3, 4, 5, 6, 7, 8, 9, 10, 11, 12, 13, 14, 15, 16, 17, 20, 21, 22, 23, 24, 25, 26, 27, 28, 29, 30, 31, 32, 33, 34, 35, 36, 18, 19] rfl rfl ?_
  refine jr_topi (b := kC) h0 ?_
  refine jr_iload (pc := 403) hh 1 dL_law_403 rfl ?_
  refine jr_icmp_eq (tgt := 410) (pc := 405) hh dL_law_405 (by decide) ⟨by omega, by omega⟩ ⟨by omega, by omega⟩ (fun _ => ?_) (fun c9 => absurd rfl c9)
  refine jr_iload (pc := 410) hh 1 dL_law_410 rfl ?_
  refine jr_if_ne (tgt := 427) (pc := 412) hh dL_law_412 (by decide) ⟨by omega, by omega⟩ (fun _ => ?_) (fun c9 => ?_)
  · skip
    refine jr_goto (tgt := 1554) (pc := 427) hh dL_law_427 (by decide) ?_
    refine jr_loc (lv' := [(0, .ref b), (1, .ref (h 0)), (2, .ref (h2 0)), (3, .ref o), (4, .ref od), (5, .int (iI ((5 * n : Nat) : Int)))]) [2, 3, 4, 5, 6, 7] rfl ?_
    exact jr_room (by show 37 + n + 1 + 0 + 0 ≤ 37 + (n + 1); omega) (by show 1592 + 6 * n + 6 + 0 + 0 ≤ 1592 + 6 * (n + 1); omega) (next FC' VC' FM' VM' fd' fo' fdd hI2)
  · skip
    obtain ⟨hv1, hv2⟩ := hval c9
    have hv3 := hv2.1
    have hv4 := hv2.2
    refine jr_aload_n (pc := 415) hh 5 dL_law_415 rfl rfl ?_
    refine jr_iconst (pc := 416) hh dL_law_416 ?_
    refine jr_lald (F := fo') (pc := 417) hh 35 rfl 0 rfl (by decide) (by decide) dL_law_417 ?_
    refine jr_iload (pc := 418) hh 0 dL_law_418 rfl ?_
    refine jr_i2l (pc := 420) hh dL_law_420 ⟨hv3, hv4⟩ ?_
    refine jr_lcmp_eq (tgt := 427) (pc := 421) hh dL_law_421 dL_law_422 (by decide) ⟨by omega, by omega⟩ ⟨by omega, by omega⟩ (fun _ => ?_) (fun c8 => absurd hv1 c8)
    refine jr_goto (tgt := 1554) (pc := 427) hh dL_law_427 (by decide) ?_
    refine jr_loc (lv' := [(0, .ref b), (1, .ref (h 0)), (2, .ref (h2 0)), (3, .ref o), (4, .ref od), (5, .int (iI ((5 * n : Nat) : Int)))]) [2, 3, 4, 5, 6, 7] rfl ?_
    exact jr_room (by show 37 + n + 1 + 0 + 0 ≤ 37 + (n + 1); omega) (by show 1592 + 6 * n + 6 + 0 + 0 ≤ 1592 + 6 * (n + 1); omega) (next FC' VC' FM' VM' fd' fo' fdd hI2)
set_option maxHeartbeats 4000000 in
set_option maxRecDepth 100000 in
theorem k_addScenario {p : Program} {l : Launch} {e : Env} {s : State} {m : MethodId} {args : Array Value} {below : List Frame} {meth : Method} {c : Code} {A : Nat → Prop} {G : jG} {Q : State → Prop} {b L n : Nat} {xs : Nat → Int32} {h h2 : Nat → Nat} {o od : Nat} {FC : Nat → Nat → Int} {VC : Nat → Int} {FM : Nat → Nat → Int} {VM fd fo : Nat → Int} {fdd : Nat → UInt64}
    (hh : jOK p s m args meth c A G cL_law wsL_law RL 9) (hnc : ∀ E ∈ jEX, ∀ nm ∈ jEX, E ≠ nm → va_Nc E nm s) (hlt : l.stackTraces = false) (hX : va_X b L xs s s.heap) (hbl : b < s.heap.size) (hbA : ¬ A b) (hn : 5 * n + 5 ≤ L) (hL : L ≤ 2560) (hI : Inv FC VC FM VM)
    (next : ∀ (FC : Nat → Nat → Int) (VC : Nat → Int) (FM : Nat → Nat → Int) (VM fd fo : Nat → Int) (fdd : Nat → UInt64), Inv FC VC FM VM → J p l e room_1 s m args below meth c A G 9 (37 + (n + 1)) (1592 + 6 * (n + 1)) Q (wQ G h FC VC h2 FM VM fd o fo od fdd) 1554 [(0, .ref b), (1, .ref (h 0)), (2, .ref (h2 0)), (3, .ref o), (4, .ref od), (5, .int (iI ((5 * n : Nat) : Int)))] []) : J p l e room_1 s m args below meth c A G 9 (37 + n) (1592 + 6 * n) Q (wQ G h FC VC h2 FM VM fd o fo od fdd) 430 [(0, .ref b), (1, .ref (h 0)), (2, .ref (h2 0)), (3, .ref o), (4, .ref od), (5, .int (iI ((5 * n : Nat) : Int)))] [] := by
  have hok := okC_of hI
  have hown := inv_own hI
  refine jr_aload_n (pc := 430) hh 1 dL_law_430 rfl rfl ?_
  refine jr_aload_n (pc := 431) hh 0 dL_law_431 rfl rfl ?_
  refine jr_iload (pc := 432) hh 5 dL_law_432 rfl ?_
  refine jr_iconst (pc := 434) hh dL_law_434 ?_
  refine jr_iadd (pc := 435) hh dL_law_435 ?_
  refine jr_sld (pc := 436) hh hX hbl hbA (5 * n + 1) (by omega) (by omega) (by omega) dL_law_436 ?_
  refine jr_aload_n (pc := 437) hh 3 dL_law_437 rfl rfl ?_
  refine jr_callSL (pc := 438) hh hnc [.ref (h 0), .int (iI (xs (5 * n + 1)).toInt), .ref o] [] (w_addScenario l hlt G h FC VC o fo ((xs (5 * n + 1)).toInt) (iI_range _) hok) gL_law_L_addScenario rfl (by decide) ⟨by show 37 + n + 1 ≤ 3130; omega, by show 1592 + 6 * n + 6 ≤ 120502; omega⟩ [0, 1, 2, 3, 4, 5, 6, 7, 8, 9, 10, 11, 12, 13, 14, 15, 16, 17, 35] [18, 19, 20, 21, 22, 23, 24, 25, 26, 27, 28, 29, 30, 31, 32, 33, 34, 36] rfl rfl rfl rfl (by decide) 3 rfl rfl (Nat.le_of_ble_eq_true rfl) (by decide +kernel) dL_law_438 (fun rv1 w1 hw1 => ?_)
  obtain ⟨rfl, FC', VC', fo', rfl, hc1, hc2⟩ := hw1
  generalize hcdC : cdAddScenario (VC 0) ((xs (5 * n + 1)).toInt) = kC at hc1 hc2
  refine jr_perm (ws' := (wQ G h FC' VC' h2 FM VM fd o fo' od fdd)) (st := [.int (iI kC)]) [18, 19, 20, 21, 22, 23, 24, 25, 26, 27, 28, 29, 30, 31, 32, 33, 34, 35, 0, 1, 2, 3, 4, 5, 6, 7, 8, 9, 10, 11, 12, 13, 14, 15, 16, 36, 17] rfl rfl ?_
  refine jr_istore (lv' := [(6, .int (iI kC)), (0, .ref b), (1, .ref (h 0)), (2, .ref (h2 0)), (3, .ref o), (4, .ref od), (5, .int (iI ((5 * n : Nat) : Int)))]) (pc := 441) hh dL_law_441 (by decide) rfl ?_
  refine jr_aload_n (pc := 443) hh 3 dL_law_443 rfl rfl ?_
  refine jr_aload_n (pc := 444) hh 1 dL_law_444 rfl rfl ?_
  refine jr_iload (pc := 445) hh 6 dL_law_445 rfl ?_
  refine jr_iconst (pc := 447) hh dL_law_447 ?_
  refine jr_iadd (pc := 448) hh dL_law_448 ?_
  refine jr_sld (pc := 449) hh hX hbl hbA (5 * n + 1) (by omega) (by omega) (by omega) dL_law_449 ?_
  refine jr_callV (pc := 450) hh [.int (iI (xs (5 * n + 1)).toInt)] [] (c_X4_addScenario l G h2 FM VM fd ((xs (5 * n + 1)).toInt) (iI_range _) hI.1) gL_law_X4_addScenario rfl (by decide) ⟨by show 37 + n + 1 + 0 ≤ 3130; omega, by show 1592 + 6 * n + 6 + 0 ≤ 120502; omega⟩ [18, 19, 20, 21, 22, 23, 24, 25, 26, 27, 28, 29, 30, 31, 32, 33, 34] [0, 1, 2, 3, 4, 5, 6, 7, 8, 9, 10, 11, 12, 13, 14, 15, 16, 17, 35, 36] rfl rfl rfl rfl (by decide) 0 rfl rfl 1 rfl rfl (Nat.le_of_ble_eq_true rfl) (by decide +kernel) dL_law_450 (fun rv2 w2 hw2 => ?_)
  obtain ⟨v, FM', VM', fd', rfl, rfl, hm1, hm2⟩ := hw2
  rw [← hcdC] at hc1 hc2
  have hop := op_addScenario hI hc1 hc2 hm1 hm2
  rw [hcdC] at hop
  obtain ⟨h0, hkr, hval, hI2⟩ := hop
  refine jr_perm (ws' := (wQ G h FC' VC' h2 FM' VM' fd' o fo' od fdd)) (st := [.int (iI v)]) [0, 1, 2, 3, 4, 5, 6, 7, 8, 9, 10, 11, 12, 13, 14, 15, 16, 17, 20, 21, 22, 23, 24, 25, 26, 27, 28, 29, 30, 31, 32, 33, 34, 35, 36, 18, 19] rfl rfl ?_
  refine jr_istore (lv' := [(7, .int (iI v)), (6, .int (iI kC)), (0, .ref b), (1, .ref (h 0)), (2, .ref (h2 0)), (3, .ref o), (4, .ref od), (5, .int (iI ((5 * n : Nat) : Int)))]) (pc := 453) hh dL_law_453 (by decide) rfl ?_
  refine jr_aload_n (pc := 455) hh 4 dL_law_455 rfl rfl ?_
  refine jr_callV (pc := 456) hh [] [] (c_X4_thrown l G h2 FM' VM' fd') gL_law_X4_thrown rfl (by decide) ⟨by show 37 + n + 1 + 0 + 0 ≤ 3130; omega, by show 1592 + 6 * n + 6 + 0 + 0 ≤ 120502; omega⟩ [18, 19, 20, 21, 22, 23, 24, 25, 26, 27, 28, 29, 30, 31, 32, 33, 34] [0, 1, 2, 3, 4, 5, 6, 7, 8, 9, 10, 11, 12, 13, 14, 15, 16, 17, 35, 36] rfl rfl rfl rfl (by decide) 0 rfl rfl 0 rfl rfl (Nat.le_of_ble_eq_true rfl) (by decide +kernel) dL_law_456 (fun rv3 w3 hw3 => ?_)
  obtain ⟨rfl, rfl⟩ := hw3
  refine jr_perm (ws' := (wQ G h FC' VC' h2 FM' VM' fd' o fo' od fdd)) (st := [.int (iI (VM' 0))]) [0, 1, 2, 3, 4, 5, 6, 7, 8, 9, 10, 11, 12, 13, 14, 15, 16, 17, 20, 21, 22, 23, 24, 25, 26, 27, 28, 29, 30, 31, 32, 33, 34, 35, 36, 18, 19] rfl rfl ?_
  refine jr_topi (b := kC) h0 ?_
  refine jr_iload (pc := 459) hh 1 dL_law_459 rfl ?_
  refine jr_icmp_eq (tgt := 466) (pc := 461) hh dL_law_461 (by decide) ⟨by omega, by omega⟩ ⟨by omega, by omega⟩ (fun _ => ?_) (fun c9 => absurd rfl c9)
  refine jr_iload (pc := 466) hh 1 dL_law_466 rfl ?_
  refine jr_if_ne (tgt := 483) (pc := 468) hh dL_law_468 (by decide) ⟨by omega, by omega⟩ (fun _ => ?_) (fun c9 => ?_)
  · skip
    refine jr_goto (tgt := 1554) (pc := 483) hh dL_law_483 (by decide) ?_
    refine jr_loc (lv' := [(0, .ref b), (1, .ref (h 0)), (2, .ref (h2 0)), (3, .ref o), (4, .ref od), (5, .int (iI ((5 * n : Nat) : Int)))]) [2, 3, 4, 5, 6, 7] rfl ?_
    exact jr_room (by show 37 + n + 1 + 0 + 0 ≤ 37 + (n + 1); omega) (by show 1592 + 6 * n + 6 + 0 + 0 ≤ 1592 + 6 * (n + 1); omega) (next FC' VC' FM' VM' fd' fo' fdd hI2)
  · skip
    obtain ⟨hv1, hv2⟩ := hval c9
    have hv3 := hv2.1
    have hv4 := hv2.2
    refine jr_aload_n (pc := 471) hh 5 dL_law_471 rfl rfl ?_
    refine jr_iconst (pc := 472) hh dL_law_472 ?_
    refine jr_lald (F := fo') (pc := 473) hh 35 rfl 0 rfl (by decide) (by decide) dL_law_473 ?_
    refine jr_iload (pc := 474) hh 0 dL_law_474 rfl ?_
    refine jr_i2l (pc := 476) hh dL_law_476 ⟨hv3, hv4⟩ ?_
    refine jr_lcmp_eq (tgt := 483) (pc := 477) hh dL_law_477 dL_law_478 (by decide) ⟨by omega, by omega⟩ ⟨by omega, by omega⟩ (fun _ => ?_) (fun c8 => absurd hv1 c8)
    refine jr_goto (tgt := 1554) (pc := 483) hh dL_law_483 (by decide) ?_
    refine jr_loc (lv' := [(0, .ref b), (1, .ref (h 0)), (2, .ref (h2 0)), (3, .ref o), (4, .ref od), (5, .int (iI ((5 * n : Nat) : Int)))]) [2, 3, 4, 5, 6, 7] rfl ?_
    exact jr_room (by show 37 + n + 1 + 0 + 0 ≤ 37 + (n + 1); omega) (by show 1592 + 6 * n + 6 + 0 + 0 ≤ 1592 + 6 * (n + 1); omega) (next FC' VC' FM' VM' fd' fo' fdd hI2)
set_option maxHeartbeats 4000000 in
set_option maxRecDepth 100000 in
theorem k_differ {p : Program} {l : Launch} {e : Env} {s : State} {m : MethodId} {args : Array Value} {below : List Frame} {meth : Method} {c : Code} {A : Nat → Prop} {G : jG} {Q : State → Prop} {b L n : Nat} {xs : Nat → Int32} {h h2 : Nat → Nat} {o od : Nat} {FC : Nat → Nat → Int} {VC : Nat → Int} {FM : Nat → Nat → Int} {VM fd fo : Nat → Int} {fdd : Nat → UInt64}
    (hh : jOK p s m args meth c A G cL_law wsL_law RL 9) (hnc : ∀ E ∈ jEX, ∀ nm ∈ jEX, E ≠ nm → va_Nc E nm s) (hlt : l.stackTraces = false) (hX : va_X b L xs s s.heap) (hbl : b < s.heap.size) (hbA : ¬ A b) (hn : 5 * n + 5 ≤ L) (hL : L ≤ 2560) (hI : Inv FC VC FM VM)
    (next : ∀ (FC : Nat → Nat → Int) (VC : Nat → Int) (FM : Nat → Nat → Int) (VM fd fo : Nat → Int) (fdd : Nat → UInt64), Inv FC VC FM VM → J p l e room_1 s m args below meth c A G 9 (37 + (n + 1)) (1592 + 6 * (n + 1)) Q (wQ G h FC VC h2 FM VM fd o fo od fdd) 1554 [(0, .ref b), (1, .ref (h 0)), (2, .ref (h2 0)), (3, .ref o), (4, .ref od), (5, .int (iI ((5 * n : Nat) : Int)))] []) : J p l e room_1 s m args below meth c A G 9 (37 + n) (1592 + 6 * n) Q (wQ G h FC VC h2 FM VM fd o fo od fdd) 486 [(0, .ref b), (1, .ref (h 0)), (2, .ref (h2 0)), (3, .ref o), (4, .ref od), (5, .int (iI ((5 * n : Nat) : Int)))] [] := by
  have hok := okC_of hI
  have hown := inv_own hI
  refine jr_aload_n (pc := 486) hh 1 dL_law_486 rfl rfl ?_
  refine jr_aload_n (pc := 487) hh 0 dL_law_487 rfl rfl ?_
  refine jr_iload (pc := 488) hh 5 dL_law_488 rfl ?_
  refine jr_iconst (pc := 490) hh dL_law_490 ?_
  refine jr_iadd (pc := 491) hh dL_law_491 ?_
  refine jr_sld (pc := 492) hh hX hbl hbA (5 * n + 1) (by omega) (by omega) (by omega) dL_law_492 ?_
  refine jr_aload_n (pc := 493) hh 0 dL_law_493 rfl rfl ?_
  refine jr_iload (pc := 494) hh 5 dL_law_494 rfl ?_
  refine jr_iconst (pc := 496) hh dL_law_496 ?_
  refine jr_iadd (pc := 497) hh dL_law_497 ?_
  refine jr_sld (pc := 498) hh hX hbl hbA (5 * n + 2) (by omega) (by omega) (by omega) dL_law_498 ?_
  refine jr_aload_n (pc := 499) hh 0 dL_law_499 rfl rfl ?_
  refine jr_iload (pc := 500) hh 5 dL_law_500 rfl ?_
  refine jr_iconst (pc := 502) hh dL_law_502 ?_
  refine jr_iadd (pc := 503) hh dL_law_503 ?_
  refine jr_sld (pc := 504) hh hX hbl hbA (5 * n + 3) (by omega) (by omega) (by omega) dL_law_504 ?_
  refine jr_aload_n (pc := 505) hh 0 dL_law_505 rfl rfl ?_
  refine jr_iload (pc := 506) hh 5 dL_law_506 rfl ?_
  refine jr_iconst (pc := 508) hh dL_law_508 ?_
  refine jr_iadd (pc := 509) hh dL_law_509 ?_
  refine jr_sld (pc := 510) hh hX hbl hbA (5 * n + 4) (by omega) (by omega) (by omega) dL_law_510 ?_
  refine jr_aload_n (pc := 511) hh 3 dL_law_511 rfl rfl ?_
  refine jr_callSL (pc := 512) hh hnc [.ref (h 0), .int (iI (xs (5 * n + 1)).toInt), .int (iI (xs (5 * n + 2)).toInt), .int (iI (xs (5 * n + 3)).toInt), .int (iI (xs (5 * n + 4)).toInt), .ref o] [] (w_differ l hlt G h FC VC o fo ((xs (5 * n + 1)).toInt) ((xs (5 * n + 2)).toInt) ((xs (5 * n + 3)).toInt) ((xs (5 * n + 4)).toInt) (iI_range _) (iI_range _) (iI_range _) (iI_range _) hok hown) gL_law_L_differ rfl (by decide) ⟨by show 37 + n + 1 ≤ 3130; omega, by show 1592 + 6 * n + 6 ≤ 120502; omega⟩ [0, 1, 2, 3, 4, 5, 6, 7, 8, 9, 10, 11, 12, 13, 14, 15, 16, 17, 35] [18, 19, 20, 21, 22, 23, 24, 25, 26, 27, 28, 29, 30, 31, 32, 33, 34, 36] rfl rfl rfl rfl (by decide) 6 rfl rfl (Nat.le_of_ble_eq_true rfl) (by decide +kernel) dL_law_512 (fun rv1 w1 hw1 => ?_)
  obtain ⟨rfl, FC', VC', fo', rfl, hc1, hc2⟩ := hw1
  generalize hcdC : cdDiffer (VC 0) (VC 3) (VC 1) ((xs (5 * n + 1)).toInt) ((xs (5 * n + 2)).toInt) ((xs (5 * n + 3)).toInt) ((xs (5 * n + 4)).toInt) = kC at hc1 hc2
  refine jr_perm (ws' := (wQ G h FC' VC' h2 FM VM fd o fo' od fdd)) (st := [.int (iI kC)]) [18, 19, 20, 21, 22, 23, 24, 25, 26, 27, 28, 29, 30, 31, 32, 33, 34, 35, 0, 1, 2, 3, 4, 5, 6, 7, 8, 9, 10, 11, 12, 13, 14, 15, 16, 36, 17] rfl rfl ?_
  refine jr_istore (lv' := [(6, .int (iI kC)), (0, .ref b), (1, .ref (h 0)), (2, .ref (h2 0)), (3, .ref o), (4, .ref od), (5, .int (iI ((5 * n : Nat) : Int)))]) (pc := 515) hh dL_law_515 (by decide) rfl ?_
  refine jr_aload_n (pc := 517) hh 3 dL_law_517 rfl rfl ?_
  refine jr_aload_n (pc := 518) hh 1 dL_law_518 rfl rfl ?_
  refine jr_iload (pc := 519) hh 6 dL_law_519 rfl ?_
  refine jr_iconst (pc := 521) hh dL_law_521 ?_
  refine jr_iadd (pc := 522) hh dL_law_522 ?_
  refine jr_sld (pc := 523) hh hX hbl hbA (5 * n + 1) (by omega) (by omega) (by omega) dL_law_523 ?_
  refine jr_aload_n (pc := 524) hh 1 dL_law_524 rfl rfl ?_
  refine jr_iload (pc := 525) hh 6 dL_law_525 rfl ?_
  refine jr_iconst (pc := 527) hh dL_law_527 ?_
  refine jr_iadd (pc := 528) hh dL_law_528 ?_
  refine jr_sld (pc := 529) hh hX hbl hbA (5 * n + 2) (by omega) (by omega) (by omega) dL_law_529 ?_
  refine jr_aload_n (pc := 530) hh 1 dL_law_530 rfl rfl ?_
  refine jr_iload (pc := 531) hh 6 dL_law_531 rfl ?_
  refine jr_iconst (pc := 533) hh dL_law_533 ?_
  refine jr_iadd (pc := 534) hh dL_law_534 ?_
  refine jr_sld (pc := 535) hh hX hbl hbA (5 * n + 3) (by omega) (by omega) (by omega) dL_law_535 ?_
  refine jr_aload_n (pc := 536) hh 1 dL_law_536 rfl rfl ?_
  refine jr_iload (pc := 537) hh 6 dL_law_537 rfl ?_
  refine jr_iconst (pc := 539) hh dL_law_539 ?_
  refine jr_iadd (pc := 540) hh dL_law_540 ?_
  refine jr_sld (pc := 541) hh hX hbl hbA (5 * n + 4) (by omega) (by omega) (by omega) dL_law_541 ?_
  refine jr_callV (pc := 542) hh [.int (iI (xs (5 * n + 1)).toInt), .int (iI (xs (5 * n + 2)).toInt), .int (iI (xs (5 * n + 3)).toInt), .int (iI (xs (5 * n + 4)).toInt)] [] (c_X4_differ l G h2 FM VM fd ((xs (5 * n + 1)).toInt) ((xs (5 * n + 2)).toInt) ((xs (5 * n + 3)).toInt) ((xs (5 * n + 4)).toInt) (iI_range _) (iI_range _) (iI_range _) (iI_range _) hI.1) gL_law_X4_differ rfl (by decide) ⟨by show 37 + n + 1 + 0 ≤ 3130; omega, by show 1592 + 6 * n + 6 + 0 ≤ 120502; omega⟩ [18, 19, 20, 21, 22, 23, 24, 25, 26, 27, 28, 29, 30, 31, 32, 33, 34] [0, 1, 2, 3, 4, 5, 6, 7, 8, 9, 10, 11, 12, 13, 14, 15, 16, 17, 35, 36] rfl rfl rfl rfl (by decide) 0 rfl rfl 4 rfl rfl (Nat.le_of_ble_eq_true rfl) (by decide +kernel) dL_law_542 (fun rv2 w2 hw2 => ?_)
  obtain ⟨v, FM', VM', fd', rfl, rfl, hm1, hm2⟩ := hw2
  rw [← hcdC] at hc1 hc2
  have hop := op_differ hI hc1 hc2 hm1 hm2
  rw [hcdC] at hop
  obtain ⟨h0, hkr, hval, hI2⟩ := hop
  refine jr_perm (ws' := (wQ G h FC' VC' h2 FM' VM' fd' o fo' od fdd)) (st := [.int (iI v)]) [0, 1, 2, 3, 4, 5, 6, 7, 8, 9, 10, 11, 12, 13, 14, 15, 16, 17, 20, 21, 22, 23, 24, 25, 26, 27, 28, 29, 30, 31, 32, 33, 34, 35, 36, 18, 19] rfl rfl ?_
  refine jr_istore (lv' := [(7, .int (iI v)), (6, .int (iI kC)), (0, .ref b), (1, .ref (h 0)), (2, .ref (h2 0)), (3, .ref o), (4, .ref od), (5, .int (iI ((5 * n : Nat) : Int)))]) (pc := 545) hh dL_law_545 (by decide) rfl ?_
  refine jr_aload_n (pc := 547) hh 4 dL_law_547 rfl rfl ?_
  refine jr_callV (pc := 548) hh [] [] (c_X4_thrown l G h2 FM' VM' fd') gL_law_X4_thrown rfl (by decide) ⟨by show 37 + n + 1 + 0 + 0 ≤ 3130; omega, by show 1592 + 6 * n + 6 + 0 + 0 ≤ 120502; omega⟩ [18, 19, 20, 21, 22, 23, 24, 25, 26, 27, 28, 29, 30, 31, 32, 33, 34] [0, 1, 2, 3, 4, 5, 6, 7, 8, 9, 10, 11, 12, 13, 14, 15, 16, 17, 35, 36] rfl rfl rfl rfl (by decide) 0 rfl rfl 0 rfl rfl (Nat.le_of_ble_eq_true rfl) (by decide +kernel) dL_law_548 (fun rv3 w3 hw3 => ?_)
  obtain ⟨rfl, rfl⟩ := hw3
  refine jr_perm (ws' := (wQ G h FC' VC' h2 FM' VM' fd' o fo' od fdd)) (st := [.int (iI (VM' 0))]) [0, 1, 2, 3, 4, 5, 6, 7, 8, 9, 10, 11, 12, 13, 14, 15, 16, 17, 20, 21, 22, 23, 24, 25, 26, 27, 28, 29, 30, 31, 32, 33, 34, 35, 36, 18, 19] rfl rfl ?_
  refine jr_topi (b := kC) h0 ?_
  refine jr_iload (pc := 551) hh 1 dL_law_551 rfl ?_
  refine jr_icmp_eq (tgt := 558) (pc := 553) hh dL_law_553 (by decide) ⟨by omega, by omega⟩ ⟨by omega, by omega⟩ (fun _ => ?_) (fun c9 => absurd rfl c9)
  refine jr_iload (pc := 558) hh 1 dL_law_558 rfl ?_
  refine jr_if_ne (tgt := 575) (pc := 560) hh dL_law_560 (by decide) ⟨by omega, by omega⟩ (fun _ => ?_) (fun c9 => ?_)
  · skip
    refine jr_goto (tgt := 1554) (pc := 575) hh dL_law_575 (by decide) ?_
    refine jr_loc (lv' := [(0, .ref b), (1, .ref (h 0)), (2, .ref (h2 0)), (3, .ref o), (4, .ref od), (5, .int (iI ((5 * n : Nat) : Int)))]) [2, 3, 4, 5, 6, 7] rfl ?_
    exact jr_room (by show 37 + n + 1 + 0 + 0 ≤ 37 + (n + 1); omega) (by show 1592 + 6 * n + 6 + 0 + 0 ≤ 1592 + 6 * (n + 1); omega) (next FC' VC' FM' VM' fd' fo' fdd hI2)
  · skip
    obtain ⟨hv1, hv2⟩ := hval c9
    have hv3 := hv2.1
    have hv4 := hv2.2
    refine jr_aload_n (pc := 563) hh 5 dL_law_563 rfl rfl ?_
    refine jr_iconst (pc := 564) hh dL_law_564 ?_
    refine jr_lald (F := fo') (pc := 565) hh 35 rfl 0 rfl (by decide) (by decide) dL_law_565 ?_
    refine jr_iload (pc := 566) hh 0 dL_law_566 rfl ?_
    refine jr_i2l (pc := 568) hh dL_law_568 ⟨hv3, hv4⟩ ?_
    refine jr_lcmp_eq (tgt := 575) (pc := 569) hh dL_law_569 dL_law_570 (by decide) ⟨by omega, by omega⟩ ⟨by omega, by omega⟩ (fun _ => ?_) (fun c8 => absurd hv1 c8)
    refine jr_goto (tgt := 1554) (pc := 575) hh dL_law_575 (by decide) ?_
    refine jr_loc (lv' := [(0, .ref b), (1, .ref (h 0)), (2, .ref (h2 0)), (3, .ref o), (4, .ref od), (5, .int (iI ((5 * n : Nat) : Int)))]) [2, 3, 4, 5, 6, 7] rfl ?_
    exact jr_room (by show 37 + n + 1 + 0 + 0 ≤ 37 + (n + 1); omega) (by show 1592 + 6 * n + 6 + 0 + 0 ≤ 1592 + 6 * (n + 1); omega) (next FC' VC' FM' VM' fd' fo' fdd hI2)
