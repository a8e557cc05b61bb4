/-! the law's cases -/
set_option maxHeartbeats 4000000 in
set_option maxRecDepth 100000 in
theorem k_actual {p : Program} {l : Launch} {e : Env} {s : State} {m : MethodId} {args : Array Value} {below : List Frame} {meth : Method} {c : Code} {A : Nat → Prop} {G : jG} {Q : State → Prop} {b L n : Nat} {xs : Nat → Int32} {h h2 : Nat → Nat} {o od : Nat} {FC : Nat → Nat → Int} {VC : Nat → Int} {FM : Nat → Nat → Int} {VM fd fo : Nat → Int} {fdd : Nat → UInt64}
    (hh : jOK p s m args meth c A G cL_law wsL_law RL 9) (hnc : ∀ E ∈ jEX, ∀ nm ∈ jEX, E ≠ nm → va_Nc E nm s) (hlt : l.stackTraces = false) (hX : va_X b L xs s s.heap) (hbl : b < s.heap.size) (hbA : ¬ A b) (hn : 5 * n + 5 ≤ L) (hL : L ≤ 2560) (hI : Inv FC VC FM VM)
    (next : ∀ (FC : Nat → Nat → Int) (VC : Nat → Int) (FM : Nat → Nat → Int) (VM fd fo : Nat → Int) (fdd : Nat → UInt64), Inv FC VC FM VM → J p l e room_1 s m args below meth c A G 9 (37 + (n + 1)) (1592 + 6 * (n + 1)) Q (wQ G h FC VC h2 FM VM fd o fo od fdd) 1554 [(0, .ref b), (1, .ref (h 0)), (2, .ref (h2 0)), (3, .ref o), (4, .ref od), (5, .int (iI ((5 * n : Nat) : Int)))] []) : J p l e room_1 s m args below meth c A G 9 (37 + n) (1592 + 6 * n) Q (wQ G h FC VC h2 FM VM fd o fo od fdd) 989 [(0, .ref b), (1, .ref (h 0)), (2, .ref (h2 0)), (3, .ref o), (4, .ref od), (5, .int (iI ((5 * n : Nat) : Int)))] [] := by
  have hok := okC_of hI
  have hown := inv_own hI
  refine jr_aload_n (pc := 989) hh 1 dL_law_989 rfl rfl ?_
  refine jr_aload_n (pc := 990) hh 0 dL_law_990 rfl rfl ?_
  refine jr_iload (pc := 991) hh 5 dL_law_991 rfl ?_
  refine jr_iconst (pc := 993) hh dL_law_993 ?_
  refine jr_iadd (pc := 994) hh dL_law_994 ?_
  refine jr_sld (pc := 995) hh hX hbl hbA (5 * n + 1) (by omega) (by omega) (by omega) dL_law_995 ?_
  refine jr_aload_n (pc := 996) hh 0 dL_law_996 rfl rfl ?_
  refine jr_iload (pc := 997) hh 5 dL_law_997 rfl ?_
  refine jr_iconst (pc := 999) hh dL_law_999 ?_
  refine jr_iadd (pc := 1000) hh dL_law_1000 ?_
  refine jr_sld (pc := 1001) hh hX hbl hbA (5 * n + 2) (by omega) (by omega) (by omega) dL_law_1001 ?_
  refine jr_aload_n (pc := 1002) hh 0 dL_law_1002 rfl rfl ?_
  refine jr_iload (pc := 1003) hh 5 dL_law_1003 rfl ?_
  refine jr_iconst (pc := 1005) hh dL_law_1005 ?_
  refine jr_iadd (pc := 1006) hh dL_law_1006 ?_
  refine jr_sld (pc := 1007) hh hX hbl hbA (5 * n + 3) (by omega) (by omega) (by omega) dL_law_1007 ?_
  refine jr_aload_n (pc := 1008) hh 3 dL_law_1008 rfl rfl ?_
  refine jr_callSL (pc := 1009) hh hnc [.ref (h 0), .int (iI (xs (5 * n + 1)).toInt), .int (iI (xs (5 * n + 2)).toInt), .int (iI (xs (5 * n + 3)).toInt), .ref o] [] (w_actual l hlt G h FC VC o fo ((xs (5 * n + 1)).toInt) ((xs (5 * n + 2)).toInt) ((xs (5 * n + 3)).toInt) (iI_range _) (iI_range _) (iI_range _) hok) gL_law_L_actual rfl (by decide) ⟨by show 37 + n + 1 ≤ 3130; omega, by show 1592 + 6 * n + 6 ≤ 120502; omega⟩ [0, 1, 2, 3, 4, 5, 6, 7, 8, 9, 10, 11, 12, 13, 14, 15, 16, 17, 35] [18, 19, 20, 21, 22, 23, 24, 25, 26, 27, 28, 29, 30, 31, 32, 33, 34, 36] rfl rfl rfl rfl (by decide) 5 rfl rfl (Nat.le_of_ble_eq_true rfl) (by decide +kernel) dL_law_1009 (fun rv1 w1 hw1 => ?_)
  obtain ⟨rfl, FC', VC', fo', rfl, hc1, hc2⟩ := hw1
  generalize hcdC : cdActual (VC 2) (VC 4) ((xs (5 * n + 1)).toInt) ((xs (5 * n + 2)).toInt) ((xs (5 * n + 3)).toInt) = kC at hc1 hc2
  refine jr_perm (ws' := (wQ G h FC' VC' h2 FM VM fd o fo' od fdd)) (st := [.int (iI kC)]) [18, 19, 20, 21, 22, 23, 24, 25, 26, 27, 28, 29, 30, 31, 32, 33, 34, 35, 0, 1, 2, 3, 4, 5, 6, 7, 8, 9, 10, 11, 12, 13, 14, 15, 16, 36, 17] rfl rfl ?_
  refine jr_istore (lv' := [(6, .int (iI kC)), (0, .ref b), (1, .ref (h 0)), (2, .ref (h2 0)), (3, .ref o), (4, .ref od), (5, .int (iI ((5 * n : Nat) : Int)))]) (pc := 1012) hh dL_law_1012 (by decide) rfl ?_
  refine jr_aload_n (pc := 1014) hh 3 dL_law_1014 rfl rfl ?_
  refine jr_aload_n (pc := 1015) hh 1 dL_law_1015 rfl rfl ?_
  refine jr_iload (pc := 1016) hh 6 dL_law_1016 rfl ?_
  refine jr_iconst (pc := 1018) hh dL_law_1018 ?_
  refine jr_iadd (pc := 1019) hh dL_law_1019 ?_
  refine jr_sld (pc := 1020) hh hX hbl hbA (5 * n + 1) (by omega) (by omega) (by omega) dL_law_1020 ?_
  refine jr_aload_n (pc := 1021) hh 1 dL_law_1021 rfl rfl ?_
  refine jr_iload (pc := 1022) hh 6 dL_law_1022 rfl ?_
  refine jr_iconst (pc := 1024) hh dL_law_1024 ?_
  refine jr_iadd (pc := 1025) hh dL_law_1025 ?_
  refine jr_sld (pc := 1026) hh hX hbl hbA (5 * n + 2) (by omega) (by omega) (by omega) dL_law_1026 ?_
  refine jr_aload_n (pc := 1027) hh 1 dL_law_1027 rfl rfl ?_
  refine jr_iload (pc := 1028) hh 6 dL_law_1028 rfl ?_
  refine jr_iconst (pc := 1030) hh dL_law_1030 ?_
  refine jr_iadd (pc := 1031) hh dL_law_1031 ?_
  refine jr_sld (pc := 1032) hh hX hbl hbA (5 * n + 3) (by omega) (by omega) (by omega) dL_law_1032 ?_
  refine jr_callV (pc := 1033) hh [.int (iI (xs (5 * n + 1)).toInt), .int (iI (xs (5 * n + 2)).toInt), .int (iI (xs (5 * n + 3)).toInt)] [] (c_X4_actual l G h2 FM VM fd ((xs (5 * n + 1)).toInt) ((xs (5 * n + 2)).toInt) ((xs (5 * n + 3)).toInt) (iI_range _) (iI_range _) (iI_range _) hI.1) gL_law_X4_actual rfl (by decide) ⟨by show 37 + n + 1 + 0 ≤ 3130; omega, by show 1592 + 6 * n + 6 + 0 ≤ 120502; omega⟩ [18, 19, 20, 21, 22, 23, 24, 25, 26, 27, 28, 29, 30, 31, 32, 33, 34] [0, 1, 2, 3, 4, 5, 6, 7, 8, 9, 10, 11, 12, 13, 14, 15, 16, 17, 35, 36] rfl rfl rfl rfl (by decide) 0 rfl rfl 3 rfl rfl (Nat.le_of_ble_eq_true rfl) (by decide +kernel) dL_law_1033 (fun rv2 w2 hw2 => ?_)
  obtain ⟨v, FM', VM', fd', rfl, rfl, hm1, hm2⟩ := hw2
  rw [← hcdC] at hc1 hc2
  have hop := op_actual hI hc1 hc2 hm1 hm2
  rw [hcdC] at hop
  obtain ⟨h0, hkr, hval, hI2⟩ := hop
  refine jr_perm (ws' := (wQ G h FC' VC' h2 FM' VM' fd' o fo' od fdd)) (st := [.int (iI v)]) [0, 1, 2, 3, 4, 5, 6, 7, 8, 9, 10, 11, 12, 13, 14, 15, 16, 17, 20, 21, 22, 23, 24, 25, 26, 27, 28, 29, 30, 31, 32, 33, 34, 35, 36, 18, 19] rfl rfl ?_
  refine jr_istore (lv' := [(7, .int (iI v)), (6, .int (iI kC)), (0, .ref b), (1, .ref (h 0)), (2, .ref (h2 0)), (3, .ref o), (4, .ref od), (5, .int (iI ((5 * n : Nat) : Int)))]) (pc := 1036) hh dL_law_1036 (by decide) rfl ?_
  refine jr_aload_n (pc := 1038) hh 4 dL_law_1038 rfl rfl ?_
  refine jr_callV (pc := 1039) hh [] [] (c_X4_thrown l G h2 FM' VM' fd') gL_law_X4_thrown rfl (by decide) ⟨by show 37 + n + 1 + 0 + 0 ≤ 3130; omega, by show 1592 + 6 * n + 6 + 0 + 0 ≤ 120502; omega⟩ [18, 19, 20, 21, 22, 23, 24, 25, 26, 27, 28, 29, 30, 31, 32, 33, 34] [0, 1, 2, 3, 4, 5, 6, 7, 8, 9, 10, 11, 12, 13, 14, 15, 16, 17, 35, 36] rfl rfl rfl rfl (by decide) 0 rfl rfl 0 rfl rfl (Nat.le_of_ble_eq_true rfl) (by decide +kernel) dL_law_1039 (fun rv3 w3 hw3 => ?_)
  obtain ⟨rfl, rfl⟩ := hw3
  refine jr_perm (ws' := (wQ G h FC' VC' h2 FM' VM' fd' o fo' od fdd)) (st := [.int (iI (VM' 0))]) [0, 1, 2, 3, 4, 5, 6, 7, 8, 9, 10, 11, 12, 13, 14, 15, 16, 17, 20, 21, 22, 23, 24, 25, 26, 27, 28, 29, 30, 31, 32, 33, 34, 35, 36, 18, 19] rfl rfl ?_
  refine jr_topi (b := kC) h0 ?_
  refine jr_iload (pc := 1042) hh 1 dL_law_1042 rfl ?_
  refine jr_icmp_eq (tgt := 1049) (pc := 1044) hh dL_law_1044 (by decide) ⟨by omega, by omega⟩ ⟨by omega, by omega⟩ (fun _ => ?_) (fun c9 => absurd rfl c9)
  refine jr_iload (pc := 1049) hh 1 dL_law_1049 rfl ?_
  refine jr_if_ne (tgt := 1066) (pc := 1051) hh dL_law_1051 (by decide) ⟨by omega, by omega⟩ (fun _ => ?_) (fun c9 => ?_)
  · skip
    refine jr_goto (tgt := 1554) (pc := 1066) hh dL_law_1066 (by decide) ?_
    refine jr_loc (lv' := [(0, .ref b), (1, .ref (h 0)), (2, .ref (h2 0)), (3, .ref o), (4, .ref od), (5, .int (iI ((5 * n : Nat) : Int)))]) [2, 3, 4, 5, 6, 7] rfl ?_
    exact jr_room (by show 37 + n + 1 + 0 + 0 ≤ 37 + (n + 1); omega) (by show 1592 + 6 * n + 6 + 0 + 0 ≤ 1592 + 6 * (n + 1); omega) (next FC' VC' FM' VM' fd' fo' fdd hI2)
  · skip
    obtain ⟨hv1, hv2⟩ := hval c9
    have hv3 := hv2.1
    have hv4 := hv2.2
    refine jr_aload_n (pc := 1054) hh 5 dL_law_1054 rfl rfl ?_
    refine jr_iconst (pc := 1055) hh dL_law_1055 ?_
    refine jr_lald (F := fo') (pc := 1056) hh 35 rfl 0 rfl (by decide) (by decide) dL_law_1056 ?_
    refine jr_iload (pc := 1057) hh 0 dL_law_1057 rfl ?_
    refine jr_i2l (pc := 1059) hh dL_law_1059 ⟨hv3, hv4⟩ ?_
    refine jr_lcmp_eq (tgt := 1066) (pc := 1060) hh dL_law_1060 dL_law_1061 (by decide) ⟨by omega, by omega⟩ ⟨by omega, by omega⟩ (fun _ => ?_) (fun c8 => absurd hv1 c8)
    refine jr_goto (tgt := 1554) (pc := 1066) hh dL_law_1066 (by decide) ?_
    refine jr_loc (lv' := [(0, .ref b), (1, .ref (h 0)), (2, .ref (h2 0)), (3, .ref o), (4, .ref od), (5, .int (iI ((5 * n : Nat) : Int)))]) [2, 3, 4, 5, 6, 7] rfl ?_
    exact jr_room (by show 37 + n + 1 + 0 + 0 ≤ 37 + (n + 1); omega) (by show 1592 + 6 * n + 6 + 0 + 0 ≤ 1592 + 6 * (n + 1); omega) (next FC' VC' FM' VM' fd' fo' fdd hI2)
set_option maxHeartbeats 4000000 in
set_option maxRecDepth 100000 in
theorem k_takeActual {p : Program} {l : Launch} {e : Env} {s : State} {m : MethodId} {args : Array Value} {below : List Frame} {meth : Method} {c : Code} {A : Nat → Prop} {G : jG} {Q : State → Prop} {b L n : Nat} {xs : Nat → Int32} {h h2 : Nat → Nat} {o od : Nat} {FC : Nat → Nat → Int} {VC : Nat → Int} {FM : Nat → Nat → Int} {VM fd fo : Nat → Int} {fdd : Nat → UInt64}
    (hh : jOK p s m args meth c A G cL_law wsL_law RL 9) (hnc : ∀ E ∈ jEX, ∀ nm ∈ jEX, E ≠ nm → va_Nc E nm s) (hlt : l.stackTraces = false) (hX : va_X b L xs s s.heap) (hbl : b < s.heap.size) (hbA : ¬ A b) (hn : 5 * n + 5 ≤ L) (hL : L ≤ 2560) (hI : Inv FC VC FM VM)
    (next : ∀ (FC : Nat → Nat → Int) (VC : Nat → Int) (FM : Nat → Nat → Int) (VM fd fo : Nat → Int) (fdd : Nat → UInt64), Inv FC VC FM VM → J p l e room_1 s m args below meth c A G 9 (37 + (n + 1)) (1592 + 6 * (n + 1)) Q (wQ G h FC VC h2 FM VM fd o fo od fdd) 1554 [(0, .ref b), (1, .ref (h 0)), (2, .ref (h2 0)), (3, .ref o), (4, .ref od), (5, .int (iI ((5 * n : Nat) : Int)))] []) : J p l e room_1 s m args below meth c A G 9 (37 + n) (1592 + 6 * n) Q (wQ G h FC VC h2 FM VM fd o fo od fdd) 1069 [(0, .ref b), (1, .ref (h 0)), (2, .ref (h2 0)), (3, .ref o), (4, .ref od), (5, .int (iI ((5 * n : Nat) : Int)))] [] := by
  have hok := okC_of hI
  have hown := inv_own hI
  refine jr_aload_n (pc := 1069) hh 1 dL_law_1069 rfl rfl ?_
  refine jr_aload_n (pc := 1070) hh 0 dL_law_1070 rfl rfl ?_
  refine jr_iload (pc := 1071) hh 5 dL_law_1071 rfl ?_
  refine jr_iconst (pc := 1073) hh dL_law_1073 ?_
  refine jr_iadd (pc := 1074) hh dL_law_1074 ?_
  refine jr_sld (pc := 1075) hh hX hbl hbA (5 * n + 1) (by omega) (by omega) (by omega) dL_law_1075 ?_
  refine jr_aload_n (pc := 1076) hh 0 dL_law_1076 rfl rfl ?_
  refine jr_iload (pc := 1077) hh 5 dL_law_1077 rfl ?_
  refine jr_iconst (pc := 1079) hh dL_law_1079 ?_
  refine jr_iadd (pc := 1080) hh dL_law_1080 ?_
  refine jr_sld (pc := 1081) hh hX hbl hbA (5 * n + 2) (by omega) (by omega) (by omega) dL_law_1081 ?_
  refine jr_aload_n (pc := 1082) hh 3 dL_law_1082 rfl rfl ?_
  refine jr_callSL (pc := 1083) hh hnc [.ref (h 0), .int (iI (xs (5 * n + 1)).toInt), .int (iI (xs (5 * n + 2)).toInt), .ref o] [] (w_takeActual l hlt G h FC VC o fo ((xs (5 * n + 1)).toInt) ((xs (5 * n + 2)).toInt) (iI_range _) (iI_range _) hok) gL_law_L_takeActual rfl (by decide) ⟨by show 37 + n + 1 ≤ 3130; omega, by show 1592 + 6 * n + 6 ≤ 120502; omega⟩ [0, 1, 2, 3, 4, 5, 6, 7, 8, 9, 10, 11, 12, 13, 14, 15, 16, 17, 35] [18, 19, 20, 21, 22, 23, 24, 25, 26, 27, 28, 29, 30, 31, 32, 33, 34, 36] rfl rfl rfl rfl (by decide) 4 rfl rfl (Nat.le_of_ble_eq_true rfl) (by decide +kernel) dL_law_1083 (fun rv1 w1 hw1 => ?_)
  obtain ⟨rfl, FC', VC', fo', rfl, hc1, hc2⟩ := hw1
  generalize hcdC : cdTake (VC 2) ((xs (5 * n + 1)).toInt) ((xs (5 * n + 2)).toInt) (FC 8 (((xs (5 * n + 1)).toInt).toNat * 12 + ((xs (5 * n + 2)).toInt).toNat)) = kC at hc1 hc2
  refine jr_perm (ws' := (wQ G h FC' VC' h2 FM VM fd o fo' od fdd)) (st := [.int (iI kC)]) [18, 19, 20, 21, 22, 23, 24, 25, 26, 27, 28, 29, 30, 31, 32, 33, 34, 35, 0, 1, 2, 3, 4, 5, 6, 7, 8, 9, 10, 11, 12, 13, 14, 15, 16, 36, 17] rfl rfl ?_
  refine jr_istore (lv' := [(6, .int (iI kC)), (0, .ref b), (1, .ref (h 0)), (2, .ref (h2 0)), (3, .ref o), (4, .ref od), (5, .int (iI ((5 * n : Nat) : Int)))]) (pc := 1086) hh dL_law_1086 (by decide) rfl ?_
  refine jr_aload_n (pc := 1088) hh 3 dL_law_1088 rfl rfl ?_
  refine jr_aload_n (pc := 1089) hh 1 dL_law_1089 rfl rfl ?_
  refine jr_iload (pc := 1090) hh 6 dL_law_1090 rfl ?_
  refine jr_iconst (pc := 1092) hh dL_law_1092 ?_
  refine jr_iadd (pc := 1093) hh dL_law_1093 ?_
  refine jr_sld (pc := 1094) hh hX hbl hbA (5 * n + 1) (by omega) (by omega) (by omega) dL_law_1094 ?_
  refine jr_aload_n (pc := 1095) hh 1 dL_law_1095 rfl rfl ?_
  refine jr_iload (pc := 1096) hh 6 dL_law_1096 rfl ?_
  refine jr_iconst (pc := 1098) hh dL_law_1098 ?_
  refine jr_iadd (pc := 1099) hh dL_law_1099 ?_
  refine jr_sld (pc := 1100) hh hX hbl hbA (5 * n + 2) (by omega) (by omega) (by omega) dL_law_1100 ?_
  refine jr_callV (pc := 1101) hh [.int (iI (xs (5 * n + 1)).toInt), .int (iI (xs (5 * n + 2)).toInt)] [] (c_X4_takeActual l G h2 FM VM fd ((xs (5 * n + 1)).toInt) ((xs (5 * n + 2)).toInt) (iI_range _) (iI_range _) hI.1) gL_law_X4_takeActual rfl (by decide) ⟨by show 37 + n + 1 + 0 ≤ 3130; omega, by show 1592 + 6 * n + 6 + 0 ≤ 120502; omega⟩ [18, 19, 20, 21, 22, 23, 24, 25, 26, 27, 28, 29, 30, 31, 32, 33, 34] [0, 1, 2, 3, 4, 5, 6, 7, 8, 9, 10, 11, 12, 13, 14, 15, 16, 17, 35, 36] rfl rfl rfl rfl (by decide) 0 rfl rfl 2 rfl rfl (Nat.le_of_ble_eq_true rfl) (by decide +kernel) dL_law_1101 (fun rv2 w2 hw2 => ?_)
  obtain ⟨v, FM', VM', fd', rfl, rfl, hm1, hm2⟩ := hw2
  rw [← hcdC] at hc1 hc2
  have hop := op_takeActual hI hc1 hc2 hm1 hm2
  rw [hcdC] at hop
  obtain ⟨h0, hkr, hval, hI2⟩ := hop
  refine jr_perm (ws' := (wQ G h FC' VC' h2 FM' VM' fd' o fo' od fdd)) (st := [.int (iI v)]) [0, 1, 2, 3, 4, 5, 6, 7, 8, 9, 10, 11, 12, 13, 14, 15, 16, 17, 20, 21, 22, 23, 24, 25, 26, 27, 28, 29, 30, 31, 32, 33, 34, 35, 36, 18, 19] rfl rfl ?_
  refine jr_istore (lv' := [(7, .int (iI v)), (6, .int (iI kC)), (0, .ref b), (1, .ref (h 0)), (2, .ref (h2 0)), (3, .ref o), (4, .ref od), (5, .int (iI ((5 * n : Nat) : Int)))]) (pc := 1104) hh dL_law_1104 (by decide) rfl ?_
  refine jr_aload_n (pc := 1106) hh 4 dL_law_1106 rfl rfl ?_
  refine jr_callV (pc := 1107) hh [] [] (c_X4_thrown l G h2 FM' VM' fd') gL_law_X4_thrown rfl (by decide) ⟨by show 37 + n + 1 + 0 + 0 ≤ 3130; omega, by show 1592 + 6 * n + 6 + 0 + 0 ≤ 120502; omega⟩ [18, 19, 20, 21, 22, 23, 24, 25, 26, 27, 28, 29, 30, 31, 32, 33, 34] [0, 1, 2, 3, 4, 5, 6, 7, 8, 9, 10, 11, 12, 13, 14, 15, 16, 17, 35, 36] rfl rfl rfl rfl (by decide) 0 rfl rfl 0 rfl rfl (Nat.le_of_ble_eq_true rfl) (by decide +kernel) dL_law_1107 (fun rv3 w3 hw3 => ?_)
  obtain ⟨rfl, rfl⟩ := hw3
  refine jr_perm (ws' := (wQ G h FC' VC' h2 FM' VM' fd' o fo' od fdd)) (st := [.int (iI (VM' 0))]) [0, 1, 2, 3, 4, 5, 6, 7, 8, 9, 10, 11, 12, 13, 14, 15, 16, 17, 20, 21, 22, 23, 24, 25, 26, 27, 28, 29, 30, 31, 32, 33, 34, 35, 36, 18, 19] rfl rfl ?_
  refine jr_topi (b := kC) h0 ?_
  refine jr_iload (pc := 1110) hh 1 dL_law_1110 rfl ?_
  refine jr_icmp_eq (tgt := 1117) (pc := 1112) hh dL_law_1112 (by decide) ⟨by omega, by omega⟩ ⟨by omega, by omega⟩ (fun _ => ?_) (fun c9 => absurd rfl c9)
  refine jr_iload (pc := 1117) hh 1 dL_law_1117 rfl ?_
  refine jr_if_ne (tgt := 1134) (pc := 1119) hh dL_law_1119 (by decide) ⟨by omega, by omega⟩ (fun _ => ?_) (fun c9 => ?_)
  · skip
    refine jr_goto (tgt := 1554) (pc := 1134) hh dL_law_1134 (by decide) ?_
    refine jr_loc (lv' := [(0, .ref b), (1, .ref (h 0)), (2, .ref (h2 0)), (3, .ref o), (4, .ref od), (5, .int (iI ((5 * n : Nat) : Int)))]) [2, 3, 4, 5, 6, 7] rfl ?_
    exact jr_room (by show 37 + n + 1 + 0 + 0 ≤ 37 + (n + 1); omega) (by show 1592 + 6 * n + 6 + 0 + 0 ≤ 1592 + 6 * (n + 1); omega) (next FC' VC' FM' VM' fd' fo' fdd hI2)
  · skip
    obtain ⟨hv1, hv2⟩ := hval c9
    have hv3 := hv2.1
    have hv4 := hv2.2
    refine jr_aload_n (pc := 1122) hh 5 dL_law_1122 rfl rfl ?_
    refine jr_iconst (pc := 1123) hh dL_law_1123 ?_
    refine jr_lald (F := fo') (pc := 1124) hh 35 rfl 0 rfl (by decide) (by decide) dL_law_1124 ?_
    refine jr_iload (pc := 1125) hh 0 dL_law_1125 rfl ?_
    refine jr_i2l (pc := 1127) hh dL_law_1127 ⟨hv3, hv4⟩ ?_
    refine jr_lcmp_eq (tgt := 1134) (pc := 1128) hh dL_law_1128 dL_law_1129 (by decide) ⟨by omega, by omega⟩ ⟨by omega, by omega⟩ (fun _ => ?_) (fun c8 => absurd hv1 c8)
    refine jr_goto (tgt := 1554) (pc := 1134) hh dL_law_1134 (by decide) ?_
    refine jr_loc (lv' := [(0, .ref b), (1, .ref (h 0)), (2, .ref (h2 0)), (3, .ref o), (4, .ref od), (5, .int (iI ((5 * n : Nat) : Int)))]) [2, 3, 4, 5, 6, 7] rfl ?_
    exact jr_room (by show 37 + n + 1 + 0 + 0 ≤ 37 + (n + 1); omega) (by show 1592 + 6 * n + 6 + 0 + 0 ≤ 1592 + 6 * (n + 1); omega) (next FC' VC' FM' VM' fd' fo' fdd hI2)
set_option maxHeartbeats 4000000 in
set_option maxRecDepth 100000 in
theorem k_pass {p : Program} {l : Launch} {e : Env} {s : State} {m : MethodId} {args : Array Value} {below : List Frame} {meth : Method} {c : Code} {A : Nat → Prop} {G : jG} {Q : State → Prop} {b L n : Nat} {xs : Nat → Int32} {h h2 : Nat → Nat} {o od : Nat} {FC : Nat → Nat → Int} {VC : Nat → Int} {FM : Nat → Nat → Int} {VM fd fo : Nat → Int} {fdd : Nat → UInt64}
    (hh : jOK p s m args meth c A G cL_law wsL_law RL 9) (hnc : ∀ E ∈ jEX, ∀ nm ∈ jEX, E ≠ nm → va_Nc E nm s) (hlt : l.stackTraces = false) (hX : va_X b L xs s s.heap) (hbl : b < s.heap.size) (hbA : ¬ A b) (hn : 5 * n + 5 ≤ L) (hL : L ≤ 2560) (hI : Inv FC VC FM VM)
    (next : ∀ (FC : Nat → Nat → Int) (VC : Nat → Int) (FM : Nat → Nat → Int) (VM fd fo : Nat → Int) (fdd : Nat → UInt64), Inv FC VC FM VM → J p l e room_1 s m args below meth c A G 9 (37 + (n + 1)) (1592 + 6 * (n + 1)) Q (wQ G h FC VC h2 FM VM fd o fo od fdd) 1554 [(0, .ref b), (1, .ref (h 0)), (2, .ref (h2 0)), (3, .ref o), (4, .ref od), (5, .int (iI ((5 * n : Nat) : Int)))] []) : J p l e room_1 s m args below meth c A G 9 (37 + n) (1592 + 6 * n) Q (wQ G h FC VC h2 FM VM fd o fo od fdd) 1137 [(0, .ref b), (1, .ref (h 0)), (2, .ref (h2 0)), (3, .ref o), (4, .ref od), (5, .int (iI ((5 * n : Nat) : Int)))] [] := by
  have hok := okC_of hI
  have hown := inv_own hI
  refine jr_aload_n (pc := 1137) hh 1 dL_law_1137 rfl rfl ?_
  refine jr_aload_n (pc := 1138) hh 3 dL_law_1138 rfl rfl ?_
  refine jr_callSL (pc := 1139) hh hnc [.ref (h 0), .ref o] [] (w_pass l hlt G h FC VC o fo   hok) gL_law_L_pass rfl (by decide) ⟨by show 37 + n + 1 ≤ 3130; omega, by show 1592 + 6 * n + 6 ≤ 120502; omega⟩ [0, 1, 2, 3, 4, 5, 6, 7, 8, 9, 10, 11, 12, 13, 14, 15, 16, 17, 35] [18, 19, 20, 21, 22, 23, 24, 25, 26, 27, 28, 29, 30, 31, 32, 33, 34, 36] rfl rfl rfl rfl (by decide) 2 rfl rfl (Nat.le_of_ble_eq_true rfl) (by decide +kernel) dL_law_1139 (fun rv1 w1 hw1 => ?_)
  obtain ⟨rfl, FC', VC', fo', rfl, hc1, hc2⟩ := hw1
  generalize hcdC : cdPass (VC 4) = kC at hc1 hc2
  refine jr_perm (ws' := (wQ G h FC' VC' h2 FM VM fd o fo' od fdd)) (st := [.int (iI kC)]) [18, 19, 20, 21, 22, 23, 24, 25, 26, 27, 28, 29, 30, 31, 32, 33, 34, 35, 0, 1, 2, 3, 4, 5, 6, 7, 8, 9, 10, 11, 12, 13, 14, 15, 16, 36, 17] rfl rfl ?_
  refine jr_istore (lv' := [(6, .int (iI kC)), (0, .ref b), (1, .ref (h 0)), (2, .ref (h2 0)), (3, .ref o), (4, .ref od), (5, .int (iI ((5 * n : Nat) : Int)))]) (pc := 1142) hh dL_law_1142 (by decide) rfl ?_
  refine jr_aload_n (pc := 1144) hh 3 dL_law_1144 rfl rfl ?_
  refine jr_callV (pc := 1145) hh [] [] (c_X4_pass l G h2 FM VM fd   hI.1) gL_law_X4_pass rfl (by decide) ⟨by show 37 + n + 1 + 0 ≤ 3130; omega, by show 1592 + 6 * n + 6 + 0 ≤ 120502; omega⟩ [18, 19, 20, 21, 22, 23, 24, 25, 26, 27, 28, 29, 30, 31, 32, 33, 34] [0, 1, 2, 3, 4, 5, 6, 7, 8, 9, 10, 11, 12, 13, 14, 15, 16, 17, 35, 36] rfl rfl rfl rfl (by decide) 0 rfl rfl 0 rfl rfl (Nat.le_of_ble_eq_true rfl) (by decide +kernel) dL_law_1145 (fun rv2 w2 hw2 => ?_)
  obtain ⟨v, FM', VM', fd', rfl, rfl, hm1, hm2⟩ := hw2
  rw [← hcdC] at hc1 hc2
  have hop := op_pass hI hc1 hc2 hm1 hm2
  rw [hcdC] at hop
  obtain ⟨h0, hkr, hval, hI2⟩ := hop
  refine jr_perm (ws' := (wQ G h FC' VC' h2 FM' VM' fd' o fo' od fdd)) (st := [.int (iI v)]) [0, 1, 2, 3, 4, 5, 6, 7, 8, 9, 10, 11, 12, 13, 14, 15, 16, 17, 20, 21, 22, 23, 24, 25, 26, 27, 28, 29, 30, 31, 32, 33, 34, 35, 36, 18, 19] rfl rfl ?_
  refine jr_istore (lv' := [(7, .int (iI v)), (6, .int (iI kC)), (0, .ref b), (1, .ref (h 0)), (2, .ref (h2 0)), (3, .ref o), (4, .ref od), (5, .int (iI ((5 * n : Nat) : Int)))]) (pc := 1148) hh dL_law_1148 (by decide) rfl ?_
  refine jr_aload_n (pc := 1150) hh 4 dL_law_1150 rfl rfl ?_
  refine jr_callV (pc := 1151) hh [] [] (c_X4_thrown l G h2 FM' VM' fd') gL_law_X4_thrown rfl (by decide) ⟨by show 37 + n + 1 + 0 + 0 ≤ 3130; omega, by show 1592 + 6 * n + 6 + 0 + 0 ≤ 120502; omega⟩ [18, 19, 20, 21, 22, 23, 24, 25, 26, 27, 28, 29, 30, 31, 32, 33, 34] [0, 1, 2, 3, 4, 5, 6, 7, 8, 9, 10, 11, 12, 13, 14, 15, 16, 17, 35, 36] rfl rfl rfl rfl (by decide) 0 rfl rfl 0 rfl rfl (Nat.le_of_ble_eq_true rfl) (by decide +kernel) dL_law_1151 (fun rv3 w3 hw3 => ?_)
  obtain ⟨rfl, rfl⟩ := hw3
  refine jr_perm (ws' := (wQ G h FC' VC' h2 FM' VM' fd' o fo' od fdd)) (st := [.int (iI (VM' 0))]) [0, 1, 2, 3, 4, 5, 6, 7, 8, 9, 10, 11, 12, 13, 14, 15, 16, 17, 20, 21, 22, 23, 24, 25, 26, 27, 28, 29, 30, 31, 32, 33, 34, 35, 36, 18, 19] rfl rfl ?_
  refine jr_topi (b := kC) h0 ?_
  refine jr_iload (pc := 1154) hh 1 dL_law_1154 rfl ?_
  refine jr_icmp_eq (tgt := 1161) (pc := 1156) hh dL_law_1156 (by decide) ⟨by omega, by omega⟩ ⟨by omega, by omega⟩ (fun _ => ?_) (fun c9 => absurd rfl c9)
  refine jr_iload (pc := 1161) hh 1 dL_law_1161 rfl ?_
  refine jr_if_ne (tgt := 1178) (pc := 1163) hh dL_law_1163 (by decide) ⟨by omega, by omega⟩ (fun _ => ?_) (fun c9 => ?_)
  · skip
    refine jr_goto (tgt := 1554) (pc := 1178) hh dL_law_1178 (by decide) ?_
    refine jr_loc (lv' := [(0, .ref b), (1, .ref (h 0)), (2, .ref (h2 0)), (3, .ref o), (4, .ref od), (5, .int (iI ((5 * n : Nat) : Int)))]) [2, 3, 4, 5, 6, 7] rfl ?_
    exact jr_room (by show 37 + n + 1 + 0 + 0 ≤ 37 + (n + 1); omega) (by show 1592 + 6 * n + 6 + 0 + 0 ≤ 1592 + 6 * (n + 1); omega) (next FC' VC' FM' VM' fd' fo' fdd hI2)
  · skip
    obtain ⟨hv1, hv2⟩ := hval c9
    have hv3 := hv2.1
    have hv4 := hv2.2
    refine jr_aload_n (pc := 1166) hh 5 dL_law_1166 rfl rfl ?_
    refine jr_iconst (pc := 1167) hh dL_law_1167 ?_
    refine jr_lald (F := fo') (pc := 1168) hh 35 rfl 0 rfl (by decide) (by decide) dL_law_1168 ?_
    refine jr_iload (pc := 1169) hh 0 dL_law_1169 rfl ?_
    refine jr_i2l (pc := 1171) hh dL_law_1171 ⟨hv3, hv4⟩ ?_
    refine jr_lcmp_eq (tgt := 1178) (pc := 1172) hh dL_law_1172 dL_law_1173 (by decide) ⟨by omega, by omega⟩ ⟨by omega, by omega⟩ (fun _ => ?_) (fun c8 => absurd hv1 c8)
    refine jr_goto (tgt := 1554) (pc := 1178) hh dL_law_1178 (by decide) ?_
    refine jr_loc (lv' := [(0, .ref b), (1, .ref (h 0)), (2, .ref (h2 0)), (3, .ref o), (4, .ref od), (5, .int (iI ((5 * n : Nat) : Int)))]) [2, 3, 4, 5, 6, 7] rfl ?_
    exact jr_room (by show 37 + n + 1 + 0 + 0 ≤ 37 + (n + 1); omega) (by show 1592 + 6 * n + 6 + 0 + 0 ≤ 1592 + 6 * (n + 1); omega) (next FC' VC' FM' VM' fd' fo' fdd hI2)
set_option maxHeartbeats 4000000 in
set_option maxRecDepth 100000 in
theorem k_month {p : Program} {l : Launch} {e : Env} {s : State} {m : MethodId} {args : Array Value} {below : List Frame} {meth : Method} {c : Code} {A : Nat → Prop} {G : jG} {Q : State → Prop} {b L n : Nat} {xs : Nat → Int32} {h h2 : Nat → Nat} {o od : Nat} {FC : Nat → Nat → Int} {VC : Nat → Int} {FM : Nat → Nat → Int} {VM fd fo : Nat → Int} {fdd : Nat → UInt64}
    (hh : jOK p s m args meth c A G cL_law wsL_law RL 9) (hnc : ∀ E ∈ jEX, ∀ nm ∈ jEX, E ≠ nm → va_Nc E nm s) (hlt : l.stackTraces = false) (hX : va_X b L xs s s.heap) (hbl : b < s.heap.size) (hbA : ¬ A b) (hn : 5 * n + 5 ≤ L) (hL : L ≤ 2560) (hI : Inv FC VC FM VM)
    (next : ∀ (FC : Nat → Nat → Int) (VC : Nat → Int) (FM : Nat → Nat → Int) (VM fd fo : Nat → Int) (fdd : Nat → UInt64), Inv FC VC FM VM → J p l e room_1 s m args below meth c A G 9 (37 + (n + 1)) (1592 + 6 * (n + 1)) Q (wQ G h FC VC h2 FM VM fd o fo od fdd) 1554 [(0, .ref b), (1, .ref (h 0)), (2, .ref (h2 0)), (3, .ref o), (4, .ref od), (5, .int (iI ((5 * n : Nat) : Int)))] []) : J p l e room_1 s m args below meth c A G 9 (37 + n) (1592 + 6 * n) Q (wQ G h FC VC h2 FM VM fd o fo od fdd) 1181 [(0, .ref b), (1, .ref (h 0)), (2, .ref (h2 0)), (3, .ref o), (4, .ref od), (5, .int (iI ((5 * n : Nat) : Int)))] [] := by
  have hok := okC_of hI
  obtain ⟨v0, v1, v2, v3, v4⟩ := id hI.2.1.1
  obtain ⟨m1, m2, m3, m4, m5, -⟩ := id hI.1
  have hcb := cntTo_bound (FM 14) 111 120
  have heq : (VC 4) = (VM 5) := v4
  refine jr_aload_n (pc := 1181) hh 1 dL_law_1181 rfl rfl ?_
  refine jr_callV (pc := 1182) hh [] [] (c_X3_month l G h FC VC hok) gL_law_X3_month rfl (by decide) ⟨by show 37 + n + 0 ≤ 3130; omega, by show 1592 + 6 * n + 0 ≤ 120502; omega⟩ [0, 1, 2, 3, 4, 5, 6, 7, 8, 9, 10, 11, 12, 13, 14, 15, 16, 17] [18, 19, 20, 21, 22, 23, 24, 25, 26, 27, 28, 29, 30, 31, 32, 33, 34, 35, 36] rfl rfl rfl rfl (by decide) 0 rfl rfl 0 rfl rfl (Nat.le_of_ble_eq_true rfl) (by decide +kernel) dL_law_1182 (fun rv1 w1 hw1 => ?_)
  obtain ⟨rfl, rfl⟩ := hw1
  refine jr_perm (ws' := (wQ G h FC VC h2 FM VM fd o fo od fdd)) (st := [.int (iI (VC 4))]) [19, 20, 21, 22, 23, 24, 25, 26, 27, 28, 29, 30, 31, 32, 33, 34, 35, 36, 0, 1, 2, 3, 4, 5, 6, 7, 8, 9, 10, 11, 12, 13, 14, 15, 16, 17, 18] rfl rfl ?_
  refine jr_aload_n (pc := 1185) hh 2 dL_law_1185 rfl rfl ?_
  refine jr_callV (pc := 1186) hh [] [.int (iI (VC 4))] (c_X4_month l G h2 FM VM fd) gL_law_X4_month rfl (by decide) ⟨by show 37 + n + 0 + 0 ≤ 3130; omega, by show 1592 + 6 * n + 0 + 0 ≤ 120502; omega⟩ [18, 19, 20, 21, 22, 23, 24, 25, 26, 27, 28, 29, 30, 31, 32, 33, 34] [0, 1, 2, 3, 4, 5, 6, 7, 8, 9, 10, 11, 12, 13, 14, 15, 16, 17, 35, 36] rfl rfl rfl rfl (by decide) 0 rfl rfl 0 rfl rfl (Nat.le_of_ble_eq_true rfl) (by decide +kernel) dL_law_1186 (fun rv2 w2 hw2 => ?_)
  obtain ⟨rfl, rfl⟩ := hw2
  refine jr_perm (ws' := (wQ G h FC VC h2 FM (jU VM 0 0) fd o fo od fdd)) (st := [.int (iI (VM 5)), .int (iI (VC 4))]) [0, 1, 2, 3, 4, 5, 6, 7, 8, 9, 10, 11, 12, 13, 14, 15, 16, 17, 20, 21, 22, 23, 24, 25, 26, 27, 28, 29, 30, 31, 32, 33, 34, 35, 36, 18, 19] rfl rfl ?_
  refine jr_icmp_eq (tgt := 1554) (pc := 1189) hh dL_law_1189 (by decide) ⟨by omega, by omega⟩ ⟨by omega, by omega⟩ (fun _ => ?_) (fun c9 => absurd heq c9)
  exact jr_room (by show 37 + n + 0 + 0 ≤ 37 + (n + 1); omega) (by show 1592 + 6 * n + 0 + 0 ≤ 1592 + 6 * (n + 1); omega) (next FC VC FM (jU VM 0 0) fd fo fdd (Inv_cong hI (scr_i hI) (mSc_rf FM) (fun k hk => jU_n hk)))
set_option maxHeartbeats 4000000 in
set_option maxRecDepth 100000 in
theorem k_approve {p : Program} {l : Launch} {e : Env} {s : State} {m : MethodId} {args : Array Value} {below : List Frame} {meth : Method} {c : Code} {A : Nat → Prop} {G : jG} {Q : State → Prop} {b L n : Nat} {xs : Nat → Int32} {h h2 : Nat → Nat} {o od : Nat} {FC : Nat → Nat → Int} {VC : Nat → Int} {FM : Nat → Nat → Int} {VM fd fo : Nat → Int} {fdd : Nat → UInt64}
    (hh : jOK p s m args meth c A G cL_law wsL_law RL 9) (hnc : ∀ E ∈ jEX, ∀ nm ∈ jEX, E ≠ nm → va_Nc E nm s) (hlt : l.stackTraces = false) (hX : va_X b L xs s s.heap) (hbl : b < s.heap.size) (hbA : ¬ A b) (hn : 5 * n + 5 ≤ L) (hL : L ≤ 2560) (hI : Inv FC VC FM VM)
    (next : ∀ (FC : Nat → Nat → Int) (VC : Nat → Int) (FM : Nat → Nat → Int) (VM fd fo : Nat → Int) (fdd : Nat → UInt64), Inv FC VC FM VM → J p l e room_1 s m args below meth c A G 9 (37 + (n + 1)) (1592 + 6 * (n + 1)) Q (wQ G h FC VC h2 FM VM fd o fo od fdd) 1554 [(0, .ref b), (1, .ref (h 0)), (2, .ref (h2 0)), (3, .ref o), (4, .ref od), (5, .int (iI ((5 * n : Nat) : Int)))] []) : J p l e room_1 s m args below meth c A G 9 (37 + n) (1592 + 6 * n) Q (wQ G h FC VC h2 FM VM fd o fo od fdd) 1194 [(0, .ref b), (1, .ref (h 0)), (2, .ref (h2 0)), (3, .ref o), (4, .ref od), (5, .int (iI ((5 * n : Nat) : Int)))] [] := by
  have hok := okC_of hI
  have hown := inv_own hI
  refine jr_aload_n (pc := 1194) hh 1 dL_law_1194 rfl rfl ?_
  refine jr_aload_n (pc := 1195) hh 0 dL_law_1195 rfl rfl ?_
  refine jr_iload (pc := 1196) hh 5 dL_law_1196 rfl ?_
  refine jr_iconst (pc := 1198) hh dL_law_1198 ?_
  refine jr_iadd (pc := 1199) hh dL_law_1199 ?_
  refine jr_sld (pc := 1200) hh hX hbl hbA (5 * n + 1) (by omega) (by omega) (by omega) dL_law_1200 ?_
  refine jr_aload_n (pc := 1201) hh 0 dL_law_1201 rfl rfl ?_
  refine jr_iload (pc := 1202) hh 5 dL_law_1202 rfl ?_
  refine jr_iconst (pc := 1204) hh dL_law_1204 ?_
  refine jr_iadd (pc := 1205) hh dL_law_1205 ?_
  refine jr_sld (pc := 1206) hh hX hbl hbA (5 * n + 2) (by omega) (by omega) (by omega) dL_law_1206 ?_
  refine jr_aload_n (pc := 1207) hh 0 dL_law_1207 rfl rfl ?_
  refine jr_iload (pc := 1208) hh 5 dL_law_1208 rfl ?_
  refine jr_iconst (pc := 1210) hh dL_law_1210 ?_
  refine jr_iadd (pc := 1211) hh dL_law_1211 ?_
  refine jr_sld (pc := 1212) hh hX hbl hbA (5 * n + 3) (by omega) (by omega) (by omega) dL_law_1212 ?_
  refine jr_aload_n (pc := 1213) hh 3 dL_law_1213 rfl rfl ?_
  refine jr_callSL (pc := 1214) hh hnc [.ref (h 0), .int (iI (xs (5 * n + 1)).toInt), .int (iI (xs (5 * n + 2)).toInt), .int (iI (xs (5 * n + 3)).toInt), .ref o] [] (w_approve l hlt G h FC VC o fo ((xs (5 * n + 1)).toInt) ((xs (5 * n + 2)).toInt) ((xs (5 * n + 3)).toInt) (iI_range _) (iI_range _) (iI_range _) hok) gL_law_L_approve rfl (by decide) ⟨by show 37 + n + 1 ≤ 3130; omega, by show 1592 + 6 * n + 6 ≤ 120502; omega⟩ [0, 1, 2, 3, 4, 5, 6, 7, 8, 9, 10, 11, 12, 13, 14, 15, 16, 17, 35] [18, 19, 20, 21, 22, 23, 24, 25, 26, 27, 28, 29, 30, 31, 32, 33, 34, 36] rfl rfl rfl rfl (by decide) 5 rfl rfl (Nat.le_of_ble_eq_true rfl) (by decide +kernel) dL_law_1214 (fun rv1 w1 hw1 => ?_)
  obtain ⟨rfl, FC', VC', fo', rfl, hc1, hc2⟩ := hw1
  generalize hcdC : cdApprove (VC 2) ((xs (5 * n + 1)).toInt) ((xs (5 * n + 2)).toInt) ((xs (5 * n + 3)).toInt) (enc (nmC FC 0 ((xs (5 * n + 2)).toInt).toNat 6 ((xs (5 * n + 1)).toInt).toNat)) = kC at hc1 hc2
  refine jr_perm (ws' := (wQ G h FC' VC' h2 FM VM fd o fo' od fdd)) (st := [.int (iI kC)]) [18, 19, 20, 21, 22, 23, 24, 25, 26, 27, 28, 29, 30, 31, 32, 33, 34, 35, 0, 1, 2, 3, 4, 5, 6, 7, 8, 9, 10, 11, 12, 13, 14, 15, 16, 36, 17] rfl rfl ?_
  refine jr_istore (lv' := [(6, .int (iI kC)), (0, .ref b), (1, .ref (h 0)), (2, .ref (h2 0)), (3, .ref o), (4, .ref od), (5, .int (iI ((5 * n : Nat) : Int)))]) (pc := 1217) hh dL_law_1217 (by decide) rfl ?_
  refine jr_aload_n (pc := 1219) hh 3 dL_law_1219 rfl rfl ?_
  refine jr_aload_n (pc := 1220) hh 1 dL_law_1220 rfl rfl ?_
  refine jr_iload (pc := 1221) hh 6 dL_law_1221 rfl ?_
  refine jr_iconst (pc := 1223) hh dL_law_1223 ?_
  refine jr_iadd (pc := 1224) hh dL_law_1224 ?_
  refine jr_sld (pc := 1225) hh hX hbl hbA (5 * n + 1) (by omega) (by omega) (by omega) dL_law_1225 ?_
  refine jr_aload_n (pc := 1226) hh 1 dL_law_1226 rfl rfl ?_
  refine jr_iload (pc := 1227) hh 6 dL_law_1227 rfl ?_
  refine jr_iconst (pc := 1229) hh dL_law_1229 ?_
  refine jr_iadd (pc := 1230) hh dL_law_1230 ?_
  refine jr_sld (pc := 1231) hh hX hbl hbA (5 * n + 2) (by omega) (by omega) (by omega) dL_law_1231 ?_
  refine jr_aload_n (pc := 1232) hh 1 dL_law_1232 rfl rfl ?_
  refine jr_iload (pc := 1233) hh 6 dL_law_1233 rfl ?_
  refine jr_iconst (pc := 1235) hh dL_law_1235 ?_
  refine jr_iadd (pc := 1236) hh dL_law_1236 ?_
  refine jr_sld (pc := 1237) hh hX hbl hbA (5 * n + 3) (by omega) (by omega) (by omega) dL_law_1237 ?_
  refine jr_callV (pc := 1238) hh [.int (iI (xs (5 * n + 1)).toInt), .int (iI (xs (5 * n + 2)).toInt), .int (iI (xs (5 * n + 3)).toInt)] [] (c_X4_approve l G h2 FM VM fd ((xs (5 * n + 1)).toInt) ((xs (5 * n + 2)).toInt) ((xs (5 * n + 3)).toInt) (iI_range _) (iI_range _) (iI_range _) hI.1) gL_law_X4_approve rfl (by decide) ⟨by show 37 + n + 1 + 0 ≤ 3130; omega, by show 1592 + 6 * n + 6 + 0 ≤ 120502; omega⟩ [18, 19, 20, 21, 22, 23, 24, 25, 26, 27, 28, 29, 30, 31, 32, 33, 34] [0, 1, 2, 3, 4, 5, 6, 7, 8, 9, 10, 11, 12, 13, 14, 15, 16, 17, 35, 36] rfl rfl rfl rfl (by decide) 0 rfl rfl 3 rfl rfl (Nat.le_of_ble_eq_true rfl) (by decide +kernel) dL_law_1238 (fun rv2 w2 hw2 => ?_)
  obtain ⟨v, FM', VM', fd', rfl, rfl, hm1, hm2⟩ := hw2
  rw [← hcdC] at hc1 hc2
  have hop := op_approve hI hc1 hc2 hm1 hm2
  rw [hcdC] at hop
  obtain ⟨h0, hkr, hval, hI2⟩ := hop
  refine jr_perm (ws' := (wQ G h FC' VC' h2 FM' VM' fd' o fo' od fdd)) (st := [.int (iI v)]) [0, 1, 2, 3, 4, 5, 6, 7, 8, 9, 10, 11, 12, 13, 14, 15, 16, 17, 20, 21, 22, 23, 24, 25, 26, 27, 28, 29, 30, 31, 32, 33, 34, 35, 36, 18, 19] rfl rfl ?_
  refine jr_istore (lv' := [(7, .int (iI v)), (6, .int (iI kC)), (0, .ref b), (1, .ref (h 0)), (2, .ref (h2 0)), (3, .ref o), (4, .ref od), (5, .int (iI ((5 * n : Nat) : Int)))]) (pc := 1241) hh dL_law_1241 (by decide) rfl ?_
  refine jr_aload_n (pc := 1243) hh 4 dL_law_1243 rfl rfl ?_
  refine jr_callV (pc := 1244) hh [] [] (c_X4_thrown l G h2 FM' VM' fd') gL_law_X4_thrown rfl (by decide) ⟨by show 37 + n + 1 + 0 + 0 ≤ 3130; omega, by show 1592 + 6 * n + 6 + 0 + 0 ≤ 120502; omega⟩ [18, 19, 20, 21, 22, 23, 24, 25, 26, 27, 28, 29, 30, 31, 32, 33, 34] [0, 1, 2, 3, 4, 5, 6, 7, 8, 9, 10, 11, 12, 13, 14, 15, 16, 17, 35, 36] rfl rfl rfl rfl (by decide) 0 rfl rfl 0 rfl rfl (Nat.le_of_ble_eq_true rfl) (by decide +kernel) dL_law_1244 (fun rv3 w3 hw3 => ?_)
  obtain ⟨rfl, rfl⟩ := hw3
  refine jr_perm (ws' := (wQ G h FC' VC' h2 FM' VM' fd' o fo' od fdd)) (st := [.int (iI (VM' 0))]) [0, 1, 2, 3, 4, 5, 6, 7, 8, 9, 10, 11, 12, 13, 14, 15, 16, 17, 20, 21, 22, 23, 24, 25, 26, 27, 28, 29, 30, 31, 32, 33, 34, 35, 36, 18, 19] rfl rfl ?_
  refine jr_topi (b := kC) h0 ?_
  refine jr_iload (pc := 1247) hh 1 dL_law_1247 rfl ?_
  refine jr_icmp_eq (tgt := 1254) (pc := 1249) hh dL_law_1249 (by decide) ⟨by omega, by omega⟩ ⟨by omega, by omega⟩ (fun _ => ?_) (fun c9 => absurd rfl c9)
  refine jr_iload (pc := 1254) hh 1 dL_law_1254 rfl ?_
  refine jr_if_ne (tgt := 1271) (pc := 1256) hh dL_law_1256 (by decide) ⟨by omega, by omega⟩ (fun _ => ?_) (fun c9 => ?_)
  · skip
    refine jr_goto (tgt := 1554) (pc := 1271) hh dL_law_1271 (by decide) ?_
    refine jr_loc (lv' := [(0, .ref b), (1, .ref (h 0)), (2, .ref (h2 0)), (3, .ref o), (4, .ref od), (5, .int (iI ((5 * n : Nat) : Int)))]) [2, 3, 4, 5, 6, 7] rfl ?_
    exact jr_room (by show 37 + n + 1 + 0 + 0 ≤ 37 + (n + 1); omega) (by show 1592 + 6 * n + 6 + 0 + 0 ≤ 1592 + 6 * (n + 1); omega) (next FC' VC' FM' VM' fd' fo' fdd hI2)
  · skip
    obtain ⟨hv1, hv2⟩ := hval c9
    have hv3 := hv2.1
    have hv4 := hv2.2
    refine jr_aload_n (pc := 1259) hh 5 dL_law_1259 rfl rfl ?_
    refine jr_iconst (pc := 1260) hh dL_law_1260 ?_
    refine jr_lald (F := fo') (pc := 1261) hh 35 rfl 0 rfl (by decide) (by decide) dL_law_1261 ?_
    refine jr_iload (pc := 1262) hh 0 dL_law_1262 rfl ?_
    refine jr_i2l (pc := 1264) hh dL_law_1264 ⟨hv3, hv4⟩ ?_
    refine jr_lcmp_eq (tgt := 1271) (pc := 1265) hh dL_law_1265 dL_law_1266 (by decide) ⟨by omega, by omega⟩ ⟨by omega, by omega⟩ (fun _ => ?_) (fun c8 => absurd hv1 c8)
    refine jr_goto (tgt := 1554) (pc := 1271) hh dL_law_1271 (by decide) ?_
    refine jr_loc (lv' := [(0, .ref b), (1, .ref (h 0)), (2, .ref (h2 0)), (3, .ref o), (4, .ref od), (5, .int (iI ((5 * n : Nat) : Int)))]) [2, 3, 4, 5, 6, 7] rfl ?_
    exact jr_room (by show 37 + n + 1 + 0 + 0 ≤ 37 + (n + 1); omega) (by show 1592 + 6 * n + 6 + 0 + 0 ≤ 1592 + 6 * (n + 1); omega) (next FC' VC' FM' VM' fd' fo' fdd hI2)
