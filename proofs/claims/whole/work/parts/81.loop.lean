/-! the law's loop and its start -/
set_option maxHeartbeats 4000000 in
set_option maxRecDepth 100000 in
theorem law_loop {p : Program} {l : Launch} {e : Env} {s : State} {m : MethodId} {args : Array Value} {below : List Frame} {meth : Method} {c : Code} {A : Nat → Prop} {G : jG} {Q : State → Prop} {b L : Nat} {xs : Nat → Int32} {h h2 : Nat → Nat} {o od : Nat}
    (hh : jOK p s m args meth c A G cL_law wsL_law RL 9) (hnc : ∀ E ∈ jEX, ∀ nm ∈ jEX, E ≠ nm → va_Nc E nm s) (hlt : l.stackTraces = false) (hX : va_X b L xs s s.heap) (hbl : b < s.heap.size) (hbA : ¬ A b) (hL : L ≤ 2560)
    (hend : ∀ (ws : va_W) (lv : List (Nat × Value)) (cells slots : Nat), cells ≤ 3130 → slots ≤ 120502 → J p l e room_1 s m args below meth c A G 9 cells slots Q ws 1561 lv [.int (iI 1)]) :
    ∀ (k n : Nat), 5 * n ≤ L → L < 5 * n + 5 * k → ∀ (FC : Nat → Nat → Int) (VC : Nat → Int) (FM : Nat → Nat → Int) (VM fd fo : Nat → Int) (fdd : Nat → UInt64), Inv FC VC FM VM → J p l e room_1 s m args below meth c A G 9 (37 + n) (1592 + 6 * n) Q (wQ G h FC VC h2 FM VM fd o fo od fdd) 28 [(0, .ref b), (1, .ref (h 0)), (2, .ref (h2 0)), (3, .ref o), (4, .ref od), (5, .int (iI ((5 * n : Nat) : Int)))] [] := by
  intro k
  induction k with
  | zero => intro n h1 h3; exact absurd h3 (by omega)
  | succ k ih =>
    intro n h1 h3 FC VC FM VM fd fo fdd hI
    refine jr_iload (pc := 28) hh 5 dL_law_28 rfl ?_
    refine jr_aload_n (pc := 30) hh 0 dL_law_30 rfl rfl ?_
    refine jr_slen (pc := 31) hh hX hbl hbA dL_law_31 ?_
    refine jr_iconst (pc := 32) hh dL_law_32 ?_
    refine jr_isub (pc := 33) hh dL_law_33 ?_
    refine jr_icmp_gt (tgt := 1560) (pc := 34) hh dL_law_34 (by decide) ⟨by omega, by omega⟩ ⟨by omega, by omega⟩ (fun c1 => ?_) (fun c1 => ?_)
    · refine jr_iconst (pc := 1560) hh dL_law_1560 ?_
      exact hend _ _ _ _ (by omega) (by omega)
    · have hn : 5 * n + 5 ≤ L := by omega
      have next : ∀ (FC : Nat → Nat → Int) (VC : Nat → Int) (FM : Nat → Nat → Int) (VM fd fo : Nat → Int) (fdd : Nat → UInt64), Inv FC VC FM VM → J p l e room_1 s m args below meth c A G 9 (37 + (n + 1)) (1592 + 6 * (n + 1)) Q (wQ G h FC VC h2 FM VM fd o fo od fdd) 1554 [(0, .ref b), (1, .ref (h 0)), (2, .ref (h2 0)), (3, .ref o), (4, .ref od), (5, .int (iI ((5 * n : Nat) : Int)))] [] := by
        intro FC VC FM VM fd fo fdd hI
        refine jr_iinc (pc := 1554) (a := ((5 * n : Nat) : Int)) (b := ((5 * (n + 1) : Nat) : Int)) (lv' := [(5, .int (iI ((5 * (n + 1) : Nat) : Int))), (0, .ref b), (1, .ref (h 0)), (2, .ref (h2 0)), (3, .ref o), (4, .ref od)]) hh 5 dL_law_1554 rfl (by omega) (by decide) rfl ?_
        refine jr_goto (tgt := 28) (pc := 1557) hh dL_law_1557 (by decide) ?_
        refine jr_loc (lv' := [(0, .ref b), (1, .ref (h 0)), (2, .ref (h2 0)), (3, .ref o), (4, .ref od), (5, .int (iI ((5 * (n + 1) : Nat) : Int)))]) [1, 2, 3, 4, 5, 0] rfl ?_
        exact ih (n + 1) (by omega) (by omega) FC VC FM VM fd fo fdd hI
      refine jr_aload_n (pc := 37) hh 0 dL_law_37 rfl rfl ?_
      refine jr_iload (pc := 38) hh 5 dL_law_38 rfl ?_
      refine jr_sld (pc := 40) hh hX hbl hbA (5 * n) rfl (by omega) (by omega) dL_law_40 ?_
      refine jr_bipush (pc := 41) hh dL_law_41 (by decide) ?_
      refine jr_iand (pc := 43) hh dL_law_43 (fun w hw => ?_)
      rcases (show w = 0 ∨ w = 1 ∨ w = 2 ∨ w = 3 ∨ w = 4 ∨ w = 5 ∨ w = 6 ∨ w = 7 ∨ w = 8 ∨ w = 9 ∨ w = 10 ∨ w = 11 ∨ w = 12 ∨ w = 13 ∨ w = 14 ∨ w = 15 ∨ w = 16 ∨ w = 17 ∨ w = 18 ∨ w = 19 ∨ w = 20 ∨ (w < 0 ∨ 20 < w) by omega) with rfl | rfl | rfl | rfl | rfl | rfl | rfl | rfl | rfl | rfl | rfl | rfl | rfl | rfl | rfl | rfl | rfl | rfl | rfl | rfl | rfl | hw2
      · refine jr_tableIn (tgt := 144) (pc := 44) hh dL_law_44 hw (by decide) (by decide) rfl (by decide) ?_
        exact k_addDriver hh hnc hlt hX hbl hbA hn hL hI next
      · refine jr_tableIn (tgt := 200) (pc := 44) hh dL_law_44 hw (by decide) (by decide) rfl (by decide) ?_
        exact k_setDriver hh hnc hlt hX hbl hbA hn hL hI next
      · refine jr_tableIn (tgt := 268) (pc := 44) hh dL_law_44 hw (by decide) (by decide) rfl (by decide) ?_
        exact k_driver hh hnc hlt hX hbl hbA hn hL hI next
      · refine jr_tableIn (tgt := 348) (pc := 44) hh dL_law_44 hw (by decide) (by decide) rfl (by decide) ?_
        exact k_addLine hh hnc hlt hX hbl hbA hn hL hI next
      · refine jr_tableIn (tgt := 430) (pc := 44) hh dL_law_44 hw (by decide) (by decide) rfl (by decide) ?_
        exact k_addScenario hh hnc hlt hX hbl hbA hn hL hI next
      · refine jr_tableIn (tgt := 486) (pc := 44) hh dL_law_44 hw (by decide) (by decide) rfl (by decide) ?_
        exact k_differ hh hnc hlt hX hbl hbA hn hL hI next
      · refine jr_tableIn (tgt := 578) (pc := 44) hh dL_law_44 hw (by decide) (by decide) rfl (by decide) ?_
        exact k_number hh hnc hlt hX hbl hbA hn hL hI next
      · refine jr_tableIn (tgt := 658) (pc := 44) hh dL_law_44 hw (by decide) (by decide) rfl (by decide) ?_
        exact k_numberByHand hh hnc hlt hX hbl hbA hn hL hI next
      · refine jr_tableIn (tgt := 738) (pc := 44) hh dL_law_44 hw (by decide) (by decide) rfl (by decide) ?_
        exact k_year hh hnc hlt hX hbl hbA hn hL hI next
      · refine jr_tableIn (tgt := 805) (pc := 44) hh dL_law_44 hw (by decide) (by decide) rfl (by decide) ?_
        exact k_effect hh hnc hlt hX hbl hbA hn hL hI next
      · refine jr_tableIn (tgt := 897) (pc := 44) hh dL_law_44 hw (by decide) (by decide) rfl (by decide) ?_
        exact k_seek hh hnc hlt hX hbl hbA hn hL hI next
      · refine jr_tableIn (tgt := 989) (pc := 44) hh dL_law_44 hw (by decide) (by decide) rfl (by decide) ?_
        exact k_actual hh hnc hlt hX hbl hbA hn hL hI next
      · refine jr_tableIn (tgt := 1069) (pc := 44) hh dL_law_44 hw (by decide) (by decide) rfl (by decide) ?_
        exact k_takeActual hh hnc hlt hX hbl hbA hn hL hI next
      · refine jr_tableIn (tgt := 1137) (pc := 44) hh dL_law_44 hw (by decide) (by decide) rfl (by decide) ?_
        exact k_pass hh hnc hlt hX hbl hbA hn hL hI next
      · refine jr_tableIn (tgt := 1181) (pc := 44) hh dL_law_44 hw (by decide) (by decide) rfl (by decide) ?_
        exact k_month hh hnc hlt hX hbl hbA hn hL hI next
      · refine jr_tableIn (tgt := 1194) (pc := 44) hh dL_law_44 hw (by decide) (by decide) rfl (by decide) ?_
        exact k_approve hh hnc hlt hX hbl hbA hn hL hI next
      · refine jr_tableIn (tgt := 1274) (pc := 44) hh dL_law_44 hw (by decide) (by decide) rfl (by decide) ?_
        exact k_state hh hnc hlt hX hbl hbA hn hL hI next
      · refine jr_tableIn (tgt := 1342) (pc := 44) hh dL_law_44 hw (by decide) (by decide) rfl (by decide) ?_
        exact k_drift hh hnc hlt hX hbl hbA hn hL hI next
      · refine jr_tableIn (tgt := 1410) (pc := 44) hh dL_law_44 hw (by decide) (by decide) rfl (by decide) ?_
        exact k_open hh hnc hlt hX hbl hbA hn hL hI next
      · refine jr_tableIn (tgt := 1423) (pc := 44) hh dL_law_44 hw (by decide) (by decide) rfl (by decide) ?_
        exact k_approvedShare hh hnc hlt hX hbl hbA hn hL hI next
      · refine jr_tableIn (tgt := 1489) (pc := 44) hh dL_law_44 hw (by decide) (by decide) rfl (by decide) ?_
        exact k_meanTolerance hh hnc hlt hX hbl hbA hn hL hI next
      · refine jr_tableOut (tgt := 1554) (pc := 44) hh dL_law_44 hw hw2 (by decide) ?_
        exact jr_room (by omega) (by omega) (next FC VC FM VM fd fo fdd hI)
set_option maxHeartbeats 4000000 in
set_option maxRecDepth 100000 in
theorem law_open {p : Program} {l : Launch} {e : Env} {s : State} {m : MethodId} {args : Array Value} {below : List Frame} {meth : Method} {c : Code} {A : Nat → Prop} {G : jG} {Q : State → Prop} {b L : Nat} {xs : Nat → Int32}
    (hh : jOK p s m args meth c A G cL_law wsL_law RL 9) (hnc : ∀ E ∈ jEX, ∀ nm ∈ jEX, E ≠ nm → va_Nc E nm s) (hlt : l.stackTraces = false) (hX : va_X b L xs s s.heap) (hbl : b < s.heap.size) (hbA : ¬ A b) (hL : L ≤ 2560)
    (hend : ∀ (ws : va_W) (lv : List (Nat × Value)) (cells slots : Nat), cells ≤ 3130 → slots ≤ 120502 → J p l e room_1 s m args below meth c A G 9 cells slots Q ws 1561 lv [.int (iI 1)]) : J p l e room_1 s m args below meth c A G 9 0 0 Q [] 0 [(0, .ref b)] [] := by
  refine jr_new (pc := 0) hh inlX3 tyX3_ok (by decide +kernel : Cond.classLink RL 8 RX3 ∈ wsL_law) (by decide +kernel : Cond.instantiable RX3 7 ∈ wsL_law) (by decide +kernel : Cond.initialized RX3 ∈ wsL_law) (ci := 5) rfl [.null, .null, .null, .null, .null, .int (iI 0), .int (iI 0)] (fun j hj => match j, hj with | 0, _ => rfl | 1, _ => rfl | 2, _ => rfl | 3, _ => rfl | 4, _ => rfl | 5, _ => rfl | 6, _ => rfl) (Nat.le_of_ble_eq_true rfl) (Nat.le_of_ble_eq_true rfl) dL_law_0 (fun q1 => ?_)
  refine jr_dup (pc := 3) hh dL_law_3 rfl ?_
  refine jr_callI (C := RX3) (pc := 4) hh [] [.ref q1] (c_X3_init l G q1) gL_law_X3_init rfl (by decide +kernel : Cond.methodLink RL 88 yX3_init ∈ wsL_law) (by decide +kernel : Cond.instanceMethod yX3_init ∈ wsL_law) (by decide +kernel : Cond.initialized yX3_init.cls ∈ wsL_law) rfl (by decide) (by decide) [0] [] rfl rfl rfl rfl (by decide) 0 rfl rfl (Nat.le_of_ble_eq_true rfl) (by decide +kernel) dL_law_4 (fun rv1 w1 hw1 => ?_)
  obtain ⟨rfl, h, rfl, rfl⟩ := hw1
  refine jr_ws (ws' := wC G h FC0 VC0) rfl ?_
  refine jr_astore_n (lv' := [(1, .ref (h 0)), (0, .ref b)]) (pc := 7) hh dL_law_7 rfl (by decide) rfl ?_
  refine jr_new (pc := 8) hh inlX4 tyX4_ok (by decide +kernel : Cond.classLink RL 89 RX4 ∈ wsL_law) (by decide +kernel : Cond.instantiable RX4 22 ∈ wsL_law) (by decide +kernel : Cond.initialized RX4 ∈ wsL_law) (ci := 6) rfl [.null, .null, .null, .null, .null, .null, .null, .null, .null, .null, .null, .null, .null, .null, .null, .null, .int (iI 0), .int (iI 0), .int (iI 0), .int (iI 0), .int (iI 0), .int (iI 0)] (fun j hj => match j, hj with | 0, _ => rfl | 1, _ => rfl | 2, _ => rfl | 3, _ => rfl | 4, _ => rfl | 5, _ => rfl | 6, _ => rfl | 7, _ => rfl | 8, _ => rfl | 9, _ => rfl | 10, _ => rfl | 11, _ => rfl | 12, _ => rfl | 13, _ => rfl | 14, _ => rfl | 15, _ => rfl | 16, _ => rfl | 17, _ => rfl | 18, _ => rfl | 19, _ => rfl | 20, _ => rfl | 21, _ => rfl | k9 + 22, hj9 => absurd hj9 (by omega)) (Nat.le_of_ble_eq_true rfl) (Nat.le_of_ble_eq_true rfl) dL_law_8 (fun q2 => ?_)
  refine jr_dup (pc := 11) hh dL_law_11 rfl ?_
  refine jr_callI (C := RX4) (pc := 12) hh [] [.ref q2] (c_X4_init l G q2) gL_law_X4_init rfl (by decide +kernel : Cond.methodLink RL 91 yX4_init ∈ wsL_law) (by decide +kernel : Cond.instanceMethod yX4_init ∈ wsL_law) (by decide +kernel : Cond.initialized yX4_init.cls ∈ wsL_law) rfl (by decide) (by decide) [18] [0, 1, 2, 3, 4, 5, 6, 7, 8, 9, 10, 11, 12, 13, 14, 15, 16, 17] rfl rfl rfl rfl (by decide) 0 rfl rfl (Nat.le_of_ble_eq_true rfl) (by decide +kernel) dL_law_12 (fun rv2 w2 hw2 => ?_)
  obtain ⟨rfl, h2, rfl, rfl⟩ := hw2
  refine jr_ws (ws' := wC G h FC0 VC0 ++ wM G h2 FM0 VM0 zz) rfl ?_
  refine jr_astore_n (lv' := [(2, .ref (h2 0)), (1, .ref (h 0)), (0, .ref b)]) (pc := 15) hh dL_law_15 rfl (by decide) rfl ?_
  refine jr_iconst (pc := 16) hh dL_law_16 ?_
  refine jr_newa (pc := 17) hh rfl (by decide +kernel : Cond.arrayClass (newarray.typeOf .long) ∈ wsL_law) 2 rfl (fun _ _ h9 => h9) 1 rfl (by decide) (.inr (.inl (jL zz))) (fun _ => rfl) (by decide) (Nat.le_of_ble_eq_true rfl) (Nat.le_of_ble_eq_true rfl) dL_law_17 (fun o => ?_)
  refine jr_astore_n (lv' := [(3, .ref o), (2, .ref (h2 0)), (1, .ref (h 0)), (0, .ref b)]) (pc := 19) hh dL_law_19 rfl (by decide) rfl ?_
  refine jr_iconst (pc := 20) hh dL_law_20 ?_
  refine jr_newa (pc := 21) hh rfl (by decide +kernel : Cond.arrayClass (newarray.typeOf .double) ∈ wsL_law) 4 rfl (fun _ _ h9 => h9) 1 rfl (by decide) (.inr (.inr (.inr (.inl (fun _ => 0))))) (fun _ => rfl) (by decide) (Nat.le_of_ble_eq_true rfl) (Nat.le_of_ble_eq_true rfl) dL_law_21 (fun od => ?_)
  refine jr_astore (lv' := [(4, .ref od), (3, .ref o), (2, .ref (h2 0)), (1, .ref (h 0)), (0, .ref b)]) (pc := 23) hh dL_law_23 (by decide) rfl ?_
  refine jr_iconst (pc := 25) hh dL_law_25 ?_
  refine jr_istore (lv' := [(5, .int (iI 0)), (4, .ref od), (3, .ref o), (2, .ref (h2 0)), (1, .ref (h 0)), (0, .ref b)]) (pc := 26) hh dL_law_26 (by decide) rfl ?_
  refine jr_ws (ws' := wQ G h FC0 VC0 h2 FM0 VM0 zz o zz od (fun _ => 0)) rfl ?_
  refine jr_loc (lv' := [(0, .ref b), (1, .ref (h 0)), (2, .ref (h2 0)), (3, .ref o), (4, .ref od), (5, .int (iI ((5 * 0 : Nat) : Int)))]) [5, 4, 3, 2, 1, 0] rfl ?_
  exact jr_room (k2 := 37 + 0) (n2 := 1592 + 6 * 0) (Nat.le_of_ble_eq_true rfl) (Nat.le_of_ble_eq_true rfl) (law_loop hh hnc hlt hX hbl hbA hL hend (L + 1) 0 (by omega) (by omega) FC0 VC0 FM0 VM0 zz zz (fun _ => 0) Inv_0)
