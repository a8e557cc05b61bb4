/-! the law's own methods, the rest -/
set_option maxHeartbeats 4000000 in
set_option maxRecDepth 100000 in
theorem w_driver (l : Launch) (hlt : l.stackTraces = false) (G : jG) (h : Nat → Nat) (F : Nat → Nat → Int) (V : Nat → Int) (o : Nat) (fo : Nat → Int) (sc d t : Int) (hrsc : jR sc) (hrd : jR d) (hrt : jR t) (hk : okC F V) : jMetL l yL_driver wsL_driver { frames := 14, cells := 1, slots := 6, locals := 4000 } G (wO G h F V o fo) [.ref (h 0), .int (iI sc), .int (iI d), .int (iI t), .ref o] (fun rv w1 => rv = some (.int (iI (cdDriver (V 0) (V 3) sc d t))) ∧ ∃ (F' : Nat → Nat → Int) (V' : Nat → Int) (fo' : Nat → Int), w1 = wO G h F' V' o fo' ∧ (cdDriver (V 0) (V 3) sc d t ≠ 0 → scr F F' ∧ V' = V) ∧ (cdDriver (V 0) (V 3) sc d t = 0 → fo' 0 = valC F sc.toNat d.toNat t.toNat ∧ F' = F ∧ V' = V)) := by
  refine jMetL_of (cc := cL_driver) (maxL := 6) (ret := (some .int)) (hs := [(0, 12, 15, 21)]) (by decide +kernel) rfl (Nat.le_of_ble_eq_true rfl) ?_
  intro p e s m args below meth c A hh hret htab hnc
  obtain ⟨hV0, hV1, hV2, hV3, hV4, -⟩ := id hk
  have hrsc1 := hrsc.1
  have hrsc2 := hrsc.2
  have hrd1 := hrd.1
  have hrd2 := hrd.2
  have hrt1 := hrt.1
  have hrt2 := hrt.2
  refine jr_loc (lv' := [(0, .ref (h 0)), (1, .int (iI sc)), (2, .int (iI d)), (3, .int (iI t)), (4, .ref o)]) [0, 1, 2, 3, 4] rfl ?_
  by_cases hcd : cdDriver (V 0) (V 3) sc d t = 0
  · skip
    have hcd2 := hcd
    unfold cdDriver at hcd2
    obtain ⟨scN, rfl⟩ : ∃ k : Nat, sc = (k : Int) := ⟨sc.toNat, by omega⟩
    obtain ⟨dN, rfl⟩ : ∃ k : Nat, d = (k : Int) := ⟨d.toNat, by omega⟩
    obtain ⟨tN, rfl⟩ : ∃ k : Nat, t = (k : Int) := ⟨t.toNat, by omega⟩
    try simp only [Int.toNat_natCast] at hcd2
    have hvB := valC_B hk (s := scN) (d := dN) (m := tN) (by omega) (by omega) (by omega)
    refine jr_aload (pc := 0) hh 4 dL_driver_0 rfl ?_
    refine jr_iconst (pc := 2) hh dL_driver_2 ?_
    refine jr_aload_n (pc := 3) hh 0 dL_driver_3 rfl rfl ?_
    refine jr_iload_n (pc := 4) hh 1 dL_driver_4 rfl rfl ?_
    refine jr_iload_n (pc := 5) hh 2 dL_driver_5 rfl rfl ?_
    refine jr_iload_n (pc := 6) hh 3 dL_driver_6 rfl rfl ?_
    refine jr_callV (pc := 7) hh [.int (iI (scN : Int)), .int (iI (dN : Int)), .int (iI (tN : Int))] [.int (iI 0), .ref o] (c_X3_driver l G h F V scN dN tN hk (by omega) (by omega) (by omega)) gL_driver_X3_driver rfl (by decide) (by decide) [0, 1, 2, 3, 4, 5, 6, 7, 8, 9, 10, 11, 12, 13, 14, 15, 16, 17] [18] rfl rfl rfl rfl (by decide) 0 rfl rfl 3 rfl rfl (Nat.le_of_ble_eq_true rfl) (by decide +kernel) dL_driver_7 (fun rv1 w1 h1 => ?_)
    obtain ⟨rfl, rfl⟩ := h1
    refine jr_perm (ws' := wO G h F V o fo) (st := [.int (iI (valC F scN dN tN)), .int (iI 0), .ref o]) [1, 2, 3, 4, 5, 6, 7, 8, 9, 10, 11, 12, 13, 14, 15, 16, 17, 18, 0] rfl rfl ?_
    refine jr_i2l (pc := 10) hh dL_driver_10 ⟨by omega, by omega⟩ ?_
    refine jr_last (F := fo) (ws' := wO G h F V o (jU fo 0 (valC F scN dN tN))) (pc := 11) hh 18 rfl 0 rfl (by decide) (by decide) rfl dL_driver_11 ?_
    refine jr_goto (tgt := 19) (pc := 12) hh dL_driver_12 (by decide) ?_
    refine jr_iconst (pc := 19) hh dL_driver_19 ?_
    exact jr_iret (pc := 20) hh hret rfl ⟨jsi hcd.symm, _, _, _, rfl, fun q => absurd hcd q, fun _ => ⟨rfl, rfl, rfl⟩⟩ (by decide) (by decide) dL_driver_20
  · skip
    refine jr_aload (pc := 0) hh 4 dL_driver_0 rfl ?_
    refine jr_iconst (pc := 2) hh dL_driver_2 ?_
    refine jr_aload_n (pc := 3) hh 0 dL_driver_3 rfl rfl ?_
    refine jr_iload_n (pc := 4) hh 1 dL_driver_4 rfl rfl ?_
    refine jr_iload_n (pc := 5) hh 2 dL_driver_5 rfl rfl ?_
    refine jr_iload_n (pc := 6) hh 3 dL_driver_6 rfl rfl ?_
    refine jr_ccallV (pc := 7) hh [.int (iI sc), .int (iI d), .int (iI t)] [.int (iI 0), .ref o] (t_X3_driver l G h F V sc d t hrsc hrd hrt hk hcd hlt) gL_driver_X3_driver rfl (by decide) (by decide) [0, 1, 2, 3, 4, 5, 6, 7, 8, 9, 10, 11, 12, 13, 14, 15, 16, 17] [18] rfl rfl rfl rfl (by decide) 0 rfl rfl 3 rfl rfl (Nat.le_of_ble_eq_true rfl) (by decide +kernel) dL_driver_7 (fun E w1 h1 => ?_)
    obtain ⟨h1, rfl⟩ := h1
    obtain ⟨hk1, rfl⟩ := h1
    · skip
      refine ⟨"java/lang/IndexOutOfBoundsException", [], ⟨0, 12, 15, 21⟩, [], htab.trans rfl, (fun z hz => absurd hz List.not_mem_nil), by decide, by decide, jts hh _ (by decide +kernel : Cond.classLink RL 21 "java/lang/IndexOutOfBoundsException" ∈ wsL_driver), va_Nw.use rfl ((jnn hh).2.2.1.1 "java/lang/IndexOutOfBoundsException" (by decide)), fun q => ?_⟩
      refine jr_ws (ws' := [(o, .inl (G.2 2, 1, .inr (.inl (jL fo))))] ++ wC G h F V) rfl ?_
      refine jr_perm (ws' := wO G h F V o fo) [1, 2, 3, 4, 5, 6, 7, 8, 9, 10, 11, 12, 13, 14, 15, 16, 17, 18, 0] rfl rfl ?_
      refine jr_astore (lv' := [(5, .ref q), (0, .ref (h 0)), (1, .int (iI sc)), (2, .int (iI d)), (3, .int (iI t)), (4, .ref o)]) (pc := 15) hh dL_driver_15 (by decide) rfl ?_
      refine jr_iconst (pc := 17) hh dL_driver_17 ?_
      exact jr_iret (pc := 18) hh hret rfl ⟨jsi hk1.symm, _, _, _, rfl, fun _ => ⟨scr_rf hk, rfl⟩, fun q => absurd q hcd⟩ (by decide) (by decide) dL_driver_18
set_option maxHeartbeats 4000000 in
set_option maxRecDepth 100000 in
theorem w_addLine (l : Launch) (hlt : l.stackTraces = false) (G : jG) (h : Nat → Nat) (F : Nat → Nat → Int) (V : Nat → Int) (o : Nat) (fo : Nat → Int) (kd on ot : Int) (hrkd : jR kd) (hron : jR on) (hrot : jR ot) (hk : okC F V) (hkd : 0 ≤ kd ∧ kd ≤ 65535) : jMetL l yL_addLine wsL_addLine { frames := 14, cells := 1, slots := 6, locals := 4000 } G (wO G h F V o fo) [.ref (h 0), .int (iI kd), .int (iI on), .int (iI ot), .ref o] (fun rv w1 => rv = some (.int (iI (cdAddLine (V 3) (V 2) kd on ot))) ∧ ∃ (F' : Nat → Nat → Int) (V' : Nat → Int) (fo' : Nat → Int), w1 = wO G h F' V' o fo' ∧ (cdAddLine (V 3) (V 2) kd on ot ≠ 0 → scr F F' ∧ V' = V) ∧ (cdAddLine (V 3) (V 2) kd on ot = 0 → fo' 0 = V 2 ∧ F' = (uF (uF (uF F 5 (jU (F 5) (V 2).toNat kd)) 6 (jU (F 6) (V 2).toNat on)) 7 (jU (F 7) (V 2).toNat ot)) ∧ V' = jU V 2 (V 2 + 1))) := by
  refine jMetL_of (cc := cL_addLine) (maxL := 6) (ret := (some .int)) (hs := [(0, 12, 15, 13), (0, 12, 19, 21), (0, 12, 23, 15)]) (by decide +kernel) rfl (Nat.le_of_ble_eq_true rfl) ?_
  intro p e s m args below meth c A hh hret htab hnc
  obtain ⟨hV0, hV1, hV2, hV3, hV4, -⟩ := id hk
  have hrkd1 := hrkd.1
  have hrkd2 := hrkd.2
  have hron1 := hron.1
  have hron2 := hron.2
  have hrot1 := hrot.1
  have hrot2 := hrot.2
  refine jr_loc (lv' := [(0, .ref (h 0)), (1, .int (iI kd)), (2, .int (iI on)), (3, .int (iI ot)), (4, .ref o)]) [0, 1, 2, 3, 4] rfl ?_
  by_cases hcd : cdAddLine (V 3) (V 2) kd on ot = 0
  · skip
    have hcd2 := hcd
    unfold cdAddLine at hcd2
    refine jr_aload (pc := 0) hh 4 dL_addLine_0 rfl ?_
    refine jr_iconst (pc := 2) hh dL_addLine_2 ?_
    refine jr_aload_n (pc := 3) hh 0 dL_addLine_3 rfl rfl ?_
    refine jr_iload_n (pc := 4) hh 1 dL_addLine_4 rfl rfl ?_
    refine jr_iload_n (pc := 5) hh 2 dL_addLine_5 rfl rfl ?_
    refine jr_iload_n (pc := 6) hh 3 dL_addLine_6 rfl rfl ?_
    refine jr_callV (pc := 7) hh [.int (iI kd), .int (iI on), .int (iI ot)] [.int (iI 0), .ref o] (c_X3_addLine l G h F V kd on ot hk hkd hcd) gL_addLine_X3_addLine rfl (by decide) (by decide) [0, 1, 2, 3, 4, 5, 6, 7, 8, 9, 10, 11, 12, 13, 14, 15, 16, 17] [18] rfl rfl rfl rfl (by decide) 0 rfl rfl 3 rfl rfl (Nat.le_of_ble_eq_true rfl) (by decide +kernel) dL_addLine_7 (fun rv1 w1 h1 => ?_)
    obtain ⟨rfl, rfl⟩ := h1
    refine jr_perm (ws' := wO G h (uF (uF (uF F 5 (jU (F 5) (V 2).toNat kd)) 6 (jU (F 6) (V 2).toNat on)) 7 (jU (F 7) (V 2).toNat ot)) (jU V 2 (V 2 + 1)) o fo) (st := [.int (iI (V 2)), .int (iI 0), .ref o]) [1, 2, 3, 4, 5, 6, 7, 8, 9, 10, 11, 12, 13, 14, 15, 16, 17, 18, 0] rfl rfl ?_
    refine jr_i2l (pc := 10) hh dL_addLine_10 ⟨by omega, by omega⟩ ?_
    refine jr_last (F := fo) (ws' := wO G h (uF (uF (uF F 5 (jU (F 5) (V 2).toNat kd)) 6 (jU (F 6) (V 2).toNat on)) 7 (jU (F 7) (V 2).toNat ot)) (jU V 2 (V 2 + 1)) o (jU fo 0 (V 2))) (pc := 11) hh 18 rfl 0 rfl (by decide) (by decide) rfl dL_addLine_11 ?_
    refine jr_goto (tgt := 27) (pc := 12) hh dL_addLine_12 (by decide) ?_
    refine jr_iconst (pc := 27) hh dL_addLine_27 ?_
    exact jr_iret (pc := 28) hh hret rfl ⟨jsi hcd.symm, _, _, _, rfl, fun q => absurd hcd q, fun _ => ⟨rfl, rfl, rfl⟩⟩ (by decide) (by decide) dL_addLine_28
  · skip
    refine jr_aload (pc := 0) hh 4 dL_addLine_0 rfl ?_
    refine jr_iconst (pc := 2) hh dL_addLine_2 ?_
    refine jr_aload_n (pc := 3) hh 0 dL_addLine_3 rfl rfl ?_
    refine jr_iload_n (pc := 4) hh 1 dL_addLine_4 rfl rfl ?_
    refine jr_iload_n (pc := 5) hh 2 dL_addLine_5 rfl rfl ?_
    refine jr_iload_n (pc := 6) hh 3 dL_addLine_6 rfl rfl ?_
    refine jr_ccallV (pc := 7) hh [.int (iI kd), .int (iI on), .int (iI ot)] [.int (iI 0), .ref o] (t_X3_addLine l G h F V kd on ot hrkd hron hrot hk hcd hlt) gL_addLine_X3_addLine rfl (by decide) (by decide) [0, 1, 2, 3, 4, 5, 6, 7, 8, 9, 10, 11, 12, 13, 14, 15, 16, 17] [18] rfl rfl rfl rfl (by decide) 0 rfl rfl 3 rfl rfl (Nat.le_of_ble_eq_true rfl) (by decide +kernel) dL_addLine_7 (fun E w1 h1 => ?_)
    obtain ⟨h1, rfl⟩ := h1
    rcases h1 with ⟨hk1, rfl⟩ | ⟨hk1, rfl⟩ | ⟨hk1, rfl⟩
    · skip
      refine ⟨"java/lang/IllegalArgumentException", [], ⟨0, 12, 15, 13⟩, [⟨0, 12, 19, 21⟩, ⟨0, 12, 23, 15⟩], htab.trans rfl, (fun z hz => absurd hz List.not_mem_nil), by decide, by decide, jts hh _ (by decide +kernel : Cond.classLink RL 13 "java/lang/IllegalArgumentException" ∈ wsL_addLine), va_Nw.use rfl ((jnn hh).2.2.1.1 "java/lang/IllegalArgumentException" (by decide)), fun q => ?_⟩
      refine jr_ws (ws' := [(o, .inl (G.2 2, 1, .inr (.inl (jL fo))))] ++ wC G h F V) rfl ?_
      refine jr_perm (ws' := wO G h F V o fo) [1, 2, 3, 4, 5, 6, 7, 8, 9, 10, 11, 12, 13, 14, 15, 16, 17, 18, 0] rfl rfl ?_
      refine jr_astore (lv' := [(5, .ref q), (0, .ref (h 0)), (1, .int (iI kd)), (2, .int (iI on)), (3, .int (iI ot)), (4, .ref o)]) (pc := 15) hh dL_addLine_15 (by decide) rfl ?_
      refine jr_iconst (pc := 17) hh dL_addLine_17 ?_
      exact jr_iret (pc := 18) hh hret rfl ⟨jsi hk1.symm, _, _, _, rfl, fun _ => ⟨scr_rf hk, rfl⟩, fun q => absurd q hcd⟩ (by decide) (by decide) dL_addLine_18
    · skip
      refine ⟨"java/lang/IndexOutOfBoundsException", [⟨0, 12, 15, 13⟩], ⟨0, 12, 19, 21⟩, [⟨0, 12, 23, 15⟩], htab.trans rfl, ?_, by decide, by decide, jts hh _ (by decide +kernel : Cond.classLink RL 21 "java/lang/IndexOutOfBoundsException" ∈ wsL_addLine), va_Nw.use rfl ((jnn hh).2.2.1.1 "java/lang/IndexOutOfBoundsException" (by decide)), fun q => ?_⟩
      · intro z hz
        rcases List.mem_cons.mp hz with rfl | hz
        · exact Or.inr ⟨by decide, "java/lang/IllegalArgumentException", jts hh _ (by decide +kernel : Cond.classLink RL 13 "java/lang/IllegalArgumentException" ∈ wsL_addLine), hnc "java/lang/IndexOutOfBoundsException" (by decide) "java/lang/IllegalArgumentException" (by decide) (by decide)⟩
        exact absurd hz List.not_mem_nil
      refine jr_ws (ws' := [(o, .inl (G.2 2, 1, .inr (.inl (jL fo))))] ++ wC G h F V) rfl ?_
      refine jr_perm (ws' := wO G h F V o fo) [1, 2, 3, 4, 5, 6, 7, 8, 9, 10, 11, 12, 13, 14, 15, 16, 17, 18, 0] rfl rfl ?_
      refine jr_astore (lv' := [(5, .ref q), (0, .ref (h 0)), (1, .int (iI kd)), (2, .int (iI on)), (3, .int (iI ot)), (4, .ref o)]) (pc := 19) hh dL_addLine_19 (by decide) rfl ?_
      refine jr_iconst (pc := 21) hh dL_addLine_21 ?_
      exact jr_iret (pc := 22) hh hret rfl ⟨jsi hk1.symm, _, _, _, rfl, fun _ => ⟨scr_rf hk, rfl⟩, fun q => absurd q hcd⟩ (by decide) (by decide) dL_addLine_22
    · skip
      refine ⟨"java/lang/IllegalStateException", [⟨0, 12, 15, 13⟩, ⟨0, 12, 19, 21⟩], ⟨0, 12, 23, 15⟩, [], htab.trans rfl, ?_, by decide, by decide, jts hh _ (by decide +kernel : Cond.classLink RL 15 "java/lang/IllegalStateException" ∈ wsL_addLine), va_Nw.use rfl ((jnn hh).2.2.1.1 "java/lang/IllegalStateException" (by decide)), fun q => ?_⟩
      · intro z hz
        rcases List.mem_cons.mp hz with rfl | hz
        · exact Or.inr ⟨by decide, "java/lang/IllegalArgumentException", jts hh _ (by decide +kernel : Cond.classLink RL 13 "java/lang/IllegalArgumentException" ∈ wsL_addLine), hnc "java/lang/IllegalStateException" (by decide) "java/lang/IllegalArgumentException" (by decide) (by decide)⟩
        rcases List.mem_cons.mp hz with rfl | hz
        · exact Or.inr ⟨by decide, "java/lang/IndexOutOfBoundsException", jts hh _ (by decide +kernel : Cond.classLink RL 21 "java/lang/IndexOutOfBoundsException" ∈ wsL_addLine), hnc "java/lang/IllegalStateException" (by decide) "java/lang/IndexOutOfBoundsException" (by decide) (by decide)⟩
        exact absurd hz List.not_mem_nil
      refine jr_ws (ws' := [(o, .inl (G.2 2, 1, .inr (.inl (jL fo))))] ++ wC G h F V) rfl ?_
      refine jr_perm (ws' := wO G h F V o fo) [1, 2, 3, 4, 5, 6, 7, 8, 9, 10, 11, 12, 13, 14, 15, 16, 17, 18, 0] rfl rfl ?_
      refine jr_astore (lv' := [(5, .ref q), (0, .ref (h 0)), (1, .int (iI kd)), (2, .int (iI on)), (3, .int (iI ot)), (4, .ref o)]) (pc := 23) hh dL_addLine_23 (by decide) rfl ?_
      refine jr_iconst (pc := 25) hh dL_addLine_25 ?_
      exact jr_iret (pc := 26) hh hret rfl ⟨jsi hk1.symm, _, _, _, rfl, fun _ => ⟨scr_rf hk, rfl⟩, fun q => absurd q hcd⟩ (by decide) (by decide) dL_addLine_26
set_option maxHeartbeats 4000000 in
set_option maxRecDepth 100000 in
theorem w_addScenario (l : Launch) (hlt : l.stackTraces = false) (G : jG) (h : Nat → Nat) (F : Nat → Nat → Int) (V : Nat → Int) (o : Nat) (fo : Nat → Int) (pr : Int) (hrpr : jR pr) (hk : okC F V) : jMetL l yL_addScenario wsL_addScenario { frames := 14, cells := 1, slots := 6, locals := 4000 } G (wO G h F V o fo) [.ref (h 0), .int (iI pr), .ref o] (fun rv w1 => rv = some (.int (iI (cdAddScenario (V 0) pr))) ∧ ∃ (F' : Nat → Nat → Int) (V' : Nat → Int) (fo' : Nat → Int), w1 = wO G h F' V' o fo' ∧ (cdAddScenario (V 0) pr ≠ 0 → scr F F' ∧ V' = V) ∧ (cdAddScenario (V 0) pr = 0 → fo' 0 = V 0 ∧ F' = (uF F 2 (jU (F 2) (V 0).toNat pr)) ∧ V' = jU V 0 (V 0 + 1))) := by
  refine jMetL_of (cc := cL_addScenario) (maxL := 4) (ret := (some .int)) (hs := [(0, 9, 12, 21), (0, 9, 15, 15)]) (by decide +kernel) rfl (Nat.le_of_ble_eq_true rfl) ?_
  intro p e s m args below meth c A hh hret htab hnc
  obtain ⟨hV0, hV1, hV2, hV3, hV4, -⟩ := id hk
  have hrpr1 := hrpr.1
  have hrpr2 := hrpr.2
  refine jr_loc (lv' := [(0, .ref (h 0)), (1, .int (iI pr)), (2, .ref o)]) [0, 1, 2] rfl ?_
  by_cases hcd : cdAddScenario (V 0) pr = 0
  · skip
    have hcd2 := hcd
    unfold cdAddScenario at hcd2
    obtain ⟨prN, rfl⟩ : ∃ k : Nat, pr = (k : Int) := ⟨pr.toNat, by omega⟩
    try simp only [Int.toNat_natCast] at hcd2
    refine jr_aload_n (pc := 0) hh 2 dL_addScenario_0 rfl rfl ?_
    refine jr_iconst (pc := 1) hh dL_addScenario_1 ?_
    refine jr_aload_n (pc := 2) hh 0 dL_addScenario_2 rfl rfl ?_
    refine jr_iload_n (pc := 3) hh 1 dL_addScenario_3 rfl rfl ?_
    refine jr_callV (pc := 4) hh [.int (iI (prN : Int))] [.int (iI 0), .ref o] (c_X3_addScenario l G h F V prN hk (by omega) (by omega)) gL_addScenario_X3_addScenario rfl (by decide) (by decide) [0, 1, 2, 3, 4, 5, 6, 7, 8, 9, 10, 11, 12, 13, 14, 15, 16, 17] [18] rfl rfl rfl rfl (by decide) 0 rfl rfl 1 rfl rfl (Nat.le_of_ble_eq_true rfl) (by decide +kernel) dL_addScenario_4 (fun rv1 w1 h1 => ?_)
    obtain ⟨rfl, rfl⟩ := h1
    refine jr_perm (ws' := wO G h (uF F 2 (jU (F 2) (V 0).toNat (prN : Int))) (jU V 0 (V 0 + 1)) o fo) (st := [.int (iI (V 0)), .int (iI 0), .ref o]) [1, 2, 3, 4, 5, 6, 7, 8, 9, 10, 11, 12, 13, 14, 15, 16, 17, 18, 0] rfl rfl ?_
    refine jr_i2l (pc := 7) hh dL_addScenario_7 ⟨by omega, by omega⟩ ?_
    refine jr_last (F := fo) (ws' := wO G h (uF F 2 (jU (F 2) (V 0).toNat (prN : Int))) (jU V 0 (V 0 + 1)) o (jU fo 0 (V 0))) (pc := 8) hh 18 rfl 0 rfl (by decide) (by decide) rfl dL_addScenario_8 ?_
    refine jr_goto (tgt := 18) (pc := 9) hh dL_addScenario_9 (by decide) ?_
    refine jr_iconst (pc := 18) hh dL_addScenario_18 ?_
    exact jr_iret (pc := 19) hh hret rfl ⟨jsi hcd.symm, _, _, _, rfl, fun q => absurd hcd q, fun _ => ⟨rfl, rfl, rfl⟩⟩ (by decide) (by decide) dL_addScenario_19
  · skip
    refine jr_aload_n (pc := 0) hh 2 dL_addScenario_0 rfl rfl ?_
    refine jr_iconst (pc := 1) hh dL_addScenario_1 ?_
    refine jr_aload_n (pc := 2) hh 0 dL_addScenario_2 rfl rfl ?_
    refine jr_iload_n (pc := 3) hh 1 dL_addScenario_3 rfl rfl ?_
    refine jr_ccallV (pc := 4) hh [.int (iI pr)] [.int (iI 0), .ref o] (t_X3_addScenario l G h F V pr hrpr hk hcd hlt) gL_addScenario_X3_addScenario rfl (by decide) (by decide) [0, 1, 2, 3, 4, 5, 6, 7, 8, 9, 10, 11, 12, 13, 14, 15, 16, 17] [18] rfl rfl rfl rfl (by decide) 0 rfl rfl 1 rfl rfl (Nat.le_of_ble_eq_true rfl) (by decide +kernel) dL_addScenario_4 (fun E w1 h1 => ?_)
    obtain ⟨h1, rfl⟩ := h1
    rcases h1 with ⟨hk1, rfl⟩ | ⟨hk1, rfl⟩
    · skip
      refine ⟨"java/lang/IndexOutOfBoundsException", [], ⟨0, 9, 12, 21⟩, [⟨0, 9, 15, 15⟩], htab.trans rfl, (fun z hz => absurd hz List.not_mem_nil), by decide, by decide, jts hh _ (by decide +kernel : Cond.classLink RL 21 "java/lang/IndexOutOfBoundsException" ∈ wsL_addScenario), va_Nw.use rfl ((jnn hh).2.2.1.1 "java/lang/IndexOutOfBoundsException" (by decide)), fun q => ?_⟩
      refine jr_ws (ws' := [(o, .inl (G.2 2, 1, .inr (.inl (jL fo))))] ++ wC G h F V) rfl ?_
      refine jr_perm (ws' := wO G h F V o fo) [1, 2, 3, 4, 5, 6, 7, 8, 9, 10, 11, 12, 13, 14, 15, 16, 17, 18, 0] rfl rfl ?_
      refine jr_astore_n (lv' := [(3, .ref q), (0, .ref (h 0)), (1, .int (iI pr)), (2, .ref o)]) (pc := 12) hh dL_addScenario_12 rfl (by decide) rfl ?_
      refine jr_iconst (pc := 13) hh dL_addScenario_13 ?_
      exact jr_iret (pc := 14) hh hret rfl ⟨jsi hk1.symm, _, _, _, rfl, fun _ => ⟨scr_rf hk, rfl⟩, fun q => absurd q hcd⟩ (by decide) (by decide) dL_addScenario_14
    · skip
      refine ⟨"java/lang/IllegalStateException", [⟨0, 9, 12, 21⟩], ⟨0, 9, 15, 15⟩, [], htab.trans rfl, ?_, by decide, by decide, jts hh _ (by decide +kernel : Cond.classLink RL 15 "java/lang/IllegalStateException" ∈ wsL_addScenario), va_Nw.use rfl ((jnn hh).2.2.1.1 "java/lang/IllegalStateException" (by decide)), fun q => ?_⟩
      · intro z hz
        rcases List.mem_cons.mp hz with rfl | hz
        · exact Or.inr ⟨by decide, "java/lang/IndexOutOfBoundsException", jts hh _ (by decide +kernel : Cond.classLink RL 21 "java/lang/IndexOutOfBoundsException" ∈ wsL_addScenario), hnc "java/lang/IllegalStateException" (by decide) "java/lang/IndexOutOfBoundsException" (by decide) (by decide)⟩
        exact absurd hz List.not_mem_nil
      refine jr_ws (ws' := [(o, .inl (G.2 2, 1, .inr (.inl (jL fo))))] ++ wC G h F V) rfl ?_
      refine jr_perm (ws' := wO G h F V o fo) [1, 2, 3, 4, 5, 6, 7, 8, 9, 10, 11, 12, 13, 14, 15, 16, 17, 18, 0] rfl rfl ?_
      refine jr_astore_n (lv' := [(3, .ref q), (0, .ref (h 0)), (1, .int (iI pr)), (2, .ref o)]) (pc := 15) hh dL_addScenario_15 rfl (by decide) rfl ?_
      refine jr_iconst (pc := 16) hh dL_addScenario_16 ?_
      exact jr_iret (pc := 17) hh hret rfl ⟨jsi hk1.symm, _, _, _, rfl, fun _ => ⟨scr_rf hk, rfl⟩, fun q => absurd q hcd⟩ (by decide) (by decide) dL_addScenario_17
set_option maxHeartbeats 4000000 in
set_option maxRecDepth 100000 in
theorem w_differ (l : Launch) (hlt : l.stackTraces = false) (G : jG) (h : Nat → Nat) (F : Nat → Nat → Int) (V : Nat → Int) (o : Nat) (fo : Nat → Int) (sc d t x : Int) (hrsc : jR sc) (hrd : jR d) (hrt : jR t) (hrx : jR x) (hk : okC F V) (hown : ∀ q : Nat, 0 ≤ F 3 q ∧ F 3 q ≤ 12) : jMetL l yL_differ wsL_differ { frames := 14, cells := 1, slots := 6, locals := 4000 } G (wO G h F V o fo) [.ref (h 0), .int (iI sc), .int (iI d), .int (iI t), .int (iI x), .ref o] (fun rv w1 => rv = some (.int (iI (cdDiffer (V 0) (V 3) (V 1) sc d t x))) ∧ ∃ (F' : Nat → Nat → Int) (V' : Nat → Int) (fo' : Nat → Int), w1 = wO G h F' V' o fo' ∧ (cdDiffer (V 0) (V 3) (V 1) sc d t x ≠ 0 → scr F F' ∧ V' = V) ∧ (cdDiffer (V 0) (V 3) (V 1) sc d t x = 0 → fo' 0 = F 3 sc.toNat + 1 ∧ F' = (uF (uF F 3 (jU (F 3) sc.toNat (F 3 sc.toNat + 1))) 4 (adU (F 4) (sc.toNat * 6 + d.toNat) t.toNat 12 x)) ∧ V' = jU V 1 (V 1 + 1))) := by
  refine jMetL_of (cc := cL_differ) (maxL := 7) (ret := (some .int)) (hs := [(0, 14, 17, 21), (0, 14, 21, 13), (0, 14, 25, 38), (0, 14, 29, 15)]) (by decide +kernel) rfl (Nat.le_of_ble_eq_true rfl) ?_
  intro p e s m args below meth c A hh hret htab hnc
  obtain ⟨hV0, hV1, hV2, hV3, hV4, -⟩ := id hk
  have hrsc1 := hrsc.1
  have hrsc2 := hrsc.2
  have hrd1 := hrd.1
  have hrd2 := hrd.2
  have hrt1 := hrt.1
  have hrt2 := hrt.2
  have hrx1 := hrx.1
  have hrx2 := hrx.2
  refine jr_loc (lv' := [(0, .ref (h 0)), (1, .int (iI sc)), (2, .int (iI d)), (3, .int (iI t)), (4, .int (iI x)), (5, .ref o)]) [0, 1, 2, 3, 4, 5] rfl ?_
  by_cases hcd : cdDiffer (V 0) (V 3) (V 1) sc d t x = 0
  · skip
    have hcd2 := hcd
    unfold cdDiffer at hcd2
    obtain ⟨scN, rfl⟩ : ∃ k : Nat, sc = (k : Int) := ⟨sc.toNat, by omega⟩
    obtain ⟨dN, rfl⟩ : ∃ k : Nat, d = (k : Int) := ⟨d.toNat, by omega⟩
    obtain ⟨tN, rfl⟩ : ∃ k : Nat, t = (k : Int) := ⟨t.toNat, by omega⟩
    try simp only [Int.toNat_natCast] at hcd2
    have hw9 := hown scN
    refine jr_aload (pc := 0) hh 5 dL_differ_0 rfl ?_
    refine jr_iconst (pc := 2) hh dL_differ_2 ?_
    refine jr_aload_n (pc := 3) hh 0 dL_differ_3 rfl rfl ?_
    refine jr_iload_n (pc := 4) hh 1 dL_differ_4 rfl rfl ?_
    refine jr_iload_n (pc := 5) hh 2 dL_differ_5 rfl rfl ?_
    refine jr_iload_n (pc := 6) hh 3 dL_differ_6 rfl rfl ?_
    refine jr_iload (pc := 7) hh 4 dL_differ_7 rfl ?_
    refine jr_callV (pc := 9) hh [.int (iI (scN : Int)), .int (iI (dN : Int)), .int (iI (tN : Int)), .int (iI x)] [.int (iI 0), .ref o] (c_X3_differ l G h F V scN dN tN x hk (by omega) (by omega) (by omega) (by omega) (by omega) (by omega)) gL_differ_X3_differ rfl (by decide) (by decide) [0, 1, 2, 3, 4, 5, 6, 7, 8, 9, 10, 11, 12, 13, 14, 15, 16, 17] [18] rfl rfl rfl rfl (by decide) 0 rfl rfl 4 rfl rfl (Nat.le_of_ble_eq_true rfl) (by decide +kernel) dL_differ_9 (fun rv1 w1 h1 => ?_)
    obtain ⟨rfl, rfl⟩ := h1
    refine jr_perm (ws' := wO G h (uF (uF F 3 (jU (F 3) scN (F 3 scN + 1))) 4 (adU (F 4) (scN * 6 + dN) tN 12 x)) (jU V 1 (V 1 + 1)) o fo) (st := [.int (iI (F 3 scN + 1)), .int (iI 0), .ref o]) [1, 2, 3, 4, 5, 6, 7, 8, 9, 10, 11, 12, 13, 14, 15, 16, 17, 18, 0] rfl rfl ?_
    refine jr_i2l (pc := 12) hh dL_differ_12 ⟨by omega, by omega⟩ ?_
    refine jr_last (F := fo) (ws' := wO G h (uF (uF F 3 (jU (F 3) scN (F 3 scN + 1))) 4 (adU (F 4) (scN * 6 + dN) tN 12 x)) (jU V 1 (V 1 + 1)) o (jU fo 0 (F 3 scN + 1))) (pc := 13) hh 18 rfl 0 rfl (by decide) (by decide) rfl dL_differ_13 ?_
    refine jr_goto (tgt := 33) (pc := 14) hh dL_differ_14 (by decide) ?_
    refine jr_iconst (pc := 33) hh dL_differ_33 ?_
    exact jr_iret (pc := 34) hh hret rfl ⟨jsi hcd.symm, _, _, _, rfl, fun q => absurd hcd q, fun _ => ⟨rfl, rfl, rfl⟩⟩ (by decide) (by decide) dL_differ_34
  · skip
    refine jr_aload (pc := 0) hh 5 dL_differ_0 rfl ?_
    refine jr_iconst (pc := 2) hh dL_differ_2 ?_
    refine jr_aload_n (pc := 3) hh 0 dL_differ_3 rfl rfl ?_
    refine jr_iload_n (pc := 4) hh 1 dL_differ_4 rfl rfl ?_
    refine jr_iload_n (pc := 5) hh 2 dL_differ_5 rfl rfl ?_
    refine jr_iload_n (pc := 6) hh 3 dL_differ_6 rfl rfl ?_
    refine jr_iload (pc := 7) hh 4 dL_differ_7 rfl ?_
    refine jr_ccallV (pc := 9) hh [.int (iI sc), .int (iI d), .int (iI t), .int (iI x)] [.int (iI 0), .ref o] (t_X3_differ l G h F V sc d t x hrsc hrd hrt hrx hk hcd hlt) gL_differ_X3_differ rfl (by decide) (by decide) [0, 1, 2, 3, 4, 5, 6, 7, 8, 9, 10, 11, 12, 13, 14, 15, 16, 17] [18] rfl rfl rfl rfl (by decide) 0 rfl rfl 4 rfl rfl (Nat.le_of_ble_eq_true rfl) (by decide +kernel) dL_differ_9 (fun E w1 h1 => ?_)
    obtain ⟨h1, rfl⟩ := h1
    rcases h1 with ⟨hk1, rfl⟩ | ⟨hk1, rfl⟩ | ⟨hk1, rfl⟩ | ⟨hk1, rfl⟩
    · skip
      refine ⟨"java/lang/IndexOutOfBoundsException", [], ⟨0, 14, 17, 21⟩, [⟨0, 14, 21, 13⟩, ⟨0, 14, 25, 38⟩, ⟨0, 14, 29, 15⟩], htab.trans rfl, (fun z hz => absurd hz List.not_mem_nil), by decide, by decide, jts hh _ (by decide +kernel : Cond.classLink RL 21 "java/lang/IndexOutOfBoundsException" ∈ wsL_differ), va_Nw.use rfl ((jnn hh).2.2.1.1 "java/lang/IndexOutOfBoundsException" (by decide)), fun q => ?_⟩
      refine jr_ws (ws' := [(o, .inl (G.2 2, 1, .inr (.inl (jL fo))))] ++ wC G h F V) rfl ?_
      refine jr_perm (ws' := wO G h F V o fo) [1, 2, 3, 4, 5, 6, 7, 8, 9, 10, 11, 12, 13, 14, 15, 16, 17, 18, 0] rfl rfl ?_
      refine jr_astore (lv' := [(6, .ref q), (0, .ref (h 0)), (1, .int (iI sc)), (2, .int (iI d)), (3, .int (iI t)), (4, .int (iI x)), (5, .ref o)]) (pc := 17) hh dL_differ_17 (by decide) rfl ?_
      refine jr_iconst (pc := 19) hh dL_differ_19 ?_
      exact jr_iret (pc := 20) hh hret rfl ⟨jsi hk1.symm, _, _, _, rfl, fun _ => ⟨scr_rf hk, rfl⟩, fun q => absurd q hcd⟩ (by decide) (by decide) dL_differ_20
    · skip
      refine ⟨"java/lang/IllegalArgumentException", [⟨0, 14, 17, 21⟩], ⟨0, 14, 21, 13⟩, [⟨0, 14, 25, 38⟩, ⟨0, 14, 29, 15⟩], htab.trans rfl, ?_, by decide, by decide, jts hh _ (by decide +kernel : Cond.classLink RL 13 "java/lang/IllegalArgumentException" ∈ wsL_differ), va_Nw.use rfl ((jnn hh).2.2.1.1 "java/lang/IllegalArgumentException" (by decide)), fun q => ?_⟩
      · intro z hz
        rcases List.mem_cons.mp hz with rfl | hz
        · exact Or.inr ⟨by decide, "java/lang/IndexOutOfBoundsException", jts hh _ (by decide +kernel : Cond.classLink RL 21 "java/lang/IndexOutOfBoundsException" ∈ wsL_differ), hnc "java/lang/IllegalArgumentException" (by decide) "java/lang/IndexOutOfBoundsException" (by decide) (by decide)⟩
        exact absurd hz List.not_mem_nil
      refine jr_ws (ws' := [(o, .inl (G.2 2, 1, .inr (.inl (jL fo))))] ++ wC G h F V) rfl ?_
      refine jr_perm (ws' := wO G h F V o fo) [1, 2, 3, 4, 5, 6, 7, 8, 9, 10, 11, 12, 13, 14, 15, 16, 17, 18, 0] rfl rfl ?_
      refine jr_astore (lv' := [(6, .ref q), (0, .ref (h 0)), (1, .int (iI sc)), (2, .int (iI d)), (3, .int (iI t)), (4, .int (iI x)), (5, .ref o)]) (pc := 21) hh dL_differ_21 (by decide) rfl ?_
      refine jr_iconst (pc := 23) hh dL_differ_23 ?_
      exact jr_iret (pc := 24) hh hret rfl ⟨jsi hk1.symm, _, _, _, rfl, fun _ => ⟨scr_rf hk, rfl⟩, fun q => absurd q hcd⟩ (by decide) (by decide) dL_differ_24
    · skip
      refine ⟨"java/lang/UnsupportedOperationException", [⟨0, 14, 17, 21⟩, ⟨0, 14, 21, 13⟩], ⟨0, 14, 25, 38⟩, [⟨0, 14, 29, 15⟩], htab.trans rfl, ?_, by decide, by decide, jts hh _ (by decide +kernel : Cond.classLink RL 38 "java/lang/UnsupportedOperationException" ∈ wsL_differ), va_Nw.use rfl ((jnn hh).2.2.1.1 "java/lang/UnsupportedOperationException" (by decide)), fun q => ?_⟩
      · intro z hz
        rcases List.mem_cons.mp hz with rfl | hz
        · exact Or.inr ⟨by decide, "java/lang/IndexOutOfBoundsException", jts hh _ (by decide +kernel : Cond.classLink RL 21 "java/lang/IndexOutOfBoundsException" ∈ wsL_differ), hnc "java/lang/UnsupportedOperationException" (by decide) "java/lang/IndexOutOfBoundsException" (by decide) (by decide)⟩
        rcases List.mem_cons.mp hz with rfl | hz
        · exact Or.inr ⟨by decide, "java/lang/IllegalArgumentException", jts hh _ (by decide +kernel : Cond.classLink RL 13 "java/lang/IllegalArgumentException" ∈ wsL_differ), hnc "java/lang/UnsupportedOperationException" (by decide) "java/lang/IllegalArgumentException" (by decide) (by decide)⟩
        exact absurd hz List.not_mem_nil
      refine jr_ws (ws' := [(o, .inl (G.2 2, 1, .inr (.inl (jL fo))))] ++ wC G h F V) rfl ?_
      refine jr_perm (ws' := wO G h F V o fo) [1, 2, 3, 4, 5, 6, 7, 8, 9, 10, 11, 12, 13, 14, 15, 16, 17, 18, 0] rfl rfl ?_
      refine jr_astore (lv' := [(6, .ref q), (0, .ref (h 0)), (1, .int (iI sc)), (2, .int (iI d)), (3, .int (iI t)), (4, .int (iI x)), (5, .ref o)]) (pc := 25) hh dL_differ_25 (by decide) rfl ?_
      refine jr_iconst (pc := 27) hh dL_differ_27 ?_
      exact jr_iret (pc := 28) hh hret rfl ⟨jsi hk1.symm, _, _, _, rfl, fun _ => ⟨scr_rf hk, rfl⟩, fun q => absurd q hcd⟩ (by decide) (by decide) dL_differ_28
    · skip
      refine ⟨"java/lang/IllegalStateException", [⟨0, 14, 17, 21⟩, ⟨0, 14, 21, 13⟩, ⟨0, 14, 25, 38⟩], ⟨0, 14, 29, 15⟩, [], htab.trans rfl, ?_, by decide, by decide, jts hh _ (by decide +kernel : Cond.classLink RL 15 "java/lang/IllegalStateException" ∈ wsL_differ), va_Nw.use rfl ((jnn hh).2.2.1.1 "java/lang/IllegalStateException" (by decide)), fun q => ?_⟩
      · intro z hz
        rcases List.mem_cons.mp hz with rfl | hz
        · exact Or.inr ⟨by decide, "java/lang/IndexOutOfBoundsException", jts hh _ (by decide +kernel : Cond.classLink RL 21 "java/lang/IndexOutOfBoundsException" ∈ wsL_differ), hnc "java/lang/IllegalStateException" (by decide) "java/lang/IndexOutOfBoundsException" (by decide) (by decide)⟩
        rcases List.mem_cons.mp hz with rfl | hz
        · exact Or.inr ⟨by decide, "java/lang/IllegalArgumentException", jts hh _ (by decide +kernel : Cond.classLink RL 13 "java/lang/IllegalArgumentException" ∈ wsL_differ), hnc "java/lang/IllegalStateException" (by decide) "java/lang/IllegalArgumentException" (by decide) (by decide)⟩
        rcases List.mem_cons.mp hz with rfl | hz
        · exact Or.inr ⟨by decide, "java/lang/UnsupportedOperationException", jts hh _ (by decide +kernel : Cond.classLink RL 38 "java/lang/UnsupportedOperationException" ∈ wsL_differ), hnc "java/lang/IllegalStateException" (by decide) "java/lang/UnsupportedOperationException" (by decide) (by decide)⟩
        exact absurd hz List.not_mem_nil
      refine jr_ws (ws' := [(o, .inl (G.2 2, 1, .inr (.inl (jL fo))))] ++ wC G h F V) rfl ?_
      refine jr_perm (ws' := wO G h F V o fo) [1, 2, 3, 4, 5, 6, 7, 8, 9, 10, 11, 12, 13, 14, 15, 16, 17, 18, 0] rfl rfl ?_
      refine jr_astore (lv' := [(6, .ref q), (0, .ref (h 0)), (1, .int (iI sc)), (2, .int (iI d)), (3, .int (iI t)), (4, .int (iI x)), (5, .ref o)]) (pc := 29) hh dL_differ_29 (by decide) rfl ?_
      refine jr_iconst (pc := 31) hh dL_differ_31 ?_
      exact jr_iret (pc := 32) hh hret rfl ⟨jsi hk1.symm, _, _, _, rfl, fun _ => ⟨scr_rf hk, rfl⟩, fun q => absurd q hcd⟩ (by decide) (by decide) dL_differ_32
set_option maxHeartbeats 4000000 in
set_option maxRecDepth 100000 in
theorem w_number (l : Launch) (hlt : l.stackTraces = false) (G : jG) (h : Nat → Nat) (F : Nat → Nat → Int) (V : Nat → Int) (o : Nat) (fo : Nat → Int) (sc i t : Int) (hrsc : jR sc) (hri : jR i) (hrt : jR t) (hk : okC F V) : jMetL l yL_number wsL_number { frames := 14, cells := 1, slots := 6, locals := 4000 } G (wO G h F V o fo) [.ref (h 0), .int (iI sc), .int (iI i), .int (iI t), .ref o] (fun rv w1 => rv = some (.int (iI (cdNumber (V 0) (V 2) sc i t (enc (nmC F sc.toNat t.toNat 6 i.toNat))))) ∧ ∃ (F' : Nat → Nat → Int) (V' : Nat → Int) (fo' : Nat → Int), w1 = wO G h F' V' o fo' ∧ (cdNumber (V 0) (V 2) sc i t (enc (nmC F sc.toNat t.toNat 6 i.toNat)) ≠ 0 → scr F F' ∧ V' = V) ∧ (cdNumber (V 0) (V 2) sc i t (enc (nmC F sc.toNat t.toNat 6 i.toNat)) = 0 → fo' 0 = enc (nmC F sc.toNat t.toNat 6 i.toNat) ∧ scr F F' ∧ V' = V)) := by
  refine jMetL_of (cc := cL_number) (maxL := 6) (ret := (some .int)) (hs := [(0, 12, 15, 21), (0, 12, 19, 38)]) (by decide +kernel) rfl (Nat.le_of_ble_eq_true rfl) ?_
  intro p e s m args below meth c A hh hret htab hnc
  obtain ⟨hV0, hV1, hV2, hV3, hV4, -⟩ := id hk
  have hrsc1 := hrsc.1
  have hrsc2 := hrsc.2
  have hri1 := hri.1
  have hri2 := hri.2
  have hrt1 := hrt.1
  have hrt2 := hrt.2
  refine jr_loc (lv' := [(0, .ref (h 0)), (1, .int (iI sc)), (2, .int (iI i)), (3, .int (iI t)), (4, .ref o)]) [0, 1, 2, 3, 4] rfl ?_
  by_cases hcd : cdNumber (V 0) (V 2) sc i t (enc (nmC F sc.toNat t.toNat 6 i.toNat)) = 0
  · skip
    have hcd2 := hcd
    unfold cdNumber at hcd2
    obtain ⟨scN, rfl⟩ : ∃ k : Nat, sc = (k : Int) := ⟨sc.toNat, by omega⟩
    obtain ⟨iN, rfl⟩ : ∃ k : Nat, i = (k : Int) := ⟨i.toNat, by omega⟩
    obtain ⟨tN, rfl⟩ : ∃ k : Nat, t = (k : Int) := ⟨t.toNat, by omega⟩
    try simp only [Int.toNat_natCast] at hcd2
    have hnr := enc_range (nmC_B hk (s := scN) (i := iN) (m := tN) (cd := 6) (by omega) (by omega) (by omega))
    refine jr_aload (pc := 0) hh 4 dL_number_0 rfl ?_
    refine jr_iconst (pc := 2) hh dL_number_2 ?_
    refine jr_aload_n (pc := 3) hh 0 dL_number_3 rfl rfl ?_
    refine jr_iload_n (pc := 4) hh 1 dL_number_4 rfl rfl ?_
    refine jr_iload_n (pc := 5) hh 2 dL_number_5 rfl rfl ?_
    refine jr_iload_n (pc := 6) hh 3 dL_number_6 rfl rfl ?_
    refine jr_callV (pc := 7) hh [.int (iI (scN : Int)), .int (iI (iN : Int)), .int (iI (tN : Int))] [.int (iI 0), .ref o] (c_X3_number l G h F V scN iN tN hk (by omega) (by omega) (by omega) (by omega)) gL_number_X3_number rfl (by decide) (by decide) [0, 1, 2, 3, 4, 5, 6, 7, 8, 9, 10, 11, 12, 13, 14, 15, 16, 17] [18] rfl rfl rfl rfl (by decide) 0 rfl rfl 3 rfl rfl (Nat.le_of_ble_eq_true rfl) (by decide +kernel) dL_number_7 (fun rv1 w1 h1 => ?_)
    obtain ⟨rfl, F', hF', rfl⟩ := h1
    refine jr_perm (ws' := wO G h F' V o fo) (st := [.int (iI (enc (nmC F scN tN 6 iN))), .int (iI 0), .ref o]) [1, 2, 3, 4, 5, 6, 7, 8, 9, 10, 11, 12, 13, 14, 15, 16, 17, 18, 0] rfl rfl ?_
    refine jr_i2l (pc := 10) hh dL_number_10 ⟨by omega, by omega⟩ ?_
    refine jr_last (F := fo) (ws' := wO G h F' V o (jU fo 0 (enc (nmC F scN tN 6 iN)))) (pc := 11) hh 18 rfl 0 rfl (by decide) (by decide) rfl dL_number_11 ?_
    refine jr_goto (tgt := 23) (pc := 12) hh dL_number_12 (by decide) ?_
    refine jr_iconst (pc := 23) hh dL_number_23 ?_
    exact jr_iret (pc := 24) hh hret rfl ⟨jsi hcd.symm, _, _, _, rfl, fun q => absurd hcd q, fun _ => ⟨rfl, hF', rfl⟩⟩ (by decide) (by decide) dL_number_24
  · skip
    refine jr_aload (pc := 0) hh 4 dL_number_0 rfl ?_
    refine jr_iconst (pc := 2) hh dL_number_2 ?_
    refine jr_aload_n (pc := 3) hh 0 dL_number_3 rfl rfl ?_
    refine jr_iload_n (pc := 4) hh 1 dL_number_4 rfl rfl ?_
    refine jr_iload_n (pc := 5) hh 2 dL_number_5 rfl rfl ?_
    refine jr_iload_n (pc := 6) hh 3 dL_number_6 rfl rfl ?_
    refine jr_ccallV (pc := 7) hh [.int (iI sc), .int (iI i), .int (iI t)] [.int (iI 0), .ref o] (t_X3_number l G h F V sc i t hrsc hri hrt hk hcd hlt) gL_number_X3_number rfl (by decide) (by decide) [0, 1, 2, 3, 4, 5, 6, 7, 8, 9, 10, 11, 12, 13, 14, 15, 16, 17] [18] rfl rfl rfl rfl (by decide) 0 rfl rfl 3 rfl rfl (Nat.le_of_ble_eq_true rfl) (by decide +kernel) dL_number_7 (fun E w1 h1 => ?_)
    obtain ⟨h1, ⟨F', hF', rfl⟩⟩ := h1
    rcases h1 with ⟨hk1, rfl⟩ | ⟨hk1, rfl⟩
    · skip
      refine ⟨"java/lang/IndexOutOfBoundsException", [], ⟨0, 12, 15, 21⟩, [⟨0, 12, 19, 38⟩], htab.trans rfl, (fun z hz => absurd hz List.not_mem_nil), by decide, by decide, jts hh _ (by decide +kernel : Cond.classLink RL 21 "java/lang/IndexOutOfBoundsException" ∈ wsL_number), va_Nw.use rfl ((jnn hh).2.2.1.1 "java/lang/IndexOutOfBoundsException" (by decide)), fun q => ?_⟩
      refine jr_ws (ws' := [(o, .inl (G.2 2, 1, .inr (.inl (jL fo))))] ++ wC G h F' V) rfl ?_
      refine jr_perm (ws' := wO G h F' V o fo) [1, 2, 3, 4, 5, 6, 7, 8, 9, 10, 11, 12, 13, 14, 15, 16, 17, 18, 0] rfl rfl ?_
      refine jr_astore (lv' := [(5, .ref q), (0, .ref (h 0)), (1, .int (iI sc)), (2, .int (iI i)), (3, .int (iI t)), (4, .ref o)]) (pc := 15) hh dL_number_15 (by decide) rfl ?_
      refine jr_iconst (pc := 17) hh dL_number_17 ?_
      exact jr_iret (pc := 18) hh hret rfl ⟨jsi hk1.symm, _, _, _, rfl, fun _ => ⟨hF', rfl⟩, fun q => absurd q hcd⟩ (by decide) (by decide) dL_number_18
    · skip
      refine ⟨"java/lang/UnsupportedOperationException", [⟨0, 12, 15, 21⟩], ⟨0, 12, 19, 38⟩, [], htab.trans rfl, ?_, by decide, by decide, jts hh _ (by decide +kernel : Cond.classLink RL 38 "java/lang/UnsupportedOperationException" ∈ wsL_number), va_Nw.use rfl ((jnn hh).2.2.1.1 "java/lang/UnsupportedOperationException" (by decide)), fun q => ?_⟩
      · intro z hz
        rcases List.mem_cons.mp hz with rfl | hz
        · exact Or.inr ⟨by decide, "java/lang/IndexOutOfBoundsException", jts hh _ (by decide +kernel : Cond.classLink RL 21 "java/lang/IndexOutOfBoundsException" ∈ wsL_number), hnc "java/lang/UnsupportedOperationException" (by decide) "java/lang/IndexOutOfBoundsException" (by decide) (by decide)⟩
        exact absurd hz List.not_mem_nil
      refine jr_ws (ws' := [(o, .inl (G.2 2, 1, .inr (.inl (jL fo))))] ++ wC G h F' V) rfl ?_
      refine jr_perm (ws' := wO G h F' V o fo) [1, 2, 3, 4, 5, 6, 7, 8, 9, 10, 11, 12, 13, 14, 15, 16, 17, 18, 0] rfl rfl ?_
      refine jr_astore (lv' := [(5, .ref q), (0, .ref (h 0)), (1, .int (iI sc)), (2, .int (iI i)), (3, .int (iI t)), (4, .ref o)]) (pc := 19) hh dL_number_19 (by decide) rfl ?_
      refine jr_iconst (pc := 21) hh dL_number_21 ?_
      exact jr_iret (pc := 22) hh hret rfl ⟨jsi hk1.symm, _, _, _, rfl, fun _ => ⟨hF', rfl⟩, fun q => absurd q hcd⟩ (by decide) (by decide) dL_number_22
set_option maxHeartbeats 4000000 in
set_option maxRecDepth 100000 in
theorem w_numberByHand (l : Launch) (hlt : l.stackTraces = false) (G : jG) (h : Nat → Nat) (F : Nat → Nat → Int) (V : Nat → Int) (o : Nat) (fo : Nat → Int) (sc i t : Int) (hrsc : jR sc) (hri : jR i) (hrt : jR t) (hk : okC F V) : jMetL l yL_numberByHand wsL_numberByHand { frames := 14, cells := 1, slots := 6, locals := 4000 } G (wO G h F V o fo) [.ref (h 0), .int (iI sc), .int (iI i), .int (iI t), .ref o] (fun rv w1 => rv = some (.int (iI (cdNumber (V 0) (V 2) sc i t (enc (nmC F sc.toNat t.toNat 6 i.toNat))))) ∧ ∃ (F' : Nat → Nat → Int) (V' : Nat → Int) (fo' : Nat → Int), w1 = wO G h F' V' o fo' ∧ (cdNumber (V 0) (V 2) sc i t (enc (nmC F sc.toNat t.toNat 6 i.toNat)) ≠ 0 → scr F F' ∧ V' = V) ∧ (cdNumber (V 0) (V 2) sc i t (enc (nmC F sc.toNat t.toNat 6 i.toNat)) = 0 → fo' 0 = enc (nmC F sc.toNat t.toNat 6 i.toNat) ∧ scr F F' ∧ V' = V)) := by
  refine jMetL_of (cc := cL_numberByHand) (maxL := 6) (ret := (some .int)) (hs := [(0, 12, 15, 21), (0, 12, 19, 38)]) (by decide +kernel) rfl (Nat.le_of_ble_eq_true rfl) ?_
  intro p e s m args below meth c A hh hret htab hnc
  obtain ⟨hV0, hV1, hV2, hV3, hV4, -⟩ := id hk
  have hrsc1 := hrsc.1
  have hrsc2 := hrsc.2
  have hri1 := hri.1
  have hri2 := hri.2
  have hrt1 := hrt.1
  have hrt2 := hrt.2
  refine jr_loc (lv' := [(0, .ref (h 0)), (1, .int (iI sc)), (2, .int (iI i)), (3, .int (iI t)), (4, .ref o)]) [0, 1, 2, 3, 4] rfl ?_
  by_cases hcd : cdNumber (V 0) (V 2) sc i t (enc (nmC F sc.toNat t.toNat 6 i.toNat)) = 0
  · skip
    have hcd2 := hcd
    unfold cdNumber at hcd2
    obtain ⟨scN, rfl⟩ : ∃ k : Nat, sc = (k : Int) := ⟨sc.toNat, by omega⟩
    obtain ⟨iN, rfl⟩ : ∃ k : Nat, i = (k : Int) := ⟨i.toNat, by omega⟩
    obtain ⟨tN, rfl⟩ : ∃ k : Nat, t = (k : Int) := ⟨t.toNat, by omega⟩
    try simp only [Int.toNat_natCast] at hcd2
    have hnr := enc_range (nmC_B hk (s := scN) (i := iN) (m := tN) (cd := 6) (by omega) (by omega) (by omega))
    refine jr_aload (pc := 0) hh 4 dL_numberByHand_0 rfl ?_
    refine jr_iconst (pc := 2) hh dL_numberByHand_2 ?_
    refine jr_aload_n (pc := 3) hh 0 dL_numberByHand_3 rfl rfl ?_
    refine jr_iload_n (pc := 4) hh 1 dL_numberByHand_4 rfl rfl ?_
    refine jr_iload_n (pc := 5) hh 2 dL_numberByHand_5 rfl rfl ?_
    refine jr_iload_n (pc := 6) hh 3 dL_numberByHand_6 rfl rfl ?_
    refine jr_callV (pc := 7) hh [.int (iI (scN : Int)), .int (iI (iN : Int)), .int (iI (tN : Int))] [.int (iI 0), .ref o] (c_X3_numberByHand l G h F V scN iN tN hk (by omega) (by omega) (by omega) (by omega)) gL_numberByHand_X3_numberByHand rfl (by decide) (by decide) [0, 1, 2, 3, 4, 5, 6, 7, 8, 9, 10, 11, 12, 13, 14, 15, 16, 17] [18] rfl rfl rfl rfl (by decide) 0 rfl rfl 3 rfl rfl (Nat.le_of_ble_eq_true rfl) (by decide +kernel) dL_numberByHand_7 (fun rv1 w1 h1 => ?_)
    obtain ⟨rfl, F', hF', rfl⟩ := h1
    refine jr_perm (ws' := wO G h F' V o fo) (st := [.int (iI (enc (nmC F scN tN 6 iN))), .int (iI 0), .ref o]) [1, 2, 3, 4, 5, 6, 7, 8, 9, 10, 11, 12, 13, 14, 15, 16, 17, 18, 0] rfl rfl ?_
    refine jr_i2l (pc := 10) hh dL_numberByHand_10 ⟨by omega, by omega⟩ ?_
    refine jr_last (F := fo) (ws' := wO G h F' V o (jU fo 0 (enc (nmC F scN tN 6 iN)))) (pc := 11) hh 18 rfl 0 rfl (by decide) (by decide) rfl dL_numberByHand_11 ?_
    refine jr_goto (tgt := 23) (pc := 12) hh dL_numberByHand_12 (by decide) ?_
    refine jr_iconst (pc := 23) hh dL_numberByHand_23 ?_
    exact jr_iret (pc := 24) hh hret rfl ⟨jsi hcd.symm, _, _, _, rfl, fun q => absurd hcd q, fun _ => ⟨rfl, hF', rfl⟩⟩ (by decide) (by decide) dL_numberByHand_24
  · skip
    refine jr_aload (pc := 0) hh 4 dL_numberByHand_0 rfl ?_
    refine jr_iconst (pc := 2) hh dL_numberByHand_2 ?_
    refine jr_aload_n (pc := 3) hh 0 dL_numberByHand_3 rfl rfl ?_
    refine jr_iload_n (pc := 4) hh 1 dL_numberByHand_4 rfl rfl ?_
    refine jr_iload_n (pc := 5) hh 2 dL_numberByHand_5 rfl rfl ?_
    refine jr_iload_n (pc := 6) hh 3 dL_numberByHand_6 rfl rfl ?_
    refine jr_ccallV (pc := 7) hh [.int (iI sc), .int (iI i), .int (iI t)] [.int (iI 0), .ref o] (t_X3_numberByHand l G h F V sc i t hrsc hri hrt hk hcd hlt) gL_numberByHand_X3_numberByHand rfl (by decide) (by decide) [0, 1, 2, 3, 4, 5, 6, 7, 8, 9, 10, 11, 12, 13, 14, 15, 16, 17] [18] rfl rfl rfl rfl (by decide) 0 rfl rfl 3 rfl rfl (Nat.le_of_ble_eq_true rfl) (by decide +kernel) dL_numberByHand_7 (fun E w1 h1 => ?_)
    obtain ⟨h1, ⟨F', hF', rfl⟩⟩ := h1
    rcases h1 with ⟨hk1, rfl⟩ | ⟨hk1, rfl⟩
    · skip
      refine ⟨"java/lang/IndexOutOfBoundsException", [], ⟨0, 12, 15, 21⟩, [⟨0, 12, 19, 38⟩], htab.trans rfl, (fun z hz => absurd hz List.not_mem_nil), by decide, by decide, jts hh _ (by decide +kernel : Cond.classLink RL 21 "java/lang/IndexOutOfBoundsException" ∈ wsL_numberByHand), va_Nw.use rfl ((jnn hh).2.2.1.1 "java/lang/IndexOutOfBoundsException" (by decide)), fun q => ?_⟩
      refine jr_ws (ws' := [(o, .inl (G.2 2, 1, .inr (.inl (jL fo))))] ++ wC G h F' V) rfl ?_
      refine jr_perm (ws' := wO G h F' V o fo) [1, 2, 3, 4, 5, 6, 7, 8, 9, 10, 11, 12, 13, 14, 15, 16, 17, 18, 0] rfl rfl ?_
      refine jr_astore (lv' := [(5, .ref q), (0, .ref (h 0)), (1, .int (iI sc)), (2, .int (iI i)), (3, .int (iI t)), (4, .ref o)]) (pc := 15) hh dL_numberByHand_15 (by decide) rfl ?_
      refine jr_iconst (pc := 17) hh dL_numberByHand_17 ?_
      exact jr_iret (pc := 18) hh hret rfl ⟨jsi hk1.symm, _, _, _, rfl, fun _ => ⟨hF', rfl⟩, fun q => absurd q hcd⟩ (by decide) (by decide) dL_numberByHand_18
    · skip
      refine ⟨"java/lang/UnsupportedOperationException", [⟨0, 12, 15, 21⟩], ⟨0, 12, 19, 38⟩, [], htab.trans rfl, ?_, by decide, by decide, jts hh _ (by decide +kernel : Cond.classLink RL 38 "java/lang/UnsupportedOperationException" ∈ wsL_numberByHand), va_Nw.use rfl ((jnn hh).2.2.1.1 "java/lang/UnsupportedOperationException" (by decide)), fun q => ?_⟩
      · intro z hz
        rcases List.mem_cons.mp hz with rfl | hz
        · exact Or.inr ⟨by decide, "java/lang/IndexOutOfBoundsException", jts hh _ (by decide +kernel : Cond.classLink RL 21 "java/lang/IndexOutOfBoundsException" ∈ wsL_numberByHand), hnc "java/lang/UnsupportedOperationException" (by decide) "java/lang/IndexOutOfBoundsException" (by decide) (by decide)⟩
        exact absurd hz List.not_mem_nil
      refine jr_ws (ws' := [(o, .inl (G.2 2, 1, .inr (.inl (jL fo))))] ++ wC G h F' V) rfl ?_
      refine jr_perm (ws' := wO G h F' V o fo) [1, 2, 3, 4, 5, 6, 7, 8, 9, 10, 11, 12, 13, 14, 15, 16, 17, 18, 0] rfl rfl ?_
      refine jr_astore (lv' := [(5, .ref q), (0, .ref (h 0)), (1, .int (iI sc)), (2, .int (iI i)), (3, .int (iI t)), (4, .ref o)]) (pc := 19) hh dL_numberByHand_19 (by decide) rfl ?_
      refine jr_iconst (pc := 21) hh dL_numberByHand_21 ?_
      exact jr_iret (pc := 22) hh hret rfl ⟨jsi hk1.symm, _, _, _, rfl, fun _ => ⟨hF', rfl⟩, fun q => absurd q hcd⟩ (by decide) (by decide) dL_numberByHand_22
set_option maxHeartbeats 4000000 in
set_option maxRecDepth 100000 in
theorem w_year (l : Launch) (hlt : l.stackTraces = false) (G : jG) (h : Nat → Nat) (F : Nat → Nat → Int) (V : Nat → Int) (o : Nat) (fo : Nat → Int) (sc i : Int) (hrsc : jR sc) (hri : jR i) (hk : okC F V) : jMetL l yL_year wsL_year { frames := 14, cells := 1, slots := 6, locals := 4000 } G (wO G h F V o fo) [.ref (h 0), .int (iI sc), .int (iI i), .ref o] (fun rv w1 => rv = some (.int (iI (cdYear (V 0) (V 2) sc i (cntTo (yrX F sc.toNat i.toNat) (-1000000000) 12)))) ∧ ∃ (F' : Nat → Nat → Int) (V' : Nat → Int) (fo' : Nat → Int), w1 = wO G h F' V' o fo' ∧ (cdYear (V 0) (V 2) sc i (cntTo (yrX F sc.toNat i.toNat) (-1000000000) 12) ≠ 0 → scr F F' ∧ V' = V) ∧ (cdYear (V 0) (V 2) sc i (cntTo (yrX F sc.toNat i.toNat) (-1000000000) 12) = 0 → fo' 0 = sumTo (yrX F sc.toNat i.toNat) 12 ∧ scr F F' ∧ V' = V)) := by
  refine jMetL_of (cc := cL_year) (maxL := 5) (ret := (some .int)) (hs := [(0, 9, 12, 21), (0, 9, 16, 38)]) (by decide +kernel) rfl (Nat.le_of_ble_eq_true rfl) ?_
  intro p e s m args below meth c A hh hret htab hnc
  obtain ⟨hV0, hV1, hV2, hV3, hV4, -⟩ := id hk
  have hrsc1 := hrsc.1
  have hrsc2 := hrsc.2
  have hri1 := hri.1
  have hri2 := hri.2
  refine jr_loc (lv' := [(0, .ref (h 0)), (1, .int (iI sc)), (2, .int (iI i)), (3, .ref o)]) [0, 1, 2, 3] rfl ?_
  by_cases hcd : cdYear (V 0) (V 2) sc i (cntTo (yrX F sc.toNat i.toNat) (-1000000000) 12) = 0
  · skip
    have hcd2 := hcd
    unfold cdYear at hcd2
    obtain ⟨scN, rfl⟩ : ∃ k : Nat, sc = (k : Int) := ⟨sc.toNat, by omega⟩
    obtain ⟨iN, rfl⟩ : ∃ k : Nat, i = (k : Int) := ⟨i.toNat, by omega⟩
    try simp only [Int.toNat_natCast] at hcd2
    have hyz : ∀ u : Nat, u < 12 → yrX F scN iN u ≠ -1000000000 := fun u hu hq => by
      have := cntTo_pos (f := yrX F scN iN) (w := -1000000000) (n := 12) u hu hq
      omega
    refine jr_aload_n (pc := 0) hh 3 dL_year_0 rfl rfl ?_
    refine jr_iconst (pc := 1) hh dL_year_1 ?_
    refine jr_aload_n (pc := 2) hh 0 dL_year_2 rfl rfl ?_
    refine jr_iload_n (pc := 3) hh 1 dL_year_3 rfl rfl ?_
    refine jr_iload_n (pc := 4) hh 2 dL_year_4 rfl rfl ?_
    refine jr_callV (pc := 5) hh [.int (iI (scN : Int)), .int (iI (iN : Int))] [.int (iI 0), .ref o] (c_X3_year l G h F V scN iN hk (by omega) (by omega) hyz) gL_year_X3_year rfl (by decide) (by decide) [0, 1, 2, 3, 4, 5, 6, 7, 8, 9, 10, 11, 12, 13, 14, 15, 16, 17] [18] rfl rfl rfl rfl (by decide) 0 rfl rfl 2 rfl rfl (Nat.le_of_ble_eq_true rfl) (by decide +kernel) dL_year_5 (fun rv1 w1 h1 => ?_)
    obtain ⟨rfl, F', hF', rfl⟩ := h1
    refine jr_perm (ws' := wO G h F' V o fo) (st := [.long (lI (sumTo (yrX F scN iN) 12)), .int (iI 0), .ref o]) [1, 2, 3, 4, 5, 6, 7, 8, 9, 10, 11, 12, 13, 14, 15, 16, 17, 18, 0] rfl rfl ?_
    refine jr_last (F := fo) (ws' := wO G h F' V o (jU fo 0 (sumTo (yrX F scN iN) 12))) (pc := 8) hh 18 rfl 0 rfl (by decide) (by decide) rfl dL_year_8 ?_
    refine jr_goto (tgt := 20) (pc := 9) hh dL_year_9 (by decide) ?_
    refine jr_iconst (pc := 20) hh dL_year_20 ?_
    exact jr_iret (pc := 21) hh hret rfl ⟨jsi hcd.symm, _, _, _, rfl, fun q => absurd hcd q, fun _ => ⟨rfl, hF', rfl⟩⟩ (by decide) (by decide) dL_year_21
  · skip
    refine jr_aload_n (pc := 0) hh 3 dL_year_0 rfl rfl ?_
    refine jr_iconst (pc := 1) hh dL_year_1 ?_
    refine jr_aload_n (pc := 2) hh 0 dL_year_2 rfl rfl ?_
    refine jr_iload_n (pc := 3) hh 1 dL_year_3 rfl rfl ?_
    refine jr_iload_n (pc := 4) hh 2 dL_year_4 rfl rfl ?_
    refine jr_ccallV (pc := 5) hh [.int (iI sc), .int (iI i)] [.int (iI 0), .ref o] (t_X3_year l G h F V sc i hrsc hri hk hcd hlt) gL_year_X3_year rfl (by decide) (by decide) [0, 1, 2, 3, 4, 5, 6, 7, 8, 9, 10, 11, 12, 13, 14, 15, 16, 17] [18] rfl rfl rfl rfl (by decide) 0 rfl rfl 2 rfl rfl (Nat.le_of_ble_eq_true rfl) (by decide +kernel) dL_year_5 (fun E w1 h1 => ?_)
    obtain ⟨h1, ⟨F', hF', rfl⟩⟩ := h1
    rcases h1 with ⟨hk1, rfl⟩ | ⟨hk1, rfl⟩
    · skip
      refine ⟨"java/lang/IndexOutOfBoundsException", [], ⟨0, 9, 12, 21⟩, [⟨0, 9, 16, 38⟩], htab.trans rfl, (fun z hz => absurd hz List.not_mem_nil), by decide, by decide, jts hh _ (by decide +kernel : Cond.classLink RL 21 "java/lang/IndexOutOfBoundsException" ∈ wsL_year), va_Nw.use rfl ((jnn hh).2.2.1.1 "java/lang/IndexOutOfBoundsException" (by decide)), fun q => ?_⟩
      refine jr_ws (ws' := [(o, .inl (G.2 2, 1, .inr (.inl (jL fo))))] ++ wC G h F' V) rfl ?_
      refine jr_perm (ws' := wO G h F' V o fo) [1, 2, 3, 4, 5, 6, 7, 8, 9, 10, 11, 12, 13, 14, 15, 16, 17, 18, 0] rfl rfl ?_
      refine jr_astore (lv' := [(4, .ref q), (0, .ref (h 0)), (1, .int (iI sc)), (2, .int (iI i)), (3, .ref o)]) (pc := 12) hh dL_year_12 (by decide) rfl ?_
      refine jr_iconst (pc := 14) hh dL_year_14 ?_
      exact jr_iret (pc := 15) hh hret rfl ⟨jsi hk1.symm, _, _, _, rfl, fun _ => ⟨hF', rfl⟩, fun q => absurd q hcd⟩ (by decide) (by decide) dL_year_15
    · skip
      refine ⟨"java/lang/UnsupportedOperationException", [⟨0, 9, 12, 21⟩], ⟨0, 9, 16, 38⟩, [], htab.trans rfl, ?_, by decide, by decide, jts hh _ (by decide +kernel : Cond.classLink RL 38 "java/lang/UnsupportedOperationException" ∈ wsL_year), va_Nw.use rfl ((jnn hh).2.2.1.1 "java/lang/UnsupportedOperationException" (by decide)), fun q => ?_⟩
      · intro z hz
        rcases List.mem_cons.mp hz with rfl | hz
        · exact Or.inr ⟨by decide, "java/lang/IndexOutOfBoundsException", jts hh _ (by decide +kernel : Cond.classLink RL 21 "java/lang/IndexOutOfBoundsException" ∈ wsL_year), hnc "java/lang/UnsupportedOperationException" (by decide) "java/lang/IndexOutOfBoundsException" (by decide) (by decide)⟩
        exact absurd hz List.not_mem_nil
      refine jr_ws (ws' := [(o, .inl (G.2 2, 1, .inr (.inl (jL fo))))] ++ wC G h F' V) rfl ?_
      refine jr_perm (ws' := wO G h F' V o fo) [1, 2, 3, 4, 5, 6, 7, 8, 9, 10, 11, 12, 13, 14, 15, 16, 17, 18, 0] rfl rfl ?_
      refine jr_astore (lv' := [(4, .ref q), (0, .ref (h 0)), (1, .int (iI sc)), (2, .int (iI i)), (3, .ref o)]) (pc := 16) hh dL_year_16 (by decide) rfl ?_
      refine jr_iconst (pc := 18) hh dL_year_18 ?_
      exact jr_iret (pc := 19) hh hret rfl ⟨jsi hk1.symm, _, _, _, rfl, fun _ => ⟨hF', rfl⟩, fun q => absurd q hcd⟩ (by decide) (by decide) dL_year_19
set_option maxHeartbeats 4000000 in
set_option maxRecDepth 100000 in
theorem w_effect (l : Launch) (hlt : l.stackTraces = false) (G : jG) (h : Nat → Nat) (F : Nat → Nat → Int) (V : Nat → Int) (o : Nat) (fo : Nat → Int) (sc d i t : Int) (hrsc : jR sc) (hrd : jR d) (hri : jR i) (hrt : jR t) (hk : okC F V) : jMetL l yL_effect wsL_effect { frames := 14, cells := 1, slots := 6, locals := 4000 } G (wO G h F V o fo) [.ref (h 0), .int (iI sc), .int (iI d), .int (iI i), .int (iI t), .ref o] (fun rv w1 => rv = some (.int (iI (cdEffect (V 0) (V 3) (V 2) sc d i t (enc (nmC F sc.toNat t.toNat (d.toNat + 1) i.toNat)) (enc (nmC F sc.toNat t.toNat d.toNat i.toNat))))) ∧ ∃ (F' : Nat → Nat → Int) (V' : Nat → Int) (fo' : Nat → Int), w1 = wO G h F' V' o fo' ∧ (cdEffect (V 0) (V 3) (V 2) sc d i t (enc (nmC F sc.toNat t.toNat (d.toNat + 1) i.toNat)) (enc (nmC F sc.toNat t.toNat d.toNat i.toNat)) ≠ 0 → scr F F' ∧ V' = V) ∧ (cdEffect (V 0) (V 3) (V 2) sc d i t (enc (nmC F sc.toNat t.toNat (d.toNat + 1) i.toNat)) (enc (nmC F sc.toNat t.toNat d.toNat i.toNat)) = 0 → fo' 0 = enc (nmC F sc.toNat t.toNat (d.toNat + 1) i.toNat) - enc (nmC F sc.toNat t.toNat d.toNat i.toNat) ∧ scr F F' ∧ V' = V)) := by
  refine jMetL_of (cc := cL_effect) (maxL := 7) (ret := (some .int)) (hs := [(0, 14, 17, 21), (0, 14, 21, 38)]) (by decide +kernel) rfl (Nat.le_of_ble_eq_true rfl) ?_
  intro p e s m args below meth c A hh hret htab hnc
  obtain ⟨hV0, hV1, hV2, hV3, hV4, -⟩ := id hk
  have hrsc1 := hrsc.1
  have hrsc2 := hrsc.2
  have hrd1 := hrd.1
  have hrd2 := hrd.2
  have hri1 := hri.1
  have hri2 := hri.2
  have hrt1 := hrt.1
  have hrt2 := hrt.2
  refine jr_loc (lv' := [(0, .ref (h 0)), (1, .int (iI sc)), (2, .int (iI d)), (3, .int (iI i)), (4, .int (iI t)), (5, .ref o)]) [0, 1, 2, 3, 4, 5] rfl ?_
  by_cases hcd : cdEffect (V 0) (V 3) (V 2) sc d i t (enc (nmC F sc.toNat t.toNat (d.toNat + 1) i.toNat)) (enc (nmC F sc.toNat t.toNat d.toNat i.toNat)) = 0
  · skip
    have hcd2 := hcd
    unfold cdEffect at hcd2
    obtain ⟨scN, rfl⟩ : ∃ k : Nat, sc = (k : Int) := ⟨sc.toNat, by omega⟩
    obtain ⟨dN, rfl⟩ : ∃ k : Nat, d = (k : Int) := ⟨d.toNat, by omega⟩
    obtain ⟨iN, rfl⟩ : ∃ k : Nat, i = (k : Int) := ⟨i.toNat, by omega⟩
    obtain ⟨tN, rfl⟩ : ∃ k : Nat, t = (k : Int) := ⟨t.toNat, by omega⟩
    try simp only [Int.toNat_natCast] at hcd2
    have hnr := enc_range (nmC_B hk (s := scN) (i := iN) (m := tN) (cd := dN) (by omega) (by omega) (by omega))
    have hnr2 := enc_range (nmC_B hk (s := scN) (i := iN) (m := tN) (cd := dN + 1) (by omega) (by omega) (by omega))
    refine jr_aload (pc := 0) hh 5 dL_effect_0 rfl ?_
    refine jr_iconst (pc := 2) hh dL_effect_2 ?_
    refine jr_aload_n (pc := 3) hh 0 dL_effect_3 rfl rfl ?_
    refine jr_iload_n (pc := 4) hh 1 dL_effect_4 rfl rfl ?_
    refine jr_iload_n (pc := 5) hh 2 dL_effect_5 rfl rfl ?_
    refine jr_iload_n (pc := 6) hh 3 dL_effect_6 rfl rfl ?_
    refine jr_iload (pc := 7) hh 4 dL_effect_7 rfl ?_
    refine jr_callV (pc := 9) hh [.int (iI (scN : Int)), .int (iI (dN : Int)), .int (iI (iN : Int)), .int (iI (tN : Int))] [.int (iI 0), .ref o] (c_X3_effect l G h F V scN dN iN tN hk (by omega) (by omega) (by omega) (by omega) (by omega) (by omega)) gL_effect_X3_effect rfl (by decide) (by decide) [0, 1, 2, 3, 4, 5, 6, 7, 8, 9, 10, 11, 12, 13, 14, 15, 16, 17] [18] rfl rfl rfl rfl (by decide) 0 rfl rfl 4 rfl rfl (Nat.le_of_ble_eq_true rfl) (by decide +kernel) dL_effect_9 (fun rv1 w1 h1 => ?_)
    obtain ⟨rfl, F', hF', rfl⟩ := h1
    refine jr_perm (ws' := wO G h F' V o fo) (st := [.int (iI (enc (nmC F scN tN (dN + 1) iN) - enc (nmC F scN tN dN iN))), .int (iI 0), .ref o]) [1, 2, 3, 4, 5, 6, 7, 8, 9, 10, 11, 12, 13, 14, 15, 16, 17, 18, 0] rfl rfl ?_
    refine jr_i2l (pc := 12) hh dL_effect_12 ⟨by omega, by omega⟩ ?_
    refine jr_last (F := fo) (ws' := wO G h F' V o (jU fo 0 (enc (nmC F scN tN (dN + 1) iN) - enc (nmC F scN tN dN iN)))) (pc := 13) hh 18 rfl 0 rfl (by decide) (by decide) rfl dL_effect_13 ?_
    refine jr_goto (tgt := 25) (pc := 14) hh dL_effect_14 (by decide) ?_
    refine jr_iconst (pc := 25) hh dL_effect_25 ?_
    exact jr_iret (pc := 26) hh hret rfl ⟨jsi hcd.symm, _, _, _, rfl, fun q => absurd hcd q, fun _ => ⟨rfl, hF', rfl⟩⟩ (by decide) (by decide) dL_effect_26
  · skip
    refine jr_aload (pc := 0) hh 5 dL_effect_0 rfl ?_
    refine jr_iconst (pc := 2) hh dL_effect_2 ?_
    refine jr_aload_n (pc := 3) hh 0 dL_effect_3 rfl rfl ?_
    refine jr_iload_n (pc := 4) hh 1 dL_effect_4 rfl rfl ?_
    refine jr_iload_n (pc := 5) hh 2 dL_effect_5 rfl rfl ?_
    refine jr_iload_n (pc := 6) hh 3 dL_effect_6 rfl rfl ?_
    refine jr_iload (pc := 7) hh 4 dL_effect_7 rfl ?_
    refine jr_ccallV (pc := 9) hh [.int (iI sc), .int (iI d), .int (iI i), .int (iI t)] [.int (iI 0), .ref o] (t_X3_effect l G h F V sc d i t hrsc hrd hri hrt hk hcd hlt) gL_effect_X3_effect rfl (by decide) (by decide) [0, 1, 2, 3, 4, 5, 6, 7, 8, 9, 10, 11, 12, 13, 14, 15, 16, 17] [18] rfl rfl rfl rfl (by decide) 0 rfl rfl 4 rfl rfl (Nat.le_of_ble_eq_true rfl) (by decide +kernel) dL_effect_9 (fun E w1 h1 => ?_)
    obtain ⟨h1, ⟨F', hF', rfl⟩⟩ := h1
    rcases h1 with ⟨hk1, rfl⟩ | ⟨hk1, rfl⟩
    · skip
      refine ⟨"java/lang/IndexOutOfBoundsException", [], ⟨0, 14, 17, 21⟩, [⟨0, 14, 21, 38⟩], htab.trans rfl, (fun z hz => absurd hz List.not_mem_nil), by decide, by decide, jts hh _ (by decide +kernel : Cond.classLink RL 21 "java/lang/IndexOutOfBoundsException" ∈ wsL_effect), va_Nw.use rfl ((jnn hh).2.2.1.1 "java/lang/IndexOutOfBoundsException" (by decide)), fun q => ?_⟩
      refine jr_ws (ws' := [(o, .inl (G.2 2, 1, .inr (.inl (jL fo))))] ++ wC G h F' V) rfl ?_
      refine jr_perm (ws' := wO G h F' V o fo) [1, 2, 3, 4, 5, 6, 7, 8, 9, 10, 11, 12, 13, 14, 15, 16, 17, 18, 0] rfl rfl ?_
      refine jr_astore (lv' := [(6, .ref q), (0, .ref (h 0)), (1, .int (iI sc)), (2, .int (iI d)), (3, .int (iI i)), (4, .int (iI t)), (5, .ref o)]) (pc := 17) hh dL_effect_17 (by decide) rfl ?_
      refine jr_iconst (pc := 19) hh dL_effect_19 ?_
      exact jr_iret (pc := 20) hh hret rfl ⟨jsi hk1.symm, _, _, _, rfl, fun _ => ⟨hF', rfl⟩, fun q => absurd q hcd⟩ (by decide) (by decide) dL_effect_20
    · skip
      refine ⟨"java/lang/UnsupportedOperationException", [⟨0, 14, 17, 21⟩], ⟨0, 14, 21, 38⟩, [], htab.trans rfl, ?_, by decide, by decide, jts hh _ (by decide +kernel : Cond.classLink RL 38 "java/lang/UnsupportedOperationException" ∈ wsL_effect), va_Nw.use rfl ((jnn hh).2.2.1.1 "java/lang/UnsupportedOperationException" (by decide)), fun q => ?_⟩
      · intro z hz
        rcases List.mem_cons.mp hz with rfl | hz
        · exact Or.inr ⟨by decide, "java/lang/IndexOutOfBoundsException", jts hh _ (by decide +kernel : Cond.classLink RL 21 "java/lang/IndexOutOfBoundsException" ∈ wsL_effect), hnc "java/lang/UnsupportedOperationException" (by decide) "java/lang/IndexOutOfBoundsException" (by decide) (by decide)⟩
        exact absurd hz List.not_mem_nil
      refine jr_ws (ws' := [(o, .inl (G.2 2, 1, .inr (.inl (jL fo))))] ++ wC G h F' V) rfl ?_
      refine jr_perm (ws' := wO G h F' V o fo) [1, 2, 3, 4, 5, 6, 7, 8, 9, 10, 11, 12, 13, 14, 15, 16, 17, 18, 0] rfl rfl ?_
      refine jr_astore (lv' := [(6, .ref q), (0, .ref (h 0)), (1, .int (iI sc)), (2, .int (iI d)), (3, .int (iI i)), (4, .int (iI t)), (5, .ref o)]) (pc := 21) hh dL_effect_21 (by decide) rfl ?_
      refine jr_iconst (pc := 23) hh dL_effect_23 ?_
      exact jr_iret (pc := 24) hh hret rfl ⟨jsi hk1.symm, _, _, _, rfl, fun _ => ⟨hF', rfl⟩, fun q => absurd q hcd⟩ (by decide) (by decide) dL_effect_24
set_option maxHeartbeats 4000000 in
set_option maxRecDepth 100000 in
theorem w_seek (l : Launch) (hlt : l.stackTraces = false) (G : jG) (h : Nat → Nat) (F : Nat → Nat → Int) (V : Nat → Int) (o : Nat) (fo : Nat → Int) (d i t goal : Int) (hrd : jR d) (hri : jR i) (hrt : jR t) (hrgoal : jR goal) (hk : okC F V) : jMetL l yL_seek wsL_seek { frames := 14, cells := 1, slots := 6, locals := 4000 } G (wO G h F V o fo) [.ref (h 0), .int (iI d), .int (iI i), .int (iI t), .int (iI goal), .ref o] (fun rv w1 => rv = some (.int (iI (cdSeek (V 3) (V 2) d i t (fstP (skP F d.toNat t.toNat i.toNat goal) 1000)))) ∧ ∃ (F' : Nat → Nat → Int) (V' : Nat → Int) (fo' : Nat → Int), w1 = wO G h F' V' o fo' ∧ (cdSeek (V 3) (V 2) d i t (fstP (skP F d.toNat t.toNat i.toNat goal) 1000) ≠ 0 → scr F F' ∧ V' = V) ∧ (cdSeek (V 3) (V 2) d i t (fstP (skP F d.toNat t.toNat i.toNat goal) 1000) = 0 → fo' 0 = fstP (skP F d.toNat t.toNat i.toNat goal) 1000 ∧ scr F F' ∧ V' = V)) := by
  refine jMetL_of (cc := cL_seek) (maxL := 7) (ret := (some .int)) (hs := [(0, 14, 17, 21), (0, 14, 21, 56)]) (by decide +kernel) rfl (Nat.le_of_ble_eq_true rfl) ?_
  intro p e s m args below meth c A hh hret htab hnc
  obtain ⟨hV0, hV1, hV2, hV3, hV4, -⟩ := id hk
  have hrd1 := hrd.1
  have hrd2 := hrd.2
  have hri1 := hri.1
  have hri2 := hri.2
  have hrt1 := hrt.1
  have hrt2 := hrt.2
  have hrgoal1 := hrgoal.1
  have hrgoal2 := hrgoal.2
  refine jr_loc (lv' := [(0, .ref (h 0)), (1, .int (iI d)), (2, .int (iI i)), (3, .int (iI t)), (4, .int (iI goal)), (5, .ref o)]) [0, 1, 2, 3, 4, 5] rfl ?_
  by_cases hcd : cdSeek (V 3) (V 2) d i t (fstP (skP F d.toNat t.toNat i.toNat goal) 1000) = 0
  · skip
    have hcd2 := hcd
    unfold cdSeek at hcd2
    obtain ⟨dN, rfl⟩ : ∃ k : Nat, d = (k : Int) := ⟨d.toNat, by omega⟩
    obtain ⟨iN, rfl⟩ : ∃ k : Nat, i = (k : Int) := ⟨i.toNat, by omega⟩
    obtain ⟨tN, rfl⟩ : ∃ k : Nat, t = (k : Int) := ⟨t.toNat, by omega⟩
    try simp only [Int.toNat_natCast] at hcd2
    have hfB := fstP_B (skP F dN tN iN goal) 1000
    refine jr_aload (pc := 0) hh 5 dL_seek_0 rfl ?_
    refine jr_iconst (pc := 2) hh dL_seek_2 ?_
    refine jr_aload_n (pc := 3) hh 0 dL_seek_3 rfl rfl ?_
    refine jr_iload_n (pc := 4) hh 1 dL_seek_4 rfl rfl ?_
    refine jr_iload_n (pc := 5) hh 2 dL_seek_5 rfl rfl ?_
    refine jr_iload_n (pc := 6) hh 3 dL_seek_6 rfl rfl ?_
    refine jr_iload (pc := 7) hh 4 dL_seek_7 rfl ?_
    refine jr_callV (pc := 9) hh [.int (iI (dN : Int)), .int (iI (iN : Int)), .int (iI (tN : Int)), .int (iI goal)] [.int (iI 0), .ref o] (c_X3_seek l G h F V dN iN tN goal hk (by omega) (by omega) (by omega) hrgoal (by omega)) gL_seek_X3_seek rfl (by decide) (by decide) [0, 1, 2, 3, 4, 5, 6, 7, 8, 9, 10, 11, 12, 13, 14, 15, 16, 17] [18] rfl rfl rfl rfl (by decide) 0 rfl rfl 4 rfl rfl (Nat.le_of_ble_eq_true rfl) (by decide +kernel) dL_seek_9 (fun rv1 w1 h1 => ?_)
    obtain ⟨rfl, F', hF', rfl⟩ := h1
    refine jr_perm (ws' := wO G h F' V o fo) (st := [.int (iI (fstP (skP F dN tN iN goal) 1000)), .int (iI 0), .ref o]) [1, 2, 3, 4, 5, 6, 7, 8, 9, 10, 11, 12, 13, 14, 15, 16, 17, 18, 0] rfl rfl ?_
    refine jr_i2l (pc := 12) hh dL_seek_12 ⟨by omega, by omega⟩ ?_
    refine jr_last (F := fo) (ws' := wO G h F' V o (jU fo 0 (fstP (skP F dN tN iN goal) 1000))) (pc := 13) hh 18 rfl 0 rfl (by decide) (by decide) rfl dL_seek_13 ?_
    refine jr_goto (tgt := 25) (pc := 14) hh dL_seek_14 (by decide) ?_
    refine jr_iconst (pc := 25) hh dL_seek_25 ?_
    exact jr_iret (pc := 26) hh hret rfl ⟨jsi hcd.symm, _, _, _, rfl, fun q => absurd hcd q, fun _ => ⟨rfl, hF', rfl⟩⟩ (by decide) (by decide) dL_seek_26
  · skip
    refine jr_aload (pc := 0) hh 5 dL_seek_0 rfl ?_
    refine jr_iconst (pc := 2) hh dL_seek_2 ?_
    refine jr_aload_n (pc := 3) hh 0 dL_seek_3 rfl rfl ?_
    refine jr_iload_n (pc := 4) hh 1 dL_seek_4 rfl rfl ?_
    refine jr_iload_n (pc := 5) hh 2 dL_seek_5 rfl rfl ?_
    refine jr_iload_n (pc := 6) hh 3 dL_seek_6 rfl rfl ?_
    refine jr_iload (pc := 7) hh 4 dL_seek_7 rfl ?_
    refine jr_ccallV (pc := 9) hh [.int (iI d), .int (iI i), .int (iI t), .int (iI goal)] [.int (iI 0), .ref o] (t_X3_seek l G h F V d i t goal hrd hri hrt hrgoal hk hcd hlt) gL_seek_X3_seek rfl (by decide) (by decide) [0, 1, 2, 3, 4, 5, 6, 7, 8, 9, 10, 11, 12, 13, 14, 15, 16, 17] [18] rfl rfl rfl rfl (by decide) 0 rfl rfl 4 rfl rfl (Nat.le_of_ble_eq_true rfl) (by decide +kernel) dL_seek_9 (fun E w1 h1 => ?_)
    obtain ⟨h1, ⟨F', hF', rfl⟩⟩ := h1
    rcases h1 with ⟨hk1, rfl⟩ | ⟨hk1, rfl⟩
    · skip
      refine ⟨"java/lang/IndexOutOfBoundsException", [], ⟨0, 14, 17, 21⟩, [⟨0, 14, 21, 56⟩], htab.trans rfl, (fun z hz => absurd hz List.not_mem_nil), by decide, by decide, jts hh _ (by decide +kernel : Cond.classLink RL 21 "java/lang/IndexOutOfBoundsException" ∈ wsL_seek), va_Nw.use rfl ((jnn hh).2.2.1.1 "java/lang/IndexOutOfBoundsException" (by decide)), fun q => ?_⟩
      refine jr_ws (ws' := [(o, .inl (G.2 2, 1, .inr (.inl (jL fo))))] ++ wC G h F' V) rfl ?_
      refine jr_perm (ws' := wO G h F' V o fo) [1, 2, 3, 4, 5, 6, 7, 8, 9, 10, 11, 12, 13, 14, 15, 16, 17, 18, 0] rfl rfl ?_
      refine jr_astore (lv' := [(6, .ref q), (0, .ref (h 0)), (1, .int (iI d)), (2, .int (iI i)), (3, .int (iI t)), (4, .int (iI goal)), (5, .ref o)]) (pc := 17) hh dL_seek_17 (by decide) rfl ?_
      refine jr_iconst (pc := 19) hh dL_seek_19 ?_
      exact jr_iret (pc := 20) hh hret rfl ⟨jsi hk1.symm, _, _, _, rfl, fun _ => ⟨hF', rfl⟩, fun q => absurd q hcd⟩ (by decide) (by decide) dL_seek_20
    · skip
      refine ⟨"java/util/NoSuchElementException", [⟨0, 14, 17, 21⟩], ⟨0, 14, 21, 56⟩, [], htab.trans rfl, ?_, by decide, by decide, jts hh _ (by decide +kernel : Cond.classLink RL 56 "java/util/NoSuchElementException" ∈ wsL_seek), va_Nw.use rfl ((jnn hh).2.2.1.1 "java/util/NoSuchElementException" (by decide)), fun q => ?_⟩
      · intro z hz
        rcases List.mem_cons.mp hz with rfl | hz
        · exact Or.inr ⟨by decide, "java/lang/IndexOutOfBoundsException", jts hh _ (by decide +kernel : Cond.classLink RL 21 "java/lang/IndexOutOfBoundsException" ∈ wsL_seek), hnc "java/util/NoSuchElementException" (by decide) "java/lang/IndexOutOfBoundsException" (by decide) (by decide)⟩
        exact absurd hz List.not_mem_nil
      refine jr_ws (ws' := [(o, .inl (G.2 2, 1, .inr (.inl (jL fo))))] ++ wC G h F' V) rfl ?_
      refine jr_perm (ws' := wO G h F' V o fo) [1, 2, 3, 4, 5, 6, 7, 8, 9, 10, 11, 12, 13, 14, 15, 16, 17, 18, 0] rfl rfl ?_
      refine jr_astore (lv' := [(6, .ref q), (0, .ref (h 0)), (1, .int (iI d)), (2, .int (iI i)), (3, .int (iI t)), (4, .int (iI goal)), (5, .ref o)]) (pc := 21) hh dL_seek_21 (by decide) rfl ?_
      refine jr_iconst (pc := 23) hh dL_seek_23 ?_
      exact jr_iret (pc := 24) hh hret rfl ⟨jsi hk1.symm, _, _, _, rfl, fun _ => ⟨hF', rfl⟩, fun q => absurd q hcd⟩ (by decide) (by decide) dL_seek_24
set_option maxHeartbeats 4000000 in
set_option maxRecDepth 100000 in
theorem w_actual (l : Launch) (hlt : l.stackTraces = false) (G : jG) (h : Nat → Nat) (F : Nat → Nat → Int) (V : Nat → Int) (o : Nat) (fo : Nat → Int) (i t x : Int) (hri : jR i) (hrt : jR t) (hrx : jR x) (hk : okC F V) : jMetL l yL_actual wsL_actual { frames := 14, cells := 1, slots := 6, locals := 4000 } G (wO G h F V o fo) [.ref (h 0), .int (iI i), .int (iI t), .int (iI x), .ref o] (fun rv w1 => rv = some (.int (iI (cdActual (V 2) (V 4) i t x))) ∧ ∃ (F' : Nat → Nat → Int) (V' : Nat → Int) (fo' : Nat → Int), w1 = wO G h F' V' o fo' ∧ (cdActual (V 2) (V 4) i t x ≠ 0 → scr F F' ∧ V' = V) ∧ (cdActual (V 2) (V 4) i t x = 0 → fo' 0 = cntC (uF F 8 (jU (F 8) (i.toNat * 12 + t.toNat) x)) V ∧ scS (uF F 8 (jU (F 8) (i.toNat * 12 + t.toNat) x)) F' V 12 ∧ V' = V)) := by
  refine jMetL_of (cc := cL_actual) (maxL := 6) (ret := (some .int)) (hs := [(0, 12, 15, 21), (0, 12, 19, 13)]) (by decide +kernel) rfl (Nat.le_of_ble_eq_true rfl) ?_
  intro p e s m args below meth c A hh hret htab hnc
  obtain ⟨hV0, hV1, hV2, hV3, hV4, -⟩ := id hk
  have hri1 := hri.1
  have hri2 := hri.2
  have hrt1 := hrt.1
  have hrt2 := hrt.2
  have hrx1 := hrx.1
  have hrx2 := hrx.2
  refine jr_loc (lv' := [(0, .ref (h 0)), (1, .int (iI i)), (2, .int (iI t)), (3, .int (iI x)), (4, .ref o)]) [0, 1, 2, 3, 4] rfl ?_
  by_cases hcd : cdActual (V 2) (V 4) i t x = 0
  · skip
    have hcd2 := hcd
    unfold cdActual at hcd2
    obtain ⟨iN, rfl⟩ : ∃ k : Nat, i = (k : Int) := ⟨i.toNat, by omega⟩
    obtain ⟨tN, rfl⟩ : ∃ k : Nat, t = (k : Int) := ⟨t.toNat, by omega⟩
    try simp only [Int.toNat_natCast] at hcd2
    have hcB := cntC_B (F := (uF F 8 (jU (F 8) (iN * 12 + tN) x))) (V := V) hV2 12
    rw [show sumTo (rowC (uF F 8 (jU (F 8) (iN * 12 + tN) x)) V) 12 = cntC (uF F 8 (jU (F 8) (iN * 12 + tN) x)) V from rfl] at hcB
    refine jr_aload (pc := 0) hh 4 dL_actual_0 rfl ?_
    refine jr_iconst (pc := 2) hh dL_actual_2 ?_
    refine jr_aload_n (pc := 3) hh 0 dL_actual_3 rfl rfl ?_
    refine jr_iload_n (pc := 4) hh 1 dL_actual_4 rfl rfl ?_
    refine jr_iload_n (pc := 5) hh 2 dL_actual_5 rfl rfl ?_
    refine jr_iload_n (pc := 6) hh 3 dL_actual_6 rfl rfl ?_
    refine jr_callV (pc := 7) hh [.int (iI (iN : Int)), .int (iI (tN : Int)), .int (iI x)] [.int (iI 0), .ref o] (c_X3_actual l G h F V iN tN x hk (by omega) (by omega) (by omega) (by omega)) gL_actual_X3_actual rfl (by decide) (by decide) [0, 1, 2, 3, 4, 5, 6, 7, 8, 9, 10, 11, 12, 13, 14, 15, 16, 17] [18] rfl rfl rfl rfl (by decide) 0 rfl rfl 3 rfl rfl (Nat.le_of_ble_eq_true rfl) (by decide +kernel) dL_actual_7 (fun rv1 w1 h1 => ?_)
    obtain ⟨rfl, F', hF', rfl⟩ := h1
    refine jr_perm (ws' := wO G h F' V o fo) (st := [.int (iI (cntC (uF F 8 (jU (F 8) (iN * 12 + tN) x)) V)), .int (iI 0), .ref o]) [1, 2, 3, 4, 5, 6, 7, 8, 9, 10, 11, 12, 13, 14, 15, 16, 17, 18, 0] rfl rfl ?_
    refine jr_i2l (pc := 10) hh dL_actual_10 ⟨by omega, by omega⟩ ?_
    refine jr_last (F := fo) (ws' := wO G h F' V o (jU fo 0 (cntC (uF F 8 (jU (F 8) (iN * 12 + tN) x)) V))) (pc := 11) hh 18 rfl 0 rfl (by decide) (by decide) rfl dL_actual_11 ?_
    refine jr_goto (tgt := 23) (pc := 12) hh dL_actual_12 (by decide) ?_
    refine jr_iconst (pc := 23) hh dL_actual_23 ?_
    exact jr_iret (pc := 24) hh hret rfl ⟨jsi hcd.symm, _, _, _, rfl, fun q => absurd hcd q, fun _ => ⟨rfl, hF', rfl⟩⟩ (by decide) (by decide) dL_actual_24
  · skip
    refine jr_aload (pc := 0) hh 4 dL_actual_0 rfl ?_
    refine jr_iconst (pc := 2) hh dL_actual_2 ?_
    refine jr_aload_n (pc := 3) hh 0 dL_actual_3 rfl rfl ?_
    refine jr_iload_n (pc := 4) hh 1 dL_actual_4 rfl rfl ?_
    refine jr_iload_n (pc := 5) hh 2 dL_actual_5 rfl rfl ?_
    refine jr_iload_n (pc := 6) hh 3 dL_actual_6 rfl rfl ?_
    refine jr_ccallV (pc := 7) hh [.int (iI i), .int (iI t), .int (iI x)] [.int (iI 0), .ref o] (t_X3_actual l G h F V i t x hri hrt hrx hk hcd hlt) gL_actual_X3_actual rfl (by decide) (by decide) [0, 1, 2, 3, 4, 5, 6, 7, 8, 9, 10, 11, 12, 13, 14, 15, 16, 17] [18] rfl rfl rfl rfl (by decide) 0 rfl rfl 3 rfl rfl (Nat.le_of_ble_eq_true rfl) (by decide +kernel) dL_actual_7 (fun E w1 h1 => ?_)
    obtain ⟨h1, rfl⟩ := h1
    rcases h1 with ⟨hk1, rfl⟩ | ⟨hk1, rfl⟩
    · skip
      refine ⟨"java/lang/IndexOutOfBoundsException", [], ⟨0, 12, 15, 21⟩, [⟨0, 12, 19, 13⟩], htab.trans rfl, (fun z hz => absurd hz List.not_mem_nil), by decide, by decide, jts hh _ (by decide +kernel : Cond.classLink RL 21 "java/lang/IndexOutOfBoundsException" ∈ wsL_actual), va_Nw.use rfl ((jnn hh).2.2.1.1 "java/lang/IndexOutOfBoundsException" (by decide)), fun q => ?_⟩
      refine jr_ws (ws' := [(o, .inl (G.2 2, 1, .inr (.inl (jL fo))))] ++ wC G h F V) rfl ?_
      refine jr_perm (ws' := wO G h F V o fo) [1, 2, 3, 4, 5, 6, 7, 8, 9, 10, 11, 12, 13, 14, 15, 16, 17, 18, 0] rfl rfl ?_
      refine jr_astore (lv' := [(5, .ref q), (0, .ref (h 0)), (1, .int (iI i)), (2, .int (iI t)), (3, .int (iI x)), (4, .ref o)]) (pc := 15) hh dL_actual_15 (by decide) rfl ?_
      refine jr_iconst (pc := 17) hh dL_actual_17 ?_
      exact jr_iret (pc := 18) hh hret rfl ⟨jsi hk1.symm, _, _, _, rfl, fun _ => ⟨scr_rf hk, rfl⟩, fun q => absurd q hcd⟩ (by decide) (by decide) dL_actual_18
    · skip
      refine ⟨"java/lang/IllegalArgumentException", [⟨0, 12, 15, 21⟩], ⟨0, 12, 19, 13⟩, [], htab.trans rfl, ?_, by decide, by decide, jts hh _ (by decide +kernel : Cond.classLink RL 13 "java/lang/IllegalArgumentException" ∈ wsL_actual), va_Nw.use rfl ((jnn hh).2.2.1.1 "java/lang/IllegalArgumentException" (by decide)), fun q => ?_⟩
      · intro z hz
        rcases List.mem_cons.mp hz with rfl | hz
        · exact Or.inr ⟨by decide, "java/lang/IndexOutOfBoundsException", jts hh _ (by decide +kernel : Cond.classLink RL 21 "java/lang/IndexOutOfBoundsException" ∈ wsL_actual), hnc "java/lang/IllegalArgumentException" (by decide) "java/lang/IndexOutOfBoundsException" (by decide) (by decide)⟩
        exact absurd hz List.not_mem_nil
      refine jr_ws (ws' := [(o, .inl (G.2 2, 1, .inr (.inl (jL fo))))] ++ wC G h F V) rfl ?_
      refine jr_perm (ws' := wO G h F V o fo) [1, 2, 3, 4, 5, 6, 7, 8, 9, 10, 11, 12, 13, 14, 15, 16, 17, 18, 0] rfl rfl ?_
      refine jr_astore (lv' := [(5, .ref q), (0, .ref (h 0)), (1, .int (iI i)), (2, .int (iI t)), (3, .int (iI x)), (4, .ref o)]) (pc := 19) hh dL_actual_19 (by decide) rfl ?_
      refine jr_iconst (pc := 21) hh dL_actual_21 ?_
      exact jr_iret (pc := 22) hh hret rfl ⟨jsi hk1.symm, _, _, _, rfl, fun _ => ⟨scr_rf hk, rfl⟩, fun q => absurd q hcd⟩ (by decide) (by decide) dL_actual_22
set_option maxHeartbeats 4000000 in
set_option maxRecDepth 100000 in
theorem w_takeActual (l : Launch) (hlt : l.stackTraces = false) (G : jG) (h : Nat → Nat) (F : Nat → Nat → Int) (V : Nat → Int) (o : Nat) (fo : Nat → Int) (i t : Int) (hri : jR i) (hrt : jR t) (hk : okC F V) : jMetL l yL_takeActual wsL_takeActual { frames := 14, cells := 1, slots := 6, locals := 4000 } G (wO G h F V o fo) [.ref (h 0), .int (iI i), .int (iI t), .ref o] (fun rv w1 => rv = some (.int (iI (cdTake (V 2) i t (F 8 (i.toNat * 12 + t.toNat))))) ∧ ∃ (F' : Nat → Nat → Int) (V' : Nat → Int) (fo' : Nat → Int), w1 = wO G h F' V' o fo' ∧ (cdTake (V 2) i t (F 8 (i.toNat * 12 + t.toNat)) ≠ 0 → scr F F' ∧ V' = V) ∧ (cdTake (V 2) i t (F 8 (i.toNat * 12 + t.toNat)) = 0 → fo' 0 = cntC (uF F 8 (jU (F 8) (i.toNat * 12 + t.toNat) (-1000000000))) V ∧ scS (uF F 8 (jU (F 8) (i.toNat * 12 + t.toNat) (-1000000000))) F' V 12 ∧ V' = V)) := by
  refine jMetL_of (cc := cL_takeActual) (maxL := 5) (ret := (some .int)) (hs := [(0, 10, 13, 21), (0, 10, 17, 56)]) (by decide +kernel) rfl (Nat.le_of_ble_eq_true rfl) ?_
  intro p e s m args below meth c A hh hret htab hnc
  obtain ⟨hV0, hV1, hV2, hV3, hV4, -⟩ := id hk
  have hri1 := hri.1
  have hri2 := hri.2
  have hrt1 := hrt.1
  have hrt2 := hrt.2
  refine jr_loc (lv' := [(0, .ref (h 0)), (1, .int (iI i)), (2, .int (iI t)), (3, .ref o)]) [0, 1, 2, 3] rfl ?_
  by_cases hcd : cdTake (V 2) i t (F 8 (i.toNat * 12 + t.toNat)) = 0
  · skip
    have hcd2 := hcd
    unfold cdTake at hcd2
    obtain ⟨iN, rfl⟩ : ∃ k : Nat, i = (k : Int) := ⟨i.toNat, by omega⟩
    obtain ⟨tN, rfl⟩ : ∃ k : Nat, t = (k : Int) := ⟨t.toNat, by omega⟩
    try simp only [Int.toNat_natCast] at hcd2
    have hcB := cntC_B (F := (uF F 8 (jU (F 8) (iN * 12 + tN) (-1000000000)))) (V := V) hV2 12
    rw [show sumTo (rowC (uF F 8 (jU (F 8) (iN * 12 + tN) (-1000000000))) V) 12 = cntC (uF F 8 (jU (F 8) (iN * 12 + tN) (-1000000000))) V from rfl] at hcB
    refine jr_aload_n (pc := 0) hh 3 dL_takeActual_0 rfl rfl ?_
    refine jr_iconst (pc := 1) hh dL_takeActual_1 ?_
    refine jr_aload_n (pc := 2) hh 0 dL_takeActual_2 rfl rfl ?_
    refine jr_iload_n (pc := 3) hh 1 dL_takeActual_3 rfl rfl ?_
    refine jr_iload_n (pc := 4) hh 2 dL_takeActual_4 rfl rfl ?_
    refine jr_callV (pc := 5) hh [.int (iI (iN : Int)), .int (iI (tN : Int))] [.int (iI 0), .ref o] (c_X3_takeActual l G h F V iN tN hk (by omega) (by omega) (by omega)) gL_takeActual_X3_takeActual rfl (by decide) (by decide) [0, 1, 2, 3, 4, 5, 6, 7, 8, 9, 10, 11, 12, 13, 14, 15, 16, 17] [18] rfl rfl rfl rfl (by decide) 0 rfl rfl 2 rfl rfl (Nat.le_of_ble_eq_true rfl) (by decide +kernel) dL_takeActual_5 (fun rv1 w1 h1 => ?_)
    obtain ⟨rfl, F', hF', rfl⟩ := h1
    refine jr_perm (ws' := wO G h F' V o fo) (st := [.int (iI (cntC (uF F 8 (jU (F 8) (iN * 12 + tN) (-1000000000))) V)), .int (iI 0), .ref o]) [1, 2, 3, 4, 5, 6, 7, 8, 9, 10, 11, 12, 13, 14, 15, 16, 17, 18, 0] rfl rfl ?_
    refine jr_i2l (pc := 8) hh dL_takeActual_8 ⟨by omega, by omega⟩ ?_
    refine jr_last (F := fo) (ws' := wO G h F' V o (jU fo 0 (cntC (uF F 8 (jU (F 8) (iN * 12 + tN) (-1000000000))) V))) (pc := 9) hh 18 rfl 0 rfl (by decide) (by decide) rfl dL_takeActual_9 ?_
    refine jr_goto (tgt := 21) (pc := 10) hh dL_takeActual_10 (by decide) ?_
    refine jr_iconst (pc := 21) hh dL_takeActual_21 ?_
    exact jr_iret (pc := 22) hh hret rfl ⟨jsi hcd.symm, _, _, _, rfl, fun q => absurd hcd q, fun _ => ⟨rfl, hF', rfl⟩⟩ (by decide) (by decide) dL_takeActual_22
  · skip
    refine jr_aload_n (pc := 0) hh 3 dL_takeActual_0 rfl rfl ?_
    refine jr_iconst (pc := 1) hh dL_takeActual_1 ?_
    refine jr_aload_n (pc := 2) hh 0 dL_takeActual_2 rfl rfl ?_
    refine jr_iload_n (pc := 3) hh 1 dL_takeActual_3 rfl rfl ?_
    refine jr_iload_n (pc := 4) hh 2 dL_takeActual_4 rfl rfl ?_
    refine jr_ccallV (pc := 5) hh [.int (iI i), .int (iI t)] [.int (iI 0), .ref o] (t_X3_takeActual l G h F V i t hri hrt hk hcd hlt) gL_takeActual_X3_takeActual rfl (by decide) (by decide) [0, 1, 2, 3, 4, 5, 6, 7, 8, 9, 10, 11, 12, 13, 14, 15, 16, 17] [18] rfl rfl rfl rfl (by decide) 0 rfl rfl 2 rfl rfl (Nat.le_of_ble_eq_true rfl) (by decide +kernel) dL_takeActual_5 (fun E w1 h1 => ?_)
    obtain ⟨h1, rfl⟩ := h1
    rcases h1 with ⟨hk1, rfl⟩ | ⟨hk1, rfl⟩
    · skip
      refine ⟨"java/lang/IndexOutOfBoundsException", [], ⟨0, 10, 13, 21⟩, [⟨0, 10, 17, 56⟩], htab.trans rfl, (fun z hz => absurd hz List.not_mem_nil), by decide, by decide, jts hh _ (by decide +kernel : Cond.classLink RL 21 "java/lang/IndexOutOfBoundsException" ∈ wsL_takeActual), va_Nw.use rfl ((jnn hh).2.2.1.1 "java/lang/IndexOutOfBoundsException" (by decide)), fun q => ?_⟩
      refine jr_ws (ws' := [(o, .inl (G.2 2, 1, .inr (.inl (jL fo))))] ++ wC G h F V) rfl ?_
      refine jr_perm (ws' := wO G h F V o fo) [1, 2, 3, 4, 5, 6, 7, 8, 9, 10, 11, 12, 13, 14, 15, 16, 17, 18, 0] rfl rfl ?_
      refine jr_astore (lv' := [(4, .ref q), (0, .ref (h 0)), (1, .int (iI i)), (2, .int (iI t)), (3, .ref o)]) (pc := 13) hh dL_takeActual_13 (by decide) rfl ?_
      refine jr_iconst (pc := 15) hh dL_takeActual_15 ?_
      exact jr_iret (pc := 16) hh hret rfl ⟨jsi hk1.symm, _, _, _, rfl, fun _ => ⟨scr_rf hk, rfl⟩, fun q => absurd q hcd⟩ (by decide) (by decide) dL_takeActual_16
    · skip
      refine ⟨"java/util/NoSuchElementException", [⟨0, 10, 13, 21⟩], ⟨0, 10, 17, 56⟩, [], htab.trans rfl, ?_, by decide, by decide, jts hh _ (by decide +kernel : Cond.classLink RL 56 "java/util/NoSuchElementException" ∈ wsL_takeActual), va_Nw.use rfl ((jnn hh).2.2.1.1 "java/util/NoSuchElementException" (by decide)), fun q => ?_⟩
      · intro z hz
        rcases List.mem_cons.mp hz with rfl | hz
        · exact Or.inr ⟨by decide, "java/lang/IndexOutOfBoundsException", jts hh _ (by decide +kernel : Cond.classLink RL 21 "java/lang/IndexOutOfBoundsException" ∈ wsL_takeActual), hnc "java/util/NoSuchElementException" (by decide) "java/lang/IndexOutOfBoundsException" (by decide) (by decide)⟩
        exact absurd hz List.not_mem_nil
      refine jr_ws (ws' := [(o, .inl (G.2 2, 1, .inr (.inl (jL fo))))] ++ wC G h F V) rfl ?_
      refine jr_perm (ws' := wO G h F V o fo) [1, 2, 3, 4, 5, 6, 7, 8, 9, 10, 11, 12, 13, 14, 15, 16, 17, 18, 0] rfl rfl ?_
      refine jr_astore (lv' := [(4, .ref q), (0, .ref (h 0)), (1, .int (iI i)), (2, .int (iI t)), (3, .ref o)]) (pc := 17) hh dL_takeActual_17 (by decide) rfl ?_
      refine jr_iconst (pc := 19) hh dL_takeActual_19 ?_
      exact jr_iret (pc := 20) hh hret rfl ⟨jsi hk1.symm, _, _, _, rfl, fun _ => ⟨scr_rf hk, rfl⟩, fun q => absurd q hcd⟩ (by decide) (by decide) dL_takeActual_20
set_option maxHeartbeats 4000000 in
set_option maxRecDepth 100000 in
theorem w_pass (l : Launch) (hlt : l.stackTraces = false) (G : jG) (h : Nat → Nat) (F : Nat → Nat → Int) (V : Nat → Int) (o : Nat) (fo : Nat → Int) (hk : okC F V) : jMetL l yL_pass wsL_pass { frames := 14, cells := 1, slots := 6, locals := 4000 } G (wO G h F V o fo) [.ref (h 0), .ref o] (fun rv w1 => rv = some (.int (iI (cdPass (V 4)))) ∧ ∃ (F' : Nat → Nat → Int) (V' : Nat → Int) (fo' : Nat → Int), w1 = wO G h F' V' o fo' ∧ (cdPass (V 4) ≠ 0 → scr F F' ∧ V' = V) ∧ (cdPass (V 4) = 0 → fo' 0 = V 4 + 1 ∧ F' = F ∧ V' = jU V 4 (V 4 + 1))) := by
  refine jMetL_of (cc := cL_pass) (maxL := 3) (ret := (some .int)) (hs := [(0, 8, 11, 15)]) (by decide +kernel) rfl (Nat.le_of_ble_eq_true rfl) ?_
  intro p e s m args below meth c A hh hret htab hnc
  obtain ⟨hV0, hV1, hV2, hV3, hV4, -⟩ := id hk
  refine jr_loc (lv' := [(0, .ref (h 0)), (1, .ref o)]) [0, 1] rfl ?_
  by_cases hcd : cdPass (V 4) = 0
  · skip
    have hcd2 := hcd
    unfold cdPass at hcd2
    refine jr_aload_n (pc := 0) hh 1 dL_pass_0 rfl rfl ?_
    refine jr_iconst (pc := 1) hh dL_pass_1 ?_
    refine jr_aload_n (pc := 2) hh 0 dL_pass_2 rfl rfl ?_
    refine jr_callV (pc := 3) hh [] [.int (iI 0), .ref o] (c_X3_pass l G h F V hk (by omega)) gL_pass_X3_pass rfl (by decide) (by decide) [0, 1, 2, 3, 4, 5, 6, 7, 8, 9, 10, 11, 12, 13, 14, 15, 16, 17] [18] rfl rfl rfl rfl (by decide) 0 rfl rfl 0 rfl rfl (Nat.le_of_ble_eq_true rfl) (by decide +kernel) dL_pass_3 (fun rv1 w1 h1 => ?_)
    obtain ⟨rfl, rfl⟩ := h1
    refine jr_perm (ws' := wO G h F (jU V 4 (V 4 + 1)) o fo) (st := [.int (iI (V 4 + 1)), .int (iI 0), .ref o]) [1, 2, 3, 4, 5, 6, 7, 8, 9, 10, 11, 12, 13, 14, 15, 16, 17, 18, 0] rfl rfl ?_
    refine jr_i2l (pc := 6) hh dL_pass_6 ⟨by omega, by omega⟩ ?_
    refine jr_last (F := fo) (ws' := wO G h F (jU V 4 (V 4 + 1)) o (jU fo 0 (V 4 + 1))) (pc := 7) hh 18 rfl 0 rfl (by decide) (by decide) rfl dL_pass_7 ?_
    refine jr_goto (tgt := 14) (pc := 8) hh dL_pass_8 (by decide) ?_
    refine jr_iconst (pc := 14) hh dL_pass_14 ?_
    exact jr_iret (pc := 15) hh hret rfl ⟨jsi hcd.symm, _, _, _, rfl, fun q => absurd hcd q, fun _ => ⟨rfl, rfl, rfl⟩⟩ (by decide) (by decide) dL_pass_15
  · skip
    refine jr_aload_n (pc := 0) hh 1 dL_pass_0 rfl rfl ?_
    refine jr_iconst (pc := 1) hh dL_pass_1 ?_
    refine jr_aload_n (pc := 2) hh 0 dL_pass_2 rfl rfl ?_
    refine jr_ccallV (pc := 3) hh [] [.int (iI 0), .ref o] (t_X3_pass l G h F V   hk hcd hlt) gL_pass_X3_pass rfl (by decide) (by decide) [0, 1, 2, 3, 4, 5, 6, 7, 8, 9, 10, 11, 12, 13, 14, 15, 16, 17] [18] rfl rfl rfl rfl (by decide) 0 rfl rfl 0 rfl rfl (Nat.le_of_ble_eq_true rfl) (by decide +kernel) dL_pass_3 (fun E w1 h1 => ?_)
    obtain ⟨h1, rfl⟩ := h1
    obtain ⟨hk1, rfl⟩ := h1
    · skip
      refine ⟨"java/lang/IllegalStateException", [], ⟨0, 8, 11, 15⟩, [], htab.trans rfl, (fun z hz => absurd hz List.not_mem_nil), by decide, by decide, jts hh _ (by decide +kernel : Cond.classLink RL 15 "java/lang/IllegalStateException" ∈ wsL_pass), va_Nw.use rfl ((jnn hh).2.2.1.1 "java/lang/IllegalStateException" (by decide)), fun q => ?_⟩
      refine jr_ws (ws' := [(o, .inl (G.2 2, 1, .inr (.inl (jL fo))))] ++ wC G h F V) rfl ?_
      refine jr_perm (ws' := wO G h F V o fo) [1, 2, 3, 4, 5, 6, 7, 8, 9, 10, 11, 12, 13, 14, 15, 16, 17, 18, 0] rfl rfl ?_
      refine jr_astore_n (lv' := [(2, .ref q), (0, .ref (h 0)), (1, .ref o)]) (pc := 11) hh dL_pass_11 rfl (by decide) rfl ?_
      refine jr_iconst (pc := 12) hh dL_pass_12 ?_
      exact jr_iret (pc := 13) hh hret rfl ⟨jsi hk1.symm, _, _, _, rfl, fun _ => ⟨scr_rf hk, rfl⟩, fun q => absurd q hcd⟩ (by decide) (by decide) dL_pass_13
set_option maxHeartbeats 4000000 in
set_option maxRecDepth 100000 in
theorem w_approve (l : Launch) (hlt : l.stackTraces = false) (G : jG) (h : Nat → Nat) (F : Nat → Nat → Int) (V : Nat → Int) (o : Nat) (fo : Nat → Int) (i t tol : Int) (hri : jR i) (hrt : jR t) (hrtol : jR tol) (hk : okC F V) : jMetL l yL_approve wsL_approve { frames := 14, cells := 1, slots := 6, locals := 4000 } G (wO G h F V o fo) [.ref (h 0), .int (iI i), .int (iI t), .int (iI tol), .ref o] (fun rv w1 => rv = some (.int (iI (cdApprove (V 2) i t tol (enc (nmC F 0 t.toNat 6 i.toNat))))) ∧ ∃ (F' : Nat → Nat → Int) (V' : Nat → Int) (fo' : Nat → Int), w1 = wO G h F' V' o fo' ∧ (cdApprove (V 2) i t tol (enc (nmC F 0 t.toNat 6 i.toNat)) ≠ 0 → scr F F' ∧ V' = V) ∧ (cdApprove (V 2) i t tol (enc (nmC F 0 t.toNat 6 i.toNat)) = 0 → fo' 0 = (enc (nmC F 0 t.toNat 6 i.toNat)) ∧ (∃ F1 : Nat → Nat → Int, scr F F1 ∧ F' = (uF (uF (uF F1 11 (jU (F1 11) (i.toNat * 12 + t.toNat) 97)) 12 (jU (F1 12) (i.toNat * 12 + t.toNat) (enc (nmC F 0 t.toNat 6 i.toNat)))) 13 (jU (F1 13) (i.toNat * 12 + t.toNat) tol))) ∧ V' = V)) := by
  refine jMetL_of (cc := cL_approve) (maxL := 6) (ret := (some .int)) (hs := [(0, 12, 15, 21), (0, 12, 19, 13), (0, 12, 23, 38)]) (by decide +kernel) rfl (Nat.le_of_ble_eq_true rfl) ?_
  intro p e s m args below meth c A hh hret htab hnc
  obtain ⟨hV0, hV1, hV2, hV3, hV4, -⟩ := id hk
  have hri1 := hri.1
  have hri2 := hri.2
  have hrt1 := hrt.1
  have hrt2 := hrt.2
  have hrtol1 := hrtol.1
  have hrtol2 := hrtol.2
  refine jr_loc (lv' := [(0, .ref (h 0)), (1, .int (iI i)), (2, .int (iI t)), (3, .int (iI tol)), (4, .ref o)]) [0, 1, 2, 3, 4] rfl ?_
  by_cases hcd : cdApprove (V 2) i t tol (enc (nmC F 0 t.toNat 6 i.toNat)) = 0
  · skip
    have hcd2 := hcd
    unfold cdApprove at hcd2
    obtain ⟨iN, rfl⟩ : ∃ k : Nat, i = (k : Int) := ⟨i.toNat, by omega⟩
    obtain ⟨tN, rfl⟩ : ∃ k : Nat, t = (k : Int) := ⟨t.toNat, by omega⟩
    try simp only [Int.toNat_natCast] at hcd2
    have hnr := enc_range (nmC_B hk (s := 0) (i := iN) (m := tN) (cd := 6) (by omega) (by omega) (by omega))
    refine jr_aload (pc := 0) hh 4 dL_approve_0 rfl ?_
    refine jr_iconst (pc := 2) hh dL_approve_2 ?_
    refine jr_aload_n (pc := 3) hh 0 dL_approve_3 rfl rfl ?_
    refine jr_iload_n (pc := 4) hh 1 dL_approve_4 rfl rfl ?_
    refine jr_iload_n (pc := 5) hh 2 dL_approve_5 rfl rfl ?_
    refine jr_iload_n (pc := 6) hh 3 dL_approve_6 rfl rfl ?_
    refine jr_callV (pc := 7) hh [.int (iI (iN : Int)), .int (iI (tN : Int)), .int (iI tol)] [.int (iI 0), .ref o] (c_X3_approve l G h F V iN tN tol hk (by omega) (by omega) (by omega) (by omega)) gL_approve_X3_approve rfl (by decide) (by decide) [0, 1, 2, 3, 4, 5, 6, 7, 8, 9, 10, 11, 12, 13, 14, 15, 16, 17] [18] rfl rfl rfl rfl (by decide) 0 rfl rfl 3 rfl rfl (Nat.le_of_ble_eq_true rfl) (by decide +kernel) dL_approve_7 (fun rv1 w1 h1 => ?_)
    obtain ⟨rfl, F1, hF1, rfl⟩ := h1
    refine jr_perm (ws' := wO G h (uF (uF (uF F1 11 (jU (F1 11) (iN * 12 + tN) 97)) 12 (jU (F1 12) (iN * 12 + tN) (enc (nmC F 0 tN 6 iN)))) 13 (jU (F1 13) (iN * 12 + tN) tol)) V o fo) (st := [.int (iI (enc (nmC F 0 tN 6 iN))), .int (iI 0), .ref o]) [1, 2, 3, 4, 5, 6, 7, 8, 9, 10, 11, 12, 13, 14, 15, 16, 17, 18, 0] rfl rfl ?_
    refine jr_i2l (pc := 10) hh dL_approve_10 ⟨by omega, by omega⟩ ?_
    refine jr_last (F := fo) (ws' := wO G h (uF (uF (uF F1 11 (jU (F1 11) (iN * 12 + tN) 97)) 12 (jU (F1 12) (iN * 12 + tN) (enc (nmC F 0 tN 6 iN)))) 13 (jU (F1 13) (iN * 12 + tN) tol)) V o (jU fo 0 (enc (nmC F 0 tN 6 iN)))) (pc := 11) hh 18 rfl 0 rfl (by decide) (by decide) rfl dL_approve_11 ?_
    refine jr_goto (tgt := 27) (pc := 12) hh dL_approve_12 (by decide) ?_
    refine jr_iconst (pc := 27) hh dL_approve_27 ?_
    exact jr_iret (pc := 28) hh hret rfl ⟨jsi hcd.symm, _, _, _, rfl, fun q => absurd hcd q, fun _ => ⟨rfl, ⟨F1, hF1, rfl⟩, rfl⟩⟩ (by decide) (by decide) dL_approve_28
  · skip
    refine jr_aload (pc := 0) hh 4 dL_approve_0 rfl ?_
    refine jr_iconst (pc := 2) hh dL_approve_2 ?_
    refine jr_aload_n (pc := 3) hh 0 dL_approve_3 rfl rfl ?_
    refine jr_iload_n (pc := 4) hh 1 dL_approve_4 rfl rfl ?_
    refine jr_iload_n (pc := 5) hh 2 dL_approve_5 rfl rfl ?_
    refine jr_iload_n (pc := 6) hh 3 dL_approve_6 rfl rfl ?_
    refine jr_ccallV (pc := 7) hh [.int (iI i), .int (iI t), .int (iI tol)] [.int (iI 0), .ref o] (t_X3_approve l G h F V i t tol hri hrt hrtol hk hcd hlt) gL_approve_X3_approve rfl (by decide) (by decide) [0, 1, 2, 3, 4, 5, 6, 7, 8, 9, 10, 11, 12, 13, 14, 15, 16, 17] [18] rfl rfl rfl rfl (by decide) 0 rfl rfl 3 rfl rfl (Nat.le_of_ble_eq_true rfl) (by decide +kernel) dL_approve_7 (fun E w1 h1 => ?_)
    obtain ⟨h1, ⟨F', hF', rfl⟩⟩ := h1
    rcases h1 with ⟨hk1, rfl⟩ | ⟨hk1, rfl⟩ | ⟨hk1, rfl⟩
    · skip
      refine ⟨"java/lang/IndexOutOfBoundsException", [], ⟨0, 12, 15, 21⟩, [⟨0, 12, 19, 13⟩, ⟨0, 12, 23, 38⟩], htab.trans rfl, (fun z hz => absurd hz List.not_mem_nil), by decide, by decide, jts hh _ (by decide +kernel : Cond.classLink RL 21 "java/lang/IndexOutOfBoundsException" ∈ wsL_approve), va_Nw.use rfl ((jnn hh).2.2.1.1 "java/lang/IndexOutOfBoundsException" (by decide)), fun q => ?_⟩
      refine jr_ws (ws' := [(o, .inl (G.2 2, 1, .inr (.inl (jL fo))))] ++ wC G h F' V) rfl ?_
      refine jr_perm (ws' := wO G h F' V o fo) [1, 2, 3, 4, 5, 6, 7, 8, 9, 10, 11, 12, 13, 14, 15, 16, 17, 18, 0] rfl rfl ?_
      refine jr_astore (lv' := [(5, .ref q), (0, .ref (h 0)), (1, .int (iI i)), (2, .int (iI t)), (3, .int (iI tol)), (4, .ref o)]) (pc := 15) hh dL_approve_15 (by decide) rfl ?_
      refine jr_iconst (pc := 17) hh dL_approve_17 ?_
      exact jr_iret (pc := 18) hh hret rfl ⟨jsi hk1.symm, _, _, _, rfl, fun _ => ⟨hF', rfl⟩, fun q => absurd q hcd⟩ (by decide) (by decide) dL_approve_18
    · skip
      refine ⟨"java/lang/IllegalArgumentException", [⟨0, 12, 15, 21⟩], ⟨0, 12, 19, 13⟩, [⟨0, 12, 23, 38⟩], htab.trans rfl, ?_, by decide, by decide, jts hh _ (by decide +kernel : Cond.classLink RL 13 "java/lang/IllegalArgumentException" ∈ wsL_approve), va_Nw.use rfl ((jnn hh).2.2.1.1 "java/lang/IllegalArgumentException" (by decide)), fun q => ?_⟩
      · intro z hz
        rcases List.mem_cons.mp hz with rfl | hz
        · exact Or.inr ⟨by decide, "java/lang/IndexOutOfBoundsException", jts hh _ (by decide +kernel : Cond.classLink RL 21 "java/lang/IndexOutOfBoundsException" ∈ wsL_approve), hnc "java/lang/IllegalArgumentException" (by decide) "java/lang/IndexOutOfBoundsException" (by decide) (by decide)⟩
        exact absurd hz List.not_mem_nil
      refine jr_ws (ws' := [(o, .inl (G.2 2, 1, .inr (.inl (jL fo))))] ++ wC G h F' V) rfl ?_
      refine jr_perm (ws' := wO G h F' V o fo) [1, 2, 3, 4, 5, 6, 7, 8, 9, 10, 11, 12, 13, 14, 15, 16, 17, 18, 0] rfl rfl ?_
      refine jr_astore (lv' := [(5, .ref q), (0, .ref (h 0)), (1, .int (iI i)), (2, .int (iI t)), (3, .int (iI tol)), (4, .ref o)]) (pc := 19) hh dL_approve_19 (by decide) rfl ?_
      refine jr_iconst (pc := 21) hh dL_approve_21 ?_
      exact jr_iret (pc := 22) hh hret rfl ⟨jsi hk1.symm, _, _, _, rfl, fun _ => ⟨hF', rfl⟩, fun q => absurd q hcd⟩ (by decide) (by decide) dL_approve_22
    · skip
      refine ⟨"java/lang/UnsupportedOperationException", [⟨0, 12, 15, 21⟩, ⟨0, 12, 19, 13⟩], ⟨0, 12, 23, 38⟩, [], htab.trans rfl, ?_, by decide, by decide, jts hh _ (by decide +kernel : Cond.classLink RL 38 "java/lang/UnsupportedOperationException" ∈ wsL_approve), va_Nw.use rfl ((jnn hh).2.2.1.1 "java/lang/UnsupportedOperationException" (by decide)), fun q => ?_⟩
      · intro z hz
        rcases List.mem_cons.mp hz with rfl | hz
        · exact Or.inr ⟨by decide, "java/lang/IndexOutOfBoundsException", jts hh _ (by decide +kernel : Cond.classLink RL 21 "java/lang/IndexOutOfBoundsException" ∈ wsL_approve), hnc "java/lang/UnsupportedOperationException" (by decide) "java/lang/IndexOutOfBoundsException" (by decide) (by decide)⟩
        rcases List.mem_cons.mp hz with rfl | hz
        · exact Or.inr ⟨by decide, "java/lang/IllegalArgumentException", jts hh _ (by decide +kernel : Cond.classLink RL 13 "java/lang/IllegalArgumentException" ∈ wsL_approve), hnc "java/lang/UnsupportedOperationException" (by decide) "java/lang/IllegalArgumentException" (by decide) (by decide)⟩
        exact absurd hz List.not_mem_nil
      refine jr_ws (ws' := [(o, .inl (G.2 2, 1, .inr (.inl (jL fo))))] ++ wC G h F' V) rfl ?_
      refine jr_perm (ws' := wO G h F' V o fo) [1, 2, 3, 4, 5, 6, 7, 8, 9, 10, 11, 12, 13, 14, 15, 16, 17, 18, 0] rfl rfl ?_
      refine jr_astore (lv' := [(5, .ref q), (0, .ref (h 0)), (1, .int (iI i)), (2, .int (iI t)), (3, .int (iI tol)), (4, .ref o)]) (pc := 23) hh dL_approve_23 (by decide) rfl ?_
      refine jr_iconst (pc := 25) hh dL_approve_25 ?_
      exact jr_iret (pc := 26) hh hret rfl ⟨jsi hk1.symm, _, _, _, rfl, fun _ => ⟨hF', rfl⟩, fun q => absurd q hcd⟩ (by decide) (by decide) dL_approve_26
set_option maxHeartbeats 4000000 in
set_option maxRecDepth 100000 in
theorem w_state (l : Launch) (hlt : l.stackTraces = false) (G : jG) (h : Nat → Nat) (F : Nat → Nat → Int) (V : Nat → Int) (o : Nat) (fo : Nat → Int) (i t : Int) (hri : jR i) (hrt : jR t) (hk : okC F V) : jMetL l yL_state wsL_state { frames := 14, cells := 1, slots := 6, locals := 4000 } G (wO G h F V o fo) [.ref (h 0), .int (iI i), .int (iI t), .ref o] (fun rv w1 => rv = some (.int (iI (cdState (V 2) i t))) ∧ ∃ (F' : Nat → Nat → Int) (V' : Nat → Int) (fo' : Nat → Int), w1 = wO G h F' V' o fo' ∧ (cdState (V 2) i t ≠ 0 → scr F F' ∧ V' = V) ∧ (cdState (V 2) i t = 0 → fo' 0 = F 11 (i.toNat * 12 + t.toNat) ∧ F' = F ∧ V' = V)) := by
  refine jMetL_of (cc := cL_state) (maxL := 5) (ret := (some .int)) (hs := [(0, 10, 13, 21)]) (by decide +kernel) rfl (Nat.le_of_ble_eq_true rfl) ?_
  intro p e s m args below meth c A hh hret htab hnc
  obtain ⟨hV0, hV1, hV2, hV3, hV4, -⟩ := id hk
  have hri1 := hri.1
  have hri2 := hri.2
  have hrt1 := hrt.1
  have hrt2 := hrt.2
  refine jr_loc (lv' := [(0, .ref (h 0)), (1, .int (iI i)), (2, .int (iI t)), (3, .ref o)]) [0, 1, 2, 3] rfl ?_
  by_cases hcd : cdState (V 2) i t = 0
  · skip
    have hcd2 := hcd
    unfold cdState at hcd2
    obtain ⟨iN, rfl⟩ : ∃ k : Nat, i = (k : Int) := ⟨i.toNat, by omega⟩
    obtain ⟨tN, rfl⟩ : ∃ k : Nat, t = (k : Int) := ⟨t.toNat, by omega⟩
    try simp only [Int.toNat_natCast] at hcd2
    have hst := (hk.2.2.2.2.2.2.2.2.2.2.2 (iN * 12 + tN) (by omega)).1
    refine jr_aload_n (pc := 0) hh 3 dL_state_0 rfl rfl ?_
    refine jr_iconst (pc := 1) hh dL_state_1 ?_
    refine jr_aload_n (pc := 2) hh 0 dL_state_2 rfl rfl ?_
    refine jr_iload_n (pc := 3) hh 1 dL_state_3 rfl rfl ?_
    refine jr_iload_n (pc := 4) hh 2 dL_state_4 rfl rfl ?_
    refine jr_callV (pc := 5) hh [.int (iI (iN : Int)), .int (iI (tN : Int))] [.int (iI 0), .ref o] (c_X3_state l G h F V iN tN hk (by omega) (by omega)) gL_state_X3_state rfl (by decide) (by decide) [0, 1, 2, 3, 4, 5, 6, 7, 8, 9, 10, 11, 12, 13, 14, 15, 16, 17] [18] rfl rfl rfl rfl (by decide) 0 rfl rfl 2 rfl rfl (Nat.le_of_ble_eq_true rfl) (by decide +kernel) dL_state_5 (fun rv1 w1 h1 => ?_)
    obtain ⟨rfl, rfl⟩ := h1
    refine jr_perm (ws' := wO G h F V o fo) (st := [.int (iI (F 11 (iN * 12 + tN))), .int (iI 0), .ref o]) [1, 2, 3, 4, 5, 6, 7, 8, 9, 10, 11, 12, 13, 14, 15, 16, 17, 18, 0] rfl rfl ?_
    refine jr_i2l (pc := 8) hh dL_state_8 ⟨by omega, by omega⟩ ?_
    refine jr_last (F := fo) (ws' := wO G h F V o (jU fo 0 (F 11 (iN * 12 + tN)))) (pc := 9) hh 18 rfl 0 rfl (by decide) (by decide) rfl dL_state_9 ?_
    refine jr_goto (tgt := 17) (pc := 10) hh dL_state_10 (by decide) ?_
    refine jr_iconst (pc := 17) hh dL_state_17 ?_
    exact jr_iret (pc := 18) hh hret rfl ⟨jsi hcd.symm, _, _, _, rfl, fun q => absurd hcd q, fun _ => ⟨rfl, rfl, rfl⟩⟩ (by decide) (by decide) dL_state_18
  · skip
    refine jr_aload_n (pc := 0) hh 3 dL_state_0 rfl rfl ?_
    refine jr_iconst (pc := 1) hh dL_state_1 ?_
    refine jr_aload_n (pc := 2) hh 0 dL_state_2 rfl rfl ?_
    refine jr_iload_n (pc := 3) hh 1 dL_state_3 rfl rfl ?_
    refine jr_iload_n (pc := 4) hh 2 dL_state_4 rfl rfl ?_
    refine jr_ccallV (pc := 5) hh [.int (iI i), .int (iI t)] [.int (iI 0), .ref o] (t_X3_state l G h F V i t hri hrt hk hcd hlt) gL_state_X3_state rfl (by decide) (by decide) [0, 1, 2, 3, 4, 5, 6, 7, 8, 9, 10, 11, 12, 13, 14, 15, 16, 17] [18] rfl rfl rfl rfl (by decide) 0 rfl rfl 2 rfl rfl (Nat.le_of_ble_eq_true rfl) (by decide +kernel) dL_state_5 (fun E w1 h1 => ?_)
    obtain ⟨h1, rfl⟩ := h1
    obtain ⟨hk1, rfl⟩ := h1
    · skip
      refine ⟨"java/lang/IndexOutOfBoundsException", [], ⟨0, 10, 13, 21⟩, [], htab.trans rfl, (fun z hz => absurd hz List.not_mem_nil), by decide, by decide, jts hh _ (by decide +kernel : Cond.classLink RL 21 "java/lang/IndexOutOfBoundsException" ∈ wsL_state), va_Nw.use rfl ((jnn hh).2.2.1.1 "java/lang/IndexOutOfBoundsException" (by decide)), fun q => ?_⟩
      refine jr_ws (ws' := [(o, .inl (G.2 2, 1, .inr (.inl (jL fo))))] ++ wC G h F V) rfl ?_
      refine jr_perm (ws' := wO G h F V o fo) [1, 2, 3, 4, 5, 6, 7, 8, 9, 10, 11, 12, 13, 14, 15, 16, 17, 18, 0] rfl rfl ?_
      refine jr_astore (lv' := [(4, .ref q), (0, .ref (h 0)), (1, .int (iI i)), (2, .int (iI t)), (3, .ref o)]) (pc := 13) hh dL_state_13 (by decide) rfl ?_
      refine jr_iconst (pc := 15) hh dL_state_15 ?_
      exact jr_iret (pc := 16) hh hret rfl ⟨jsi hk1.symm, _, _, _, rfl, fun _ => ⟨scr_rf hk, rfl⟩, fun q => absurd q hcd⟩ (by decide) (by decide) dL_state_16
set_option maxHeartbeats 4000000 in
set_option maxRecDepth 100000 in
theorem w_drift (l : Launch) (hlt : l.stackTraces = false) (G : jG) (h : Nat → Nat) (F : Nat → Nat → Int) (V : Nat → Int) (o : Nat) (fo : Nat → Int) (i t : Int) (hri : jR i) (hrt : jR t) (hk : okC F V) : jMetL l yL_drift wsL_drift { frames := 14, cells := 1, slots := 6, locals := 4000 } G (wO G h F V o fo) [.ref (h 0), .int (iI i), .int (iI t), .ref o] (fun rv w1 => rv = some (.int (iI (cdDrift (V 2) i t (F 11 (i.toNat * 12 + t.toNat)) (enc (nmC F 0 t.toNat 6 i.toNat))))) ∧ ∃ (F' : Nat → Nat → Int) (V' : Nat → Int) (fo' : Nat → Int), w1 = wO G h F' V' o fo' ∧ (cdDrift (V 2) i t (F 11 (i.toNat * 12 + t.toNat)) (enc (nmC F 0 t.toNat 6 i.toNat)) ≠ 0 → scr F F' ∧ V' = V) ∧ (cdDrift (V 2) i t (F 11 (i.toNat * 12 + t.toNat)) (enc (nmC F 0 t.toNat 6 i.toNat)) = 0 → fo' 0 = (enc (nmC F 0 t.toNat 6 i.toNat)) - F 12 (i.toNat * 12 + t.toNat) ∧ scr F F' ∧ V' = V)) := by
  refine jMetL_of (cc := cL_drift) (maxL := 5) (ret := (some .int)) (hs := [(0, 10, 13, 21), (0, 10, 17, 56), (0, 10, 21, 38)]) (by decide +kernel) rfl (Nat.le_of_ble_eq_true rfl) ?_
  intro p e s m args below meth c A hh hret htab hnc
  obtain ⟨hV0, hV1, hV2, hV3, hV4, -⟩ := id hk
  have hri1 := hri.1
  have hri2 := hri.2
  have hrt1 := hrt.1
  have hrt2 := hrt.2
  refine jr_loc (lv' := [(0, .ref (h 0)), (1, .int (iI i)), (2, .int (iI t)), (3, .ref o)]) [0, 1, 2, 3] rfl ?_
  by_cases hcd : cdDrift (V 2) i t (F 11 (i.toNat * 12 + t.toNat)) (enc (nmC F 0 t.toNat 6 i.toNat)) = 0
  · skip
    have hcd2 := hcd
    unfold cdDrift at hcd2
    obtain ⟨iN, rfl⟩ : ∃ k : Nat, i = (k : Int) := ⟨i.toNat, by omega⟩
    obtain ⟨tN, rfl⟩ : ∃ k : Nat, t = (k : Int) := ⟨t.toNat, by omega⟩
    try simp only [Int.toNat_natCast] at hcd2
    have hnr := enc_range (nmC_B hk (s := 0) (i := iN) (m := tN) (cd := 6) (by omega) (by omega) (by omega))
    have hst := (hk.2.2.2.2.2.2.2.2.2.2.2 (iN * 12 + tN) (by omega)).2.1
    refine jr_aload_n (pc := 0) hh 3 dL_drift_0 rfl rfl ?_
    refine jr_iconst (pc := 1) hh dL_drift_1 ?_
    refine jr_aload_n (pc := 2) hh 0 dL_drift_2 rfl rfl ?_
    refine jr_iload_n (pc := 3) hh 1 dL_drift_3 rfl rfl ?_
    refine jr_iload_n (pc := 4) hh 2 dL_drift_4 rfl rfl ?_
    refine jr_callV (pc := 5) hh [.int (iI (iN : Int)), .int (iI (tN : Int))] [.int (iI 0), .ref o] (c_X3_drift l G h F V iN tN hk (by omega) (by omega) (by omega) (by omega)) gL_drift_X3_drift rfl (by decide) (by decide) [0, 1, 2, 3, 4, 5, 6, 7, 8, 9, 10, 11, 12, 13, 14, 15, 16, 17] [18] rfl rfl rfl rfl (by decide) 0 rfl rfl 2 rfl rfl (Nat.le_of_ble_eq_true rfl) (by decide +kernel) dL_drift_5 (fun rv1 w1 h1 => ?_)
    obtain ⟨rfl, F', hF', rfl⟩ := h1
    refine jr_perm (ws' := wO G h F' V o fo) (st := [.int (iI ((enc (nmC F 0 tN 6 iN)) - F 12 (iN * 12 + tN))), .int (iI 0), .ref o]) [1, 2, 3, 4, 5, 6, 7, 8, 9, 10, 11, 12, 13, 14, 15, 16, 17, 18, 0] rfl rfl ?_
    refine jr_i2l (pc := 8) hh dL_drift_8 ⟨by omega, by omega⟩ ?_
    refine jr_last (F := fo) (ws' := wO G h F' V o (jU fo 0 ((enc (nmC F 0 tN 6 iN)) - F 12 (iN * 12 + tN)))) (pc := 9) hh 18 rfl 0 rfl (by decide) (by decide) rfl dL_drift_9 ?_
    refine jr_goto (tgt := 25) (pc := 10) hh dL_drift_10 (by decide) ?_
    refine jr_iconst (pc := 25) hh dL_drift_25 ?_
    exact jr_iret (pc := 26) hh hret rfl ⟨jsi hcd.symm, _, _, _, rfl, fun q => absurd hcd q, fun _ => ⟨rfl, hF', rfl⟩⟩ (by decide) (by decide) dL_drift_26
  · skip
    refine jr_aload_n (pc := 0) hh 3 dL_drift_0 rfl rfl ?_
    refine jr_iconst (pc := 1) hh dL_drift_1 ?_
    refine jr_aload_n (pc := 2) hh 0 dL_drift_2 rfl rfl ?_
    refine jr_iload_n (pc := 3) hh 1 dL_drift_3 rfl rfl ?_
    refine jr_iload_n (pc := 4) hh 2 dL_drift_4 rfl rfl ?_
    refine jr_ccallV (pc := 5) hh [.int (iI i), .int (iI t)] [.int (iI 0), .ref o] (t_X3_drift l G h F V i t hri hrt hk hcd hlt) gL_drift_X3_drift rfl (by decide) (by decide) [0, 1, 2, 3, 4, 5, 6, 7, 8, 9, 10, 11, 12, 13, 14, 15, 16, 17] [18] rfl rfl rfl rfl (by decide) 0 rfl rfl 2 rfl rfl (Nat.le_of_ble_eq_true rfl) (by decide +kernel) dL_drift_5 (fun E w1 h1 => ?_)
    obtain ⟨h1, ⟨F', hF', rfl⟩⟩ := h1
    rcases h1 with ⟨hk1, rfl⟩ | ⟨hk1, rfl⟩ | ⟨hk1, rfl⟩
    · skip
      refine ⟨"java/lang/IndexOutOfBoundsException", [], ⟨0, 10, 13, 21⟩, [⟨0, 10, 17, 56⟩, ⟨0, 10, 21, 38⟩], htab.trans rfl, (fun z hz => absurd hz List.not_mem_nil), by decide, by decide, jts hh _ (by decide +kernel : Cond.classLink RL 21 "java/lang/IndexOutOfBoundsException" ∈ wsL_drift), va_Nw.use rfl ((jnn hh).2.2.1.1 "java/lang/IndexOutOfBoundsException" (by decide)), fun q => ?_⟩
      refine jr_ws (ws' := [(o, .inl (G.2 2, 1, .inr (.inl (jL fo))))] ++ wC G h F' V) rfl ?_
      refine jr_perm (ws' := wO G h F' V o fo) [1, 2, 3, 4, 5, 6, 7, 8, 9, 10, 11, 12, 13, 14, 15, 16, 17, 18, 0] rfl rfl ?_
      refine jr_astore (lv' := [(4, .ref q), (0, .ref (h 0)), (1, .int (iI i)), (2, .int (iI t)), (3, .ref o)]) (pc := 13) hh dL_drift_13 (by decide) rfl ?_
      refine jr_iconst (pc := 15) hh dL_drift_15 ?_
      exact jr_iret (pc := 16) hh hret rfl ⟨jsi hk1.symm, _, _, _, rfl, fun _ => ⟨hF', rfl⟩, fun q => absurd q hcd⟩ (by decide) (by decide) dL_drift_16
    · skip
      refine ⟨"java/util/NoSuchElementException", [⟨0, 10, 13, 21⟩], ⟨0, 10, 17, 56⟩, [⟨0, 10, 21, 38⟩], htab.trans rfl, ?_, by decide, by decide, jts hh _ (by decide +kernel : Cond.classLink RL 56 "java/util/NoSuchElementException" ∈ wsL_drift), va_Nw.use rfl ((jnn hh).2.2.1.1 "java/util/NoSuchElementException" (by decide)), fun q => ?_⟩
      · intro z hz
        rcases List.mem_cons.mp hz with rfl | hz
        · exact Or.inr ⟨by decide, "java/lang/IndexOutOfBoundsException", jts hh _ (by decide +kernel : Cond.classLink RL 21 "java/lang/IndexOutOfBoundsException" ∈ wsL_drift), hnc "java/util/NoSuchElementException" (by decide) "java/lang/IndexOutOfBoundsException" (by decide) (by decide)⟩
        exact absurd hz List.not_mem_nil
      refine jr_ws (ws' := [(o, .inl (G.2 2, 1, .inr (.inl (jL fo))))] ++ wC G h F' V) rfl ?_
      refine jr_perm (ws' := wO G h F' V o fo) [1, 2, 3, 4, 5, 6, 7, 8, 9, 10, 11, 12, 13, 14, 15, 16, 17, 18, 0] rfl rfl ?_
      refine jr_astore (lv' := [(4, .ref q), (0, .ref (h 0)), (1, .int (iI i)), (2, .int (iI t)), (3, .ref o)]) (pc := 17) hh dL_drift_17 (by decide) rfl ?_
      refine jr_iconst (pc := 19) hh dL_drift_19 ?_
      exact jr_iret (pc := 20) hh hret rfl ⟨jsi hk1.symm, _, _, _, rfl, fun _ => ⟨hF', rfl⟩, fun q => absurd q hcd⟩ (by decide) (by decide) dL_drift_20
    · skip
      refine ⟨"java/lang/UnsupportedOperationException", [⟨0, 10, 13, 21⟩, ⟨0, 10, 17, 56⟩], ⟨0, 10, 21, 38⟩, [], htab.trans rfl, ?_, by decide, by decide, jts hh _ (by decide +kernel : Cond.classLink RL 38 "java/lang/UnsupportedOperationException" ∈ wsL_drift), va_Nw.use rfl ((jnn hh).2.2.1.1 "java/lang/UnsupportedOperationException" (by decide)), fun q => ?_⟩
      · intro z hz
        rcases List.mem_cons.mp hz with rfl | hz
        · exact Or.inr ⟨by decide, "java/lang/IndexOutOfBoundsException", jts hh _ (by decide +kernel : Cond.classLink RL 21 "java/lang/IndexOutOfBoundsException" ∈ wsL_drift), hnc "java/lang/UnsupportedOperationException" (by decide) "java/lang/IndexOutOfBoundsException" (by decide) (by decide)⟩
        rcases List.mem_cons.mp hz with rfl | hz
        · exact Or.inr ⟨by decide, "java/util/NoSuchElementException", jts hh _ (by decide +kernel : Cond.classLink RL 56 "java/util/NoSuchElementException" ∈ wsL_drift), hnc "java/lang/UnsupportedOperationException" (by decide) "java/util/NoSuchElementException" (by decide) (by decide)⟩
        exact absurd hz List.not_mem_nil
      refine jr_ws (ws' := [(o, .inl (G.2 2, 1, .inr (.inl (jL fo))))] ++ wC G h F' V) rfl ?_
      refine jr_perm (ws' := wO G h F' V o fo) [1, 2, 3, 4, 5, 6, 7, 8, 9, 10, 11, 12, 13, 14, 15, 16, 17, 18, 0] rfl rfl ?_
      refine jr_astore (lv' := [(4, .ref q), (0, .ref (h 0)), (1, .int (iI i)), (2, .int (iI t)), (3, .ref o)]) (pc := 21) hh dL_drift_21 (by decide) rfl ?_
      refine jr_iconst (pc := 23) hh dL_drift_23 ?_
      exact jr_iret (pc := 24) hh hret rfl ⟨jsi hk1.symm, _, _, _, rfl, fun _ => ⟨hF', rfl⟩, fun q => absurd q hcd⟩ (by decide) (by decide) dL_drift_24
set_option maxHeartbeats 4000000 in
set_option maxRecDepth 100000 in
theorem w_approvedShare (l : Launch) (hlt : l.stackTraces = false) (G : jG) (h : Nat → Nat) (F : Nat → Nat → Int) (V : Nat → Int) (o : Nat) (fo : Nat → UInt64) (hk : okC F V) : jMetL l yL_approvedShare wsL_approvedShare { frames := 14, cells := 1, slots := 6, locals := 4000 } G (wOD G h F V o fo) [.ref (h 0), .ref o] (fun rv w1 => rv = some (.int (iI (cdShare (cntTo (F 11) 97 120 + cntTo (F 11) 111 120)))) ∧ ∃ (F' : Nat → Nat → Int) (V' : Nat → Int) (fo' : Nat → UInt64), w1 = wOD G h F' V' o fo' ∧ (cdShare (cntTo (F 11) 97 120 + cntTo (F 11) 111 120) ≠ 0 → scr F F' ∧ V' = V) ∧ (cdShare (cntTo (F 11) 97 120 + cntTo (F 11) 111 120) = 0 → fo' 0 = FP.f2d (FP.fdiv (FP.i2f (iI (cntTo (F 11) 97 120))) (FP.i2f (iI (cntTo (F 11) 97 120 + cntTo (F 11) 111 120)))) ∧ F' = F ∧ V' = V)) := by
  refine jMetL_of (cc := cL_approvedShare) (maxL := 3) (ret := (some .int)) (hs := [(0, 8, 11, 82)]) (by decide +kernel) rfl (Nat.le_of_ble_eq_true rfl) ?_
  intro p e s m args below meth c A hh hret htab hnc
  obtain ⟨hV0, hV1, hV2, hV3, hV4, -⟩ := id hk
  refine jr_loc (lv' := [(0, .ref (h 0)), (1, .ref o)]) [0, 1] rfl ?_
  by_cases hcd : cdShare (cntTo (F 11) 97 120 + cntTo (F 11) 111 120) = 0
  · skip
    have hcd2 := hcd
    unfold cdShare at hcd2
    have hb1 := cntTo_bound (F 11) 97 120
    have hb2 := cntTo_bound (F 11) 111 120
    have hnan : FP.Core.fIsNaN (FP.fdiv (FP.i2f (iI (cntTo (F 11) 97 120))) (FP.i2f (iI (cntTo (F 11) 97 120 + cntTo (F 11) 111 120)))) = false := fdiv_ok ⟨by omega, by omega⟩ (by omega)
    refine jr_aload_n (pc := 0) hh 1 dL_approvedShare_0 rfl rfl ?_
    refine jr_iconst (pc := 1) hh dL_approvedShare_1 ?_
    refine jr_aload_n (pc := 2) hh 0 dL_approvedShare_2 rfl rfl ?_
    refine jr_callV (pc := 3) hh [] [.int (iI 0), .ref o] (c_X3_approvedShare l G h F V hk (by omega)) gL_approvedShare_X3_approvedShare rfl (by decide) (by decide) [0, 1, 2, 3, 4, 5, 6, 7, 8, 9, 10, 11, 12, 13, 14, 15, 16, 17] [18] rfl rfl rfl rfl (by decide) 0 rfl rfl 0 rfl rfl (Nat.le_of_ble_eq_true rfl) (by decide +kernel) dL_approvedShare_3 (fun rv1 w1 h1 => ?_)
    obtain ⟨rfl, rfl⟩ := h1
    refine jr_perm (ws' := wOD G h F V o fo) (st := [.float (FP.fdiv (FP.i2f (iI (cntTo (F 11) 97 120))) (FP.i2f (iI (cntTo (F 11) 97 120 + cntTo (F 11) 111 120)))), .int (iI 0), .ref o]) [1, 2, 3, 4, 5, 6, 7, 8, 9, 10, 11, 12, 13, 14, 15, 16, 17, 18, 0] rfl rfl ?_
    refine jr_f2d (pc := 6) hh dL_approvedShare_6 (jn64 ((FP.f2d_nan _).trans hnan)) ?_
    refine jr_dast (F := fo) (ws' := wOD G h F V o (vf_upd fo 0 (FP.f2d (FP.fdiv (FP.i2f (iI (cntTo (F 11) 97 120))) (FP.i2f (iI (cntTo (F 11) 97 120 + cntTo (F 11) 111 120))))))) (pc := 7) hh 18 rfl 0 rfl (by decide) (by decide) rfl rfl dL_approvedShare_7 ?_
    refine jr_goto (tgt := 14) (pc := 8) hh dL_approvedShare_8 (by decide) ?_
    refine jr_iconst (pc := 14) hh dL_approvedShare_14 ?_
    exact jr_iret (pc := 15) hh hret rfl ⟨jsi hcd.symm, _, _, _, rfl, fun q => absurd hcd q, fun _ => ⟨rfl, rfl, rfl⟩⟩ (by decide) (by decide) dL_approvedShare_15
  · skip
    refine jr_aload_n (pc := 0) hh 1 dL_approvedShare_0 rfl rfl ?_
    refine jr_iconst (pc := 1) hh dL_approvedShare_1 ?_
    refine jr_aload_n (pc := 2) hh 0 dL_approvedShare_2 rfl rfl ?_
    refine jr_ccallV (pc := 3) hh [] [.int (iI 0), .ref o] (t_X3_approvedShare l G h F V   hk hcd hlt) gL_approvedShare_X3_approvedShare rfl (by decide) (by decide) [0, 1, 2, 3, 4, 5, 6, 7, 8, 9, 10, 11, 12, 13, 14, 15, 16, 17] [18] rfl rfl rfl rfl (by decide) 0 rfl rfl 0 rfl rfl (Nat.le_of_ble_eq_true rfl) (by decide +kernel) dL_approvedShare_3 (fun E w1 h1 => ?_)
    obtain ⟨h1, rfl⟩ := h1
    obtain ⟨hk1, rfl⟩ := h1
    · skip
      refine ⟨"java/lang/ArithmeticException", [], ⟨0, 8, 11, 82⟩, [], htab.trans rfl, (fun z hz => absurd hz List.not_mem_nil), by decide, by decide, jts hh _ (by decide +kernel : Cond.classLink RL 82 "java/lang/ArithmeticException" ∈ wsL_approvedShare), va_Nw.use rfl ((jnn hh).2.2.1.1 "java/lang/ArithmeticException" (by decide)), fun q => ?_⟩
      refine jr_ws (ws' := [(o, .inl (G.2 4, 1, .inr (.inr (.inr (.inl fo)))))] ++ wC G h F V) rfl ?_
      refine jr_perm (ws' := wOD G h F V o fo) [1, 2, 3, 4, 5, 6, 7, 8, 9, 10, 11, 12, 13, 14, 15, 16, 17, 18, 0] rfl rfl ?_
      refine jr_astore_n (lv' := [(2, .ref q), (0, .ref (h 0)), (1, .ref o)]) (pc := 11) hh dL_approvedShare_11 rfl (by decide) rfl ?_
      refine jr_iconst (pc := 12) hh dL_approvedShare_12 ?_
      exact jr_iret (pc := 13) hh hret rfl ⟨jsi hk1.symm, _, _, _, rfl, fun _ => ⟨scr_rf hk, rfl⟩, fun q => absurd q hcd⟩ (by decide) (by decide) dL_approvedShare_13
set_option maxHeartbeats 4000000 in
set_option maxRecDepth 100000 in
theorem w_meanTolerance (l : Launch) (hlt : l.stackTraces = false) (G : jG) (h : Nat → Nat) (F : Nat → Nat → Int) (V : Nat → Int) (o : Nat) (fo : Nat → UInt64) (hk : okC F V) : jMetL l yL_meanTolerance wsL_meanTolerance { frames := 14, cells := 1, slots := 6, locals := 4000 } G (wOD G h F V o fo) [.ref (h 0), .ref o] (fun rv w1 => rv = some (.int (iI (cdShare (cntTo (F 11) 97 120 + cntTo (F 11) 111 120)))) ∧ ∃ (F' : Nat → Nat → Int) (V' : Nat → Int) (fo' : Nat → UInt64), w1 = wOD G h F' V' o fo' ∧ (cdShare (cntTo (F 11) 97 120 + cntTo (F 11) 111 120) ≠ 0 → scr F F' ∧ V' = V) ∧ (cdShare (cntTo (F 11) 97 120 + cntTo (F 11) 111 120) = 0 → fo' 0 = (FP.ddiv (FP.i2d (iI (sumTo (F 13) 120))) (FP.i2d (iI (cntTo (F 11) 97 120 + cntTo (F 11) 111 120)))) ∧ F' = F ∧ V' = V)) := by
  refine jMetL_of (cc := cL_meanTolerance) (maxL := 3) (ret := (some .int)) (hs := [(0, 7, 10, 82)]) (by decide +kernel) rfl (Nat.le_of_ble_eq_true rfl) ?_
  intro p e s m args below meth c A hh hret htab hnc
  obtain ⟨hV0, hV1, hV2, hV3, hV4, -⟩ := id hk
  refine jr_loc (lv' := [(0, .ref (h 0)), (1, .ref o)]) [0, 1] rfl ?_
  by_cases hcd : cdShare (cntTo (F 11) 97 120 + cntTo (F 11) 111 120) = 0
  · skip
    have hcd2 := hcd
    unfold cdShare at hcd2
    refine jr_aload_n (pc := 0) hh 1 dL_meanTolerance_0 rfl rfl ?_
    refine jr_iconst (pc := 1) hh dL_meanTolerance_1 ?_
    refine jr_aload_n (pc := 2) hh 0 dL_meanTolerance_2 rfl rfl ?_
    refine jr_callV (pc := 3) hh [] [.int (iI 0), .ref o] (c_X3_meanTolerance l G h F V hk (by omega)) gL_meanTolerance_X3_meanTolerance rfl (by decide) (by decide) [0, 1, 2, 3, 4, 5, 6, 7, 8, 9, 10, 11, 12, 13, 14, 15, 16, 17] [18] rfl rfl rfl rfl (by decide) 0 rfl rfl 0 rfl rfl (Nat.le_of_ble_eq_true rfl) (by decide +kernel) dL_meanTolerance_3 (fun rv1 w1 h1 => ?_)
    obtain ⟨rfl, rfl⟩ := h1
    refine jr_perm (ws' := wOD G h F V o fo) (st := [.double (FP.ddiv (FP.i2d (iI (sumTo (F 13) 120))) (FP.i2d (iI (cntTo (F 11) 97 120 + cntTo (F 11) 111 120)))), .int (iI 0), .ref o]) [1, 2, 3, 4, 5, 6, 7, 8, 9, 10, 11, 12, 13, 14, 15, 16, 17, 18, 0] rfl rfl ?_
    refine jr_dast (F := fo) (ws' := wOD G h F V o (vf_upd fo 0 (FP.ddiv (FP.i2d (iI (sumTo (F 13) 120))) (FP.i2d (iI (cntTo (F 11) 97 120 + cntTo (F 11) 111 120)))))) (pc := 6) hh 18 rfl 0 rfl (by decide) (by decide) rfl rfl dL_meanTolerance_6 ?_
    refine jr_goto (tgt := 13) (pc := 7) hh dL_meanTolerance_7 (by decide) ?_
    refine jr_iconst (pc := 13) hh dL_meanTolerance_13 ?_
    exact jr_iret (pc := 14) hh hret rfl ⟨jsi hcd.symm, _, _, _, rfl, fun q => absurd hcd q, fun _ => ⟨rfl, rfl, rfl⟩⟩ (by decide) (by decide) dL_meanTolerance_14
  · skip
    refine jr_aload_n (pc := 0) hh 1 dL_meanTolerance_0 rfl rfl ?_
    refine jr_iconst (pc := 1) hh dL_meanTolerance_1 ?_
    refine jr_aload_n (pc := 2) hh 0 dL_meanTolerance_2 rfl rfl ?_
    refine jr_ccallV (pc := 3) hh [] [.int (iI 0), .ref o] (t_X3_meanTolerance l G h F V   hk hcd hlt) gL_meanTolerance_X3_meanTolerance rfl (by decide) (by decide) [0, 1, 2, 3, 4, 5, 6, 7, 8, 9, 10, 11, 12, 13, 14, 15, 16, 17] [18] rfl rfl rfl rfl (by decide) 0 rfl rfl 0 rfl rfl (Nat.le_of_ble_eq_true rfl) (by decide +kernel) dL_meanTolerance_3 (fun E w1 h1 => ?_)
    obtain ⟨h1, rfl⟩ := h1
    obtain ⟨hk1, rfl⟩ := h1
    · skip
      refine ⟨"java/lang/ArithmeticException", [], ⟨0, 7, 10, 82⟩, [], htab.trans rfl, (fun z hz => absurd hz List.not_mem_nil), by decide, by decide, jts hh _ (by decide +kernel : Cond.classLink RL 82 "java/lang/ArithmeticException" ∈ wsL_meanTolerance), va_Nw.use rfl ((jnn hh).2.2.1.1 "java/lang/ArithmeticException" (by decide)), fun q => ?_⟩
      refine jr_ws (ws' := [(o, .inl (G.2 4, 1, .inr (.inr (.inr (.inl fo)))))] ++ wC G h F V) rfl ?_
      refine jr_perm (ws' := wOD G h F V o fo) [1, 2, 3, 4, 5, 6, 7, 8, 9, 10, 11, 12, 13, 14, 15, 16, 17, 18, 0] rfl rfl ?_
      refine jr_astore_n (lv' := [(2, .ref q), (0, .ref (h 0)), (1, .ref o)]) (pc := 10) hh dL_meanTolerance_10 rfl (by decide) rfl ?_
      refine jr_iconst (pc := 11) hh dL_meanTolerance_11 ?_
      exact jr_iret (pc := 12) hh hret rfl ⟨jsi hk1.symm, _, _, _, rfl, fun _ => ⟨scr_rf hk, rfl⟩, fun q => absurd q hcd⟩ (by decide) (by decide) dL_meanTolerance_12
