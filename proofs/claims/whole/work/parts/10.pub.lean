/-! CostStudio's public methods -/
def cdAddDriver (nd z : Int) : Int := if ¬ (0 ≤ z ∧ z ≤ 9999) then 1 else if 6 ≤ nd then 2 else 0
def cdSetDriver (nd d z : Int) : Int := if ¬ (0 ≤ d ∧ d < nd) then 1 else if ¬ (0 ≤ z ∧ z ≤ 9999) then 2 else 0
def cdDriver (ns nd s d t : Int) : Int := if ¬ ((0 ≤ s ∧ s < ns) ∧ (0 ≤ d ∧ d < nd) ∧ (0 ≤ t ∧ t < 12)) then 1 else 0
def cdAddLine (nd nl kd on ot : Int) : Int := if ¬ (kd = 100 ∨ kd = 115 ∨ kd = 109 ∨ kd = 112) then 1 else if (kd = 100 ∧ ¬ (0 ≤ on ∧ on < nd)) ∨ (kd ≠ 100 ∧ ¬ ((0 ≤ on ∧ on < nl) ∧ (0 ≤ ot ∧ ot < nl))) then 2 else if 10 ≤ nl then 3 else 0
def cdAddScenario (ns pr : Int) : Int := if ¬ (0 ≤ pr ∧ pr < ns) then 1 else if 4 ≤ ns then 2 else 0
def cdDiffer (ns nd nf s d t x : Int) : Int := if ¬ ((0 ≤ s ∧ s < ns) ∧ (0 ≤ d ∧ d < nd) ∧ (0 ≤ t ∧ t < 12)) then 1 else if ¬ (-999 ≤ x ∧ x ≤ 999) then 2 else if s = 0 then 3 else if 12 ≤ nf then 4 else 0
def cdNumber (ns nl s i t x : Int) : Int := if ¬ ((0 ≤ s ∧ s < ns) ∧ (0 ≤ i ∧ i < nl) ∧ (0 ≤ t ∧ t < 12)) then 1 else if x = -1000000000 then 2 else 0
def cdYear (ns nl s i x : Int) : Int := if ¬ ((0 ≤ s ∧ s < ns) ∧ (0 ≤ i ∧ i < nl)) then 1 else if 0 < x then 2 else 0
def cdEffect (ns nd nl s d i t x y : Int) : Int := if ¬ ((0 ≤ s ∧ s < ns) ∧ (0 ≤ d ∧ d < nd) ∧ (0 ≤ i ∧ i < nl) ∧ (0 ≤ t ∧ t < 12)) then 1 else if x = -1000000000 ∨ y = -1000000000 then 2 else 0
def cdSeek (nd nl d i t x : Int) : Int := if ¬ ((0 ≤ d ∧ d < nd) ∧ (0 ≤ i ∧ i < nl) ∧ (0 ≤ t ∧ t < 12)) then 1 else if x < 0 then 2 else 0
def cdActual (nl pm i t x : Int) : Int := if ¬ ((0 ≤ i ∧ i < nl) ∧ (0 ≤ t ∧ t < 12)) then 1 else if pm < t ∨ ¬ (-9999999 ≤ x ∧ x ≤ 9999999) then 2 else 0
def cdTake (nl i t x : Int) : Int := if ¬ ((0 ≤ i ∧ i < nl) ∧ (0 ≤ t ∧ t < 12)) then 1 else if x = -1000000000 then 2 else 0
def cdPass (pm : Int) : Int := if 11 ≤ pm then 1 else 0
def cdApprove (nl i t tol x : Int) : Int := if ¬ ((0 ≤ i ∧ i < nl) ∧ (0 ≤ t ∧ t < 12)) then 1 else if ¬ (0 ≤ tol ∧ tol ≤ 9999) then 2 else if x = -1000000000 then 3 else 0
def cdState (nl i t : Int) : Int := if ¬ ((0 ≤ i ∧ i < nl) ∧ (0 ≤ t ∧ t < 12)) then 1 else 0
def cdDrift (nl i t st x : Int) : Int := if ¬ ((0 ≤ i ∧ i < nl) ∧ (0 ≤ t ∧ t < 12)) then 1 else if st = 45 then 2 else if x = -1000000000 then 3 else 0
def cdShare (n : Int) : Int := if n = 0 then 1 else 0
theorem okC_dv {F : Nat → Nat → Int} {V : Nat → Int} (h : okC F V) (k : Nat) {z : Int} (hz : 0 ≤ z ∧ z ≤ 9999) : okC (uF F 0 (jU (F 0) k z)) V := by
  unfold okC at h ⊢
  refine ⟨h.1, h.2.1, h.2.2.1, h.2.2.2.1, h.2.2.2.2.1, fun d hd => ?_, h.2.2.2.2.2.2⟩
  show 0 ≤ jU (F 0) k z d ∧ jU (F 0) k z d ≤ 9999
  have := h.2.2.2.2.2.1 d hd
  unfold jU
  split <;> omega
theorem okC_act {F : Nat → Nat → Int} {V : Nat → Int} (h : okC F V) (k : Nat) {z : Int} (hz : z = -1000000000 ∨ (-9999999 ≤ z ∧ z ≤ 9999999)) : okC (uF F 8 (jU (F 8) k z)) V := by
  unfold okC at h ⊢
  refine ⟨h.1, h.2.1, h.2.2.1, h.2.2.2.1, h.2.2.2.2.1, h.2.2.2.2.2.1, h.2.2.2.2.2.2.1, h.2.2.2.2.2.2.2.1, h.2.2.2.2.2.2.2.2.1, fun c hc => ?_, h.2.2.2.2.2.2.2.2.2.2⟩
  show jU (F 8) k z c = -1000000000 ∨ (-9999999 ≤ jU (F 8) k z c ∧ jU (F 8) k z c ≤ 9999999)
  have := h.2.2.2.2.2.2.2.2.2.1 c hc
  unfold jU
  split <;> assumption
set_option maxRecDepth 20000 in
theorem in_X3_addDriver_X3 : ∀ w ∈ u_ws RX3 TX3 7, w ∈ wsX3_addDriver := by decide +kernel
set_option maxHeartbeats 4000000 in
set_option maxRecDepth 100000 in
theorem c_X3_addDriver (l : Launch) (G : jG) (h : Nat → Nat) (F : Nat → Nat → Int) (V : Nat → Int) (z : Int) (hk : okC F V) (hz : 0 ≤ z ∧ z ≤ 9999) (hn : V 3 < 6) : jMet l yX3_addDriver wsX3_addDriver { frames := 7, cells := 0, slots := 0, locals := 400 } G (wC G h F V) [.ref (h 0), .int (iI z)] (fun rv w1 => rv = some (.int (iI (V 3))) ∧ w1 = wC G h (uF F 0 (jU (F 0) (V 3).toNat z)) (jU V 3 (V 3 + 1))) := by
  refine jMet_of (cc := cX3_addDriver) (maxL := 2) (ret := (some .int)) (by decide +kernel) rfl (Nat.le_of_ble_eq_true rfl) ?_
  intro p e s m args below meth c A hh hret hinit
  refine jr_loc (lv' := [(0, .ref (h 0)), (1, .int (iI z))]) [0, 1] rfl ?_
  obtain ⟨hV0, hV1, hV2, hV3, hV4, -⟩ := id hk
  refine jr_iload_n (pc := 0) hh 1 dX3_addDriver_0 rfl rfl ?_
  refine jr_callS (pc := 1) hh [.int (iI z)] [] (c_X3_requireDriverValue l G z (by omega)) gX3_addDriver_X3_requireDriverValue rfl (by decide) (by decide) [] [0, 1, 2, 3, 4, 5, 6, 7, 8, 9, 10, 11, 12, 13, 14, 15, 16, 17] rfl rfl rfl rfl (by decide) 1 rfl rfl (Nat.le_of_ble_eq_true rfl) (by decide +kernel) dX3_addDriver_1 (fun rvu1 wu1 hu1 => ?_)
  obtain ⟨rfl, rfl⟩ := hu1
  refine jr_perm (ws' := (wC G h F V)) (st := []) [0, 1, 2, 3, 4, 5, 6, 7, 8, 9, 10, 11, 12, 13, 14, 15, 16, 17] rfl rfl ?_
  refine jr_aload_n (pc := 4) hh 0 dX3_addDriver_4 rfl rfl ?_
  refine jr_get (v := .int (iI (V 3))) (pc := 5) hh in_X3_addDriver_X3 0 rfl rfl 5 (by decide) (by decide +kernel : Cond.fieldLink RX3 41 (TX3 5).1 (TX3 5).2.1 (TX3 5).2.2.1 ∈ wsX3_addDriver) rfl dX3_addDriver_5 ?_
  refine jr_bipush (pc := 8) hh dX3_addDriver_8 (by decide) ?_
  refine jr_icmp_lt (tgt := 21) (pc := 10) hh dX3_addDriver_10 (by decide) ⟨by omega, by omega⟩ ⟨by omega, by omega⟩ (fun c2 => ?_) (fun c2 => ?_)
  · skip
    refine jr_aload_n (pc := 21) hh 0 dX3_addDriver_21 rfl rfl ?_
    refine jr_get (v := .ref (h 1)) (pc := 22) hh in_X3_addDriver_X3 0 rfl rfl 0 (by decide) (by decide +kernel : Cond.fieldLink RX3 9 (TX3 0).1 (TX3 0).2.1 (TX3 0).2.2.1 ∈ wsX3_addDriver) rfl dX3_addDriver_22 ?_
    refine jr_aload_n (pc := 25) hh 0 dX3_addDriver_25 rfl rfl ?_
    refine jr_get (v := .int (iI (V 3))) (pc := 26) hh in_X3_addDriver_X3 0 rfl rfl 5 (by decide) (by decide +kernel : Cond.fieldLink RX3 41 (TX3 5).1 (TX3 5).2.1 (TX3 5).2.2.1 ∈ wsX3_addDriver) rfl dX3_addDriver_26 ?_
    refine jr_iload_n (pc := 29) hh 1 dX3_addDriver_29 rfl rfl ?_
    refine jr_iast (F := (F 0)) (ws' := (wC G h (uF F 0 (jU (F 0) ((V 3).toNat) z)) V)) (pc := 30) hh 1 rfl ((V 3).toNat) (by omega) (by omega) (by decide) rfl dX3_addDriver_30 ?_
    refine jr_aload_n (pc := 31) hh 0 dX3_addDriver_31 rfl rfl ?_
    refine jr_dup (pc := 32) hh dX3_addDriver_32 rfl ?_
    refine jr_get (v := .int (iI (V 3))) (pc := 33) hh in_X3_addDriver_X3 0 rfl rfl 5 (by decide) (by decide +kernel : Cond.fieldLink RX3 41 (TX3 5).1 (TX3 5).2.1 (TX3 5).2.2.1 ∈ wsX3_addDriver) rfl dX3_addDriver_33 ?_
    refine jr_iconst (pc := 36) hh dX3_addDriver_36 ?_
    refine jr_iadd (pc := 37) hh dX3_addDriver_37 ?_
    refine jr_put (ws' := (wC G h (uF F 0 (jU (F 0) ((V 3).toNat) z)) (jU V 3 ((V 3) + 1)))) (pc := 38) hh in_X3_addDriver_X3 tyX3_ok nmX3 0 rfl rfl 5 (by decide) (by decide +kernel : Cond.fieldLink RX3 41 (TX3 5).1 (TX3 5).2.1 (TX3 5).2.2.1 ∈ wsX3_addDriver) rfl rfl (Nat.le_of_ble_eq_true rfl) rfl dX3_addDriver_38 ?_
    refine jr_aload_n (pc := 41) hh 0 dX3_addDriver_41 rfl rfl ?_
    refine jr_get (v := .int (iI ((V 3) + 1))) (pc := 42) hh in_X3_addDriver_X3 0 rfl rfl 5 (by decide) (by decide +kernel : Cond.fieldLink RX3 41 (TX3 5).1 (TX3 5).2.1 (TX3 5).2.2.1 ∈ wsX3_addDriver) rfl dX3_addDriver_42 ?_
    refine jr_iconst (pc := 45) hh dX3_addDriver_45 ?_
    refine jr_isub (pc := 46) hh dX3_addDriver_46 ?_
    exact jr_iret (pc := 47) hh hret rfl ⟨jsi (by omega), rfl⟩ (by decide) (by decide) dX3_addDriver_47
  · skip
    exfalso
    omega
set_option maxRecDepth 20000 in
theorem tw_X3_addDriver_47 : ∀ w ∈ (vx_at0 RX3 47 "java/lang/IllegalStateException" ["java/lang/RuntimeException", "java/lang/Exception"]).filter goodWord, w ∈ wsX3_addDriver := by decide +kernel
set_option maxRecDepth 20000 in
theorem tb_47 : ∀ w ∈ (vx_at0 RX3 47 "java/lang/IllegalStateException" ["java/lang/RuntimeException", "java/lang/Exception"]).filter (fun w => !goodWord w), w ∈ [Cond.castable "java/lang/IllegalStateException" "java/lang/IllegalStateException", Cond.declares (Bundle.init0 "java/lang/RuntimeException"), Cond.declares (Bundle.init0 "java/lang/Exception"), Cond.declares (Bundle.init0 Bundle.tN)] := by decide +kernel
set_option maxRecDepth 20000 in
theorem tg_47 : ∀ w ∈ Cond.classLink RX3 45 "java/lang/IllegalStateException" :: Cond.initialized "java/lang/IllegalStateException" :: vx_at0 RX3 47 "java/lang/IllegalStateException" ["java/lang/RuntimeException", "java/lang/Exception"], vx_ot w = true := by decide +kernel
set_option maxHeartbeats 4000000 in
set_option maxRecDepth 100000 in
theorem t_X3_addDriver (l : Launch) (G : jG) (h : Nat → Nat) (F : Nat → Nat → Int) (V : Nat → Int) (z : Int) (hrz : jR z) (hk : okC F V) (hcd : cdAddDriver (V 3) z ≠ 0) (hlt : l.stackTraces = false) : jThr l yX3_addDriver wsX3_addDriver { frames := 8, cells := 1, slots := 6, locals := 520 } G (wC G h F V) [.ref (h 0), .int (iI z)] (fun E w1 => ((cdAddDriver (V 3) z = 1 ∧ E = "java/lang/IllegalArgumentException") ∨ (cdAddDriver (V 3) z = 2 ∧ E = "java/lang/IllegalStateException")) ∧ w1 = wC G h F V) := by
  refine jThr_of (cc := cX3_addDriver) (maxL := 2) (ret := (some .int)) (by decide +kernel) rfl (Nat.le_of_ble_eq_true rfl) ?_
  intro p e s m args below meth c A hh htab
  refine jr_loc (lv' := [(0, .ref (h 0)), (1, .int (iI z))]) [0, 1] rfl ?_
  obtain ⟨hV0, hV1, hV2, hV3, hV4, -⟩ := id hk
  have hrz1 := hrz.1
  have hrz2 := hrz.2
  refine jr_iload_n (pc := 0) hh 1 dX3_addDriver_0 rfl rfl ?_
  by_cases q1 : 0 ≤ z ∧ z < 10000
  · skip
    refine jr_callS (pc := 1) hh [.int (iI z)] [] (c_X3_requireDriverValue l G z (by omega)) gX3_addDriver_X3_requireDriverValue rfl (by decide) (by decide) [] [0, 1, 2, 3, 4, 5, 6, 7, 8, 9, 10, 11, 12, 13, 14, 15, 16, 17] rfl rfl rfl rfl (by decide) 1 rfl rfl (Nat.le_of_ble_eq_true rfl) (by decide +kernel) dX3_addDriver_1 (fun rvu2 wu2 hu2 => ?_)
    obtain ⟨rfl, rfl⟩ := hu2
    refine jr_perm (ws' := (wC G h F V)) (st := []) [0, 1, 2, 3, 4, 5, 6, 7, 8, 9, 10, 11, 12, 13, 14, 15, 16, 17] rfl rfl ?_
    refine jr_aload_n (pc := 4) hh 0 dX3_addDriver_4 rfl rfl ?_
    refine jr_get (v := .int (iI (V 3))) (pc := 5) hh in_X3_addDriver_X3 0 rfl rfl 5 (by decide) (by decide +kernel : Cond.fieldLink RX3 41 (TX3 5).1 (TX3 5).2.1 (TX3 5).2.2.1 ∈ wsX3_addDriver) rfl dX3_addDriver_5 ?_
    refine jr_bipush (pc := 8) hh dX3_addDriver_8 (by decide) ?_
    refine jr_icmp_lt (tgt := 21) (pc := 10) hh dX3_addDriver_10 (by decide) ⟨by omega, by omega⟩ ⟨by omega, by omega⟩ (fun c3 => ?_) (fun c3 => ?_)
    · skip
      exfalso
      unfold cdAddDriver at hcd
      omega
    · skip
      exact jr_throw (pc := 13) hh hlt htab (cls := "java/lang/IllegalStateException") (names := ["java/lang/RuntimeException", "java/lang/Exception"]) (by decide +kernel) (by decide +kernel) (by decide +kernel) (by decide +kernel) tw_X3_addDriver_47 tb_47 (by decide) tg_47 dX3_addDriver_13 dX3_addDriver_16 dX3_addDriver_17 dX3_addDriver_20 ⟨Nat.le_of_ble_eq_true rfl, Nat.le_of_ble_eq_true rfl, Nat.le_of_ble_eq_true rfl, Nat.le_of_ble_eq_true rfl⟩ (Nat.le_of_ble_eq_true rfl) (Nat.le_of_ble_eq_true rfl) ⟨Or.inr (⟨by unfold cdAddDriver; omega, rfl⟩), rfl⟩
  · skip
    exact jr_tcallS (pc := 1) hh [.int (iI z)] [] (t_X3_requireDriverValue l G z ⟨by omega, by omega⟩ (by omega) hlt) gX3_addDriver_X3_requireDriverValue rfl (by decide) (by decide) [] [0, 1, 2, 3, 4, 5, 6, 7, 8, 9, 10, 11, 12, 13, 14, 15, 16, 17] rfl rfl rfl rfl (by decide) 1 rfl rfl (Nat.le_of_ble_eq_true rfl) (by decide +kernel) (fun E w1 hx => by obtain ⟨rfl, rfl⟩ := hx; exact ⟨Or.inl ⟨by unfold cdAddDriver; omega, rfl⟩, rfl⟩) htab (by decide) (by decide) dX3_addDriver_1
set_option maxRecDepth 20000 in
theorem in_X3_setDriver_X3 : ∀ w ∈ u_ws RX3 TX3 7, w ∈ wsX3_setDriver := by decide +kernel
set_option maxHeartbeats 4000000 in
set_option maxRecDepth 100000 in
theorem c_X3_setDriver (l : Launch) (G : jG) (h : Nat → Nat) (F : Nat → Nat → Int) (V : Nat → Int) (d : Nat) (z : Int) (hk : okC F V) (hd : (d : Int) < V 3) (hz : 0 ≤ z ∧ z ≤ 9999) : jMet l yX3_setDriver wsX3_setDriver { frames := 7, cells := 0, slots := 0, locals := 400 } G (wC G h F V) [.ref (h 0), .int (iI (d : Int)), .int (iI z)] (fun rv w1 => rv = some (.int (iI (cntC (uF F 0 (jU (F 0) d z)) V))) ∧ ∃ F' : Nat → Nat → Int, scS (uF F 0 (jU (F 0) d z)) F' V 12 ∧ w1 = wC G h F' V) := by
  refine jMet_of (cc := cX3_setDriver) (maxL := 3) (ret := (some .int)) (by decide +kernel) rfl (Nat.le_of_ble_eq_true rfl) ?_
  intro p e s m args below meth c A hh hret hinit
  refine jr_loc (lv' := [(0, .ref (h 0)), (1, .int (iI (d : Int))), (2, .int (iI z))]) [0, 1, 2] rfl ?_
  obtain ⟨hV0, hV1, hV2, hV3, hV4, -⟩ := id hk
  refine jr_aload_n (pc := 0) hh 0 dX3_setDriver_0 rfl rfl ?_
  refine jr_iload_n (pc := 1) hh 1 dX3_setDriver_1 rfl rfl ?_
  refine jr_callV (pc := 2) hh [.int (iI (d : Int))] [] (c_X3_requireDriver l G h F V (d : Int) (by omega) (by omega)) gX3_setDriver_X3_requireDriver rfl (by decide) (by decide) [0, 1, 2, 3, 4, 5, 6, 7, 8, 9, 10, 11, 12, 13, 14, 15, 16, 17] [] rfl rfl rfl rfl (by decide) 0 rfl rfl 1 rfl rfl (Nat.le_of_ble_eq_true rfl) (by decide +kernel) dX3_setDriver_2 (fun rvu1 wu1 hu1 => ?_)
  obtain ⟨rfl, rfl⟩ := hu1
  refine jr_perm (ws' := (wC G h F V)) (st := []) [0, 1, 2, 3, 4, 5, 6, 7, 8, 9, 10, 11, 12, 13, 14, 15, 16, 17] rfl rfl ?_
  refine jr_iload_n (pc := 5) hh 2 dX3_setDriver_5 rfl rfl ?_
  refine jr_callS (pc := 6) hh [.int (iI z)] [] (c_X3_requireDriverValue l G z (by omega)) gX3_setDriver_X3_requireDriverValue rfl (by decide) (by decide) [] [0, 1, 2, 3, 4, 5, 6, 7, 8, 9, 10, 11, 12, 13, 14, 15, 16, 17] rfl rfl rfl rfl (by decide) 1 rfl rfl (Nat.le_of_ble_eq_true rfl) (by decide +kernel) dX3_setDriver_6 (fun rvu2 wu2 hu2 => ?_)
  obtain ⟨rfl, rfl⟩ := hu2
  refine jr_perm (ws' := (wC G h F V)) (st := []) [0, 1, 2, 3, 4, 5, 6, 7, 8, 9, 10, 11, 12, 13, 14, 15, 16, 17] rfl rfl ?_
  refine jr_aload_n (pc := 9) hh 0 dX3_setDriver_9 rfl rfl ?_
  refine jr_get (v := .ref (h 1)) (pc := 10) hh in_X3_setDriver_X3 0 rfl rfl 0 (by decide) (by decide +kernel : Cond.fieldLink RX3 9 (TX3 0).1 (TX3 0).2.1 (TX3 0).2.2.1 ∈ wsX3_setDriver) rfl dX3_setDriver_10 ?_
  refine jr_iload_n (pc := 13) hh 1 dX3_setDriver_13 rfl rfl ?_
  refine jr_iload_n (pc := 14) hh 2 dX3_setDriver_14 rfl rfl ?_
  refine jr_iast (F := (F 0)) (ws' := (wC G h (uF F 0 (jU (F 0) d z)) V)) (pc := 15) hh 1 rfl d (by omega) (by omega) (by decide) rfl dX3_setDriver_15 ?_
  have hk1 := okC_dv hk d hz
  refine jr_aload_n (pc := 16) hh 0 dX3_setDriver_16 rfl rfl ?_
  refine jr_callV (pc := 17) hh [] [] (c_X3_reopenDrifted l G h (uF F 0 (jU (F 0) d z)) V hk1) gX3_setDriver_X3_reopenDrifted rfl (by decide) (by decide) [0, 1, 2, 3, 4, 5, 6, 7, 8, 9, 10, 11, 12, 13, 14, 15, 16, 17] [] rfl rfl rfl rfl (by decide) 0 rfl rfl 0 rfl rfl (Nat.le_of_ble_eq_true rfl) (by decide +kernel) dX3_setDriver_17 (fun rvu3 wu3 hu3 => ?_)
  obtain ⟨rfl, F', hF', rfl⟩ := hu3
  refine jr_perm (ws' := (wC G h F' V)) (st := [.int (iI (cntC (uF F 0 (jU (F 0) d z)) V))]) [0, 1, 2, 3, 4, 5, 6, 7, 8, 9, 10, 11, 12, 13, 14, 15, 16, 17] rfl rfl ?_
  exact jr_iret (pc := 20) hh hret rfl ⟨rfl, F', hF', rfl⟩ (by decide) (by decide) dX3_setDriver_20
set_option maxHeartbeats 4000000 in
set_option maxRecDepth 100000 in
theorem t_X3_setDriver (l : Launch) (G : jG) (h : Nat → Nat) (F : Nat → Nat → Int) (V : Nat → Int) (d z : Int) (hrd : jR d) (hrz : jR z) (hk : okC F V) (hcd : cdSetDriver (V 3) d z ≠ 0) (hlt : l.stackTraces = false) : jThr l yX3_setDriver wsX3_setDriver { frames := 8, cells := 1, slots := 6, locals := 520 } G (wC G h F V) [.ref (h 0), .int (iI d), .int (iI z)] (fun E w1 => ((cdSetDriver (V 3) d z = 1 ∧ E = "java/lang/IndexOutOfBoundsException") ∨ (cdSetDriver (V 3) d z = 2 ∧ E = "java/lang/IllegalArgumentException")) ∧ w1 = wC G h F V) := by
  refine jThr_of (cc := cX3_setDriver) (maxL := 3) (ret := (some .int)) (by decide +kernel) rfl (Nat.le_of_ble_eq_true rfl) ?_
  intro p e s m args below meth c A hh htab
  refine jr_loc (lv' := [(0, .ref (h 0)), (1, .int (iI d)), (2, .int (iI z))]) [0, 1, 2] rfl ?_
  obtain ⟨hV0, hV1, hV2, hV3, hV4, -⟩ := id hk
  have hrd1 := hrd.1
  have hrz1 := hrz.1
  have hrd2 := hrd.2
  have hrz2 := hrz.2
  refine jr_aload_n (pc := 0) hh 0 dX3_setDriver_0 rfl rfl ?_
  refine jr_iload_n (pc := 1) hh 1 dX3_setDriver_1 rfl rfl ?_
  by_cases q1 : 0 ≤ d ∧ d < V 3
  · skip
    obtain ⟨dN, rfl⟩ : ∃ k : Nat, d = (k : Int) := ⟨d.toNat, by omega⟩
    refine jr_callV (pc := 2) hh [.int (iI (dN : Int))] [] (c_X3_requireDriver l G h F V (dN : Int) (by omega) (by omega)) gX3_setDriver_X3_requireDriver rfl (by decide) (by decide) [0, 1, 2, 3, 4, 5, 6, 7, 8, 9, 10, 11, 12, 13, 14, 15, 16, 17] [] rfl rfl rfl rfl (by decide) 0 rfl rfl 1 rfl rfl (Nat.le_of_ble_eq_true rfl) (by decide +kernel) dX3_setDriver_2 (fun rvu2 wu2 hu2 => ?_)
    obtain ⟨rfl, rfl⟩ := hu2
    refine jr_perm (ws' := (wC G h F V)) (st := []) [0, 1, 2, 3, 4, 5, 6, 7, 8, 9, 10, 11, 12, 13, 14, 15, 16, 17] rfl rfl ?_
    refine jr_iload_n (pc := 5) hh 2 dX3_setDriver_5 rfl rfl ?_
    by_cases q3 : 0 ≤ z ∧ z < 10000
    · skip
      refine jr_callS (pc := 6) hh [.int (iI z)] [] (c_X3_requireDriverValue l G z (by omega)) gX3_setDriver_X3_requireDriverValue rfl (by decide) (by decide) [] [0, 1, 2, 3, 4, 5, 6, 7, 8, 9, 10, 11, 12, 13, 14, 15, 16, 17] rfl rfl rfl rfl (by decide) 1 rfl rfl (Nat.le_of_ble_eq_true rfl) (by decide +kernel) dX3_setDriver_6 (fun rvu4 wu4 hu4 => ?_)
      obtain ⟨rfl, rfl⟩ := hu4
      refine jr_perm (ws' := (wC G h F V)) (st := []) [0, 1, 2, 3, 4, 5, 6, 7, 8, 9, 10, 11, 12, 13, 14, 15, 16, 17] rfl rfl ?_
      exfalso
      unfold cdSetDriver at hcd
      omega
    · skip
      exact jr_tcallS (pc := 6) hh [.int (iI z)] [] (t_X3_requireDriverValue l G z ⟨by omega, by omega⟩ (by omega) hlt) gX3_setDriver_X3_requireDriverValue rfl (by decide) (by decide) [] [0, 1, 2, 3, 4, 5, 6, 7, 8, 9, 10, 11, 12, 13, 14, 15, 16, 17] rfl rfl rfl rfl (by decide) 1 rfl rfl (Nat.le_of_ble_eq_true rfl) (by decide +kernel) (fun E w1 hx => by obtain ⟨rfl, rfl⟩ := hx; exact ⟨Or.inr (⟨by unfold cdSetDriver; omega, rfl⟩), rfl⟩) htab (by decide) (by decide) dX3_setDriver_6
  · skip
    exact jr_tcallV (pc := 2) hh [.int (iI d)] [] (t_X3_requireDriver l G h F V d ⟨by omega, by omega⟩ q1 (by omega) hlt) gX3_setDriver_X3_requireDriver rfl (by decide) (by decide) [0, 1, 2, 3, 4, 5, 6, 7, 8, 9, 10, 11, 12, 13, 14, 15, 16, 17] [] rfl rfl rfl rfl (by decide) 0 rfl rfl 1 rfl rfl (Nat.le_of_ble_eq_true rfl) (by decide +kernel) (fun E w1 hx => by obtain ⟨rfl, rfl⟩ := hx; exact ⟨Or.inl ⟨by unfold cdSetDriver; omega, rfl⟩, rfl⟩) htab (by decide) (by decide) dX3_setDriver_2
set_option maxHeartbeats 4000000 in
set_option maxRecDepth 100000 in
theorem c_X3_driver (l : Launch) (G : jG) (h : Nat → Nat) (F : Nat → Nat → Int) (V : Nat → Int) (s0 d t : Nat) (hk : okC F V) (hs : (s0 : Int) < V 0) (hd : (d : Int) < V 3) (ht : t < 12) : jMet l yX3_driver wsX3_driver { frames := 7, cells := 0, slots := 0, locals := 400 } G (wC G h F V) [.ref (h 0), .int (iI (s0 : Int)), .int (iI (d : Int)), .int (iI (t : Int))] (fun rv w1 => rv = some (.int (iI (valC F s0 d t))) ∧ w1 = wC G h F V) := by
  refine jMet_of (cc := cX3_driver) (maxL := 4) (ret := (some .int)) (by decide +kernel) rfl (Nat.le_of_ble_eq_true rfl) ?_
  intro p e s m args below meth c A hh hret hinit
  refine jr_loc (lv' := [(0, .ref (h 0)), (1, .int (iI (s0 : Int))), (2, .int (iI (d : Int))), (3, .int (iI (t : Int)))]) [0, 1, 2, 3] rfl ?_
  obtain ⟨hV0, hV1, hV2, hV3, hV4, -⟩ := id hk
  refine jr_aload_n (pc := 0) hh 0 dX3_driver_0 rfl rfl ?_
  refine jr_iload_n (pc := 1) hh 1 dX3_driver_1 rfl rfl ?_
  refine jr_callV (pc := 2) hh [.int (iI (s0 : Int))] [] (c_X3_requireScenario l G h F V (s0 : Int) (by omega) (by omega)) gX3_driver_X3_requireScenario rfl (by decide) (by decide) [0, 1, 2, 3, 4, 5, 6, 7, 8, 9, 10, 11, 12, 13, 14, 15, 16, 17] [] rfl rfl rfl rfl (by decide) 0 rfl rfl 1 rfl rfl (Nat.le_of_ble_eq_true rfl) (by decide +kernel) dX3_driver_2 (fun rvu1 wu1 hu1 => ?_)
  obtain ⟨rfl, rfl⟩ := hu1
  refine jr_perm (ws' := (wC G h F V)) (st := []) [0, 1, 2, 3, 4, 5, 6, 7, 8, 9, 10, 11, 12, 13, 14, 15, 16, 17] rfl rfl ?_
  refine jr_aload_n (pc := 5) hh 0 dX3_driver_5 rfl rfl ?_
  refine jr_iload_n (pc := 6) hh 2 dX3_driver_6 rfl rfl ?_
  refine jr_callV (pc := 7) hh [.int (iI (d : Int))] [] (c_X3_requireDriver l G h F V (d : Int) (by omega) (by omega)) gX3_driver_X3_requireDriver rfl (by decide) (by decide) [0, 1, 2, 3, 4, 5, 6, 7, 8, 9, 10, 11, 12, 13, 14, 15, 16, 17] [] rfl rfl rfl rfl (by decide) 0 rfl rfl 1 rfl rfl (Nat.le_of_ble_eq_true rfl) (by decide +kernel) dX3_driver_7 (fun rvu2 wu2 hu2 => ?_)
  obtain ⟨rfl, rfl⟩ := hu2
  refine jr_perm (ws' := (wC G h F V)) (st := []) [0, 1, 2, 3, 4, 5, 6, 7, 8, 9, 10, 11, 12, 13, 14, 15, 16, 17] rfl rfl ?_
  refine jr_iload_n (pc := 10) hh 3 dX3_driver_10 rfl rfl ?_
  refine jr_callS (pc := 11) hh [.int (iI (t : Int))] [] (c_X3_requireMonth l G (t : Int) (by omega)) gX3_driver_X3_requireMonth rfl (by decide) (by decide) [] [0, 1, 2, 3, 4, 5, 6, 7, 8, 9, 10, 11, 12, 13, 14, 15, 16, 17] rfl rfl rfl rfl (by decide) 1 rfl rfl (Nat.le_of_ble_eq_true rfl) (by decide +kernel) dX3_driver_11 (fun rvu3 wu3 hu3 => ?_)
  obtain ⟨rfl, rfl⟩ := hu3
  refine jr_perm (ws' := (wC G h F V)) (st := []) [0, 1, 2, 3, 4, 5, 6, 7, 8, 9, 10, 11, 12, 13, 14, 15, 16, 17] rfl rfl ?_
  refine jr_aload_n (pc := 14) hh 0 dX3_driver_14 rfl rfl ?_
  refine jr_iload_n (pc := 15) hh 1 dX3_driver_15 rfl rfl ?_
  refine jr_iload_n (pc := 16) hh 2 dX3_driver_16 rfl rfl ?_
  refine jr_iload_n (pc := 17) hh 3 dX3_driver_17 rfl rfl ?_
  refine jr_callV (pc := 18) hh [.int (iI (s0 : Int)), .int (iI (d : Int)), .int (iI (t : Int))] [] (c_X3_valueIn l G h F V s0 d t hk (by omega) (by omega) (by omega)) gX3_driver_X3_valueIn rfl (by decide) (by decide) [0, 1, 2, 3, 4, 5, 6, 7, 8, 9, 10, 11, 12, 13, 14, 15, 16, 17] [] rfl rfl rfl rfl (by decide) 0 rfl rfl 3 rfl rfl (Nat.le_of_ble_eq_true rfl) (by decide +kernel) dX3_driver_18 (fun rvu4 wu4 hu4 => ?_)
  obtain ⟨rfl, rfl⟩ := hu4
  refine jr_perm (ws' := (wC G h F V)) (st := [.int (iI (valC F s0 d t))]) [0, 1, 2, 3, 4, 5, 6, 7, 8, 9, 10, 11, 12, 13, 14, 15, 16, 17] rfl rfl ?_
  exact jr_iret (pc := 21) hh hret rfl ⟨rfl, rfl⟩ (by decide) (by decide) dX3_driver_21
set_option maxHeartbeats 4000000 in
set_option maxRecDepth 100000 in
theorem t_X3_driver (l : Launch) (G : jG) (h : Nat → Nat) (F : Nat → Nat → Int) (V : Nat → Int) (s0 d t : Int) (hrs0 : jR s0) (hrd : jR d) (hrt : jR t) (hk : okC F V) (hcd : cdDriver (V 0) (V 3) s0 d t ≠ 0) (hlt : l.stackTraces = false) : jThr l yX3_driver wsX3_driver { frames := 8, cells := 1, slots := 6, locals := 520 } G (wC G h F V) [.ref (h 0), .int (iI s0), .int (iI d), .int (iI t)] (fun E w1 => ((cdDriver (V 0) (V 3) s0 d t = 1 ∧ E = "java/lang/IndexOutOfBoundsException")) ∧ w1 = wC G h F V) := by
  refine jThr_of (cc := cX3_driver) (maxL := 4) (ret := (some .int)) (by decide +kernel) rfl (Nat.le_of_ble_eq_true rfl) ?_
  intro p e s m args below meth c A hh htab
  refine jr_loc (lv' := [(0, .ref (h 0)), (1, .int (iI s0)), (2, .int (iI d)), (3, .int (iI t))]) [0, 1, 2, 3] rfl ?_
  obtain ⟨hV0, hV1, hV2, hV3, hV4, -⟩ := id hk
  have hrs01 := hrs0.1
  have hrd1 := hrd.1
  have hrt1 := hrt.1
  have hrs02 := hrs0.2
  have hrd2 := hrd.2
  have hrt2 := hrt.2
  refine jr_aload_n (pc := 0) hh 0 dX3_driver_0 rfl rfl ?_
  refine jr_iload_n (pc := 1) hh 1 dX3_driver_1 rfl rfl ?_
  by_cases q1 : 0 ≤ s0 ∧ s0 < V 0
  · skip
    obtain ⟨s0N, rfl⟩ : ∃ k : Nat, s0 = (k : Int) := ⟨s0.toNat, by omega⟩
    refine jr_callV (pc := 2) hh [.int (iI (s0N : Int))] [] (c_X3_requireScenario l G h F V (s0N : Int) (by omega) (by omega)) gX3_driver_X3_requireScenario rfl (by decide) (by decide) [0, 1, 2, 3, 4, 5, 6, 7, 8, 9, 10, 11, 12, 13, 14, 15, 16, 17] [] rfl rfl rfl rfl (by decide) 0 rfl rfl 1 rfl rfl (Nat.le_of_ble_eq_true rfl) (by decide +kernel) dX3_driver_2 (fun rvu2 wu2 hu2 => ?_)
    obtain ⟨rfl, rfl⟩ := hu2
    refine jr_perm (ws' := (wC G h F V)) (st := []) [0, 1, 2, 3, 4, 5, 6, 7, 8, 9, 10, 11, 12, 13, 14, 15, 16, 17] rfl rfl ?_
    refine jr_aload_n (pc := 5) hh 0 dX3_driver_5 rfl rfl ?_
    refine jr_iload_n (pc := 6) hh 2 dX3_driver_6 rfl rfl ?_
    by_cases q3 : 0 ≤ d ∧ d < V 3
    · skip
      obtain ⟨dN, rfl⟩ : ∃ k : Nat, d = (k : Int) := ⟨d.toNat, by omega⟩
      refine jr_callV (pc := 7) hh [.int (iI (dN : Int))] [] (c_X3_requireDriver l G h F V (dN : Int) (by omega) (by omega)) gX3_driver_X3_requireDriver rfl (by decide) (by decide) [0, 1, 2, 3, 4, 5, 6, 7, 8, 9, 10, 11, 12, 13, 14, 15, 16, 17] [] rfl rfl rfl rfl (by decide) 0 rfl rfl 1 rfl rfl (Nat.le_of_ble_eq_true rfl) (by decide +kernel) dX3_driver_7 (fun rvu4 wu4 hu4 => ?_)
      obtain ⟨rfl, rfl⟩ := hu4
      refine jr_perm (ws' := (wC G h F V)) (st := []) [0, 1, 2, 3, 4, 5, 6, 7, 8, 9, 10, 11, 12, 13, 14, 15, 16, 17] rfl rfl ?_
      refine jr_iload_n (pc := 10) hh 3 dX3_driver_10 rfl rfl ?_
      by_cases q5 : 0 ≤ t ∧ t < 12
      · skip
        obtain ⟨tN, rfl⟩ : ∃ k : Nat, t = (k : Int) := ⟨t.toNat, by omega⟩
        refine jr_callS (pc := 11) hh [.int (iI (tN : Int))] [] (c_X3_requireMonth l G (tN : Int) (by omega)) gX3_driver_X3_requireMonth rfl (by decide) (by decide) [] [0, 1, 2, 3, 4, 5, 6, 7, 8, 9, 10, 11, 12, 13, 14, 15, 16, 17] rfl rfl rfl rfl (by decide) 1 rfl rfl (Nat.le_of_ble_eq_true rfl) (by decide +kernel) dX3_driver_11 (fun rvu6 wu6 hu6 => ?_)
        obtain ⟨rfl, rfl⟩ := hu6
        refine jr_perm (ws' := (wC G h F V)) (st := []) [0, 1, 2, 3, 4, 5, 6, 7, 8, 9, 10, 11, 12, 13, 14, 15, 16, 17] rfl rfl ?_
        exfalso
        unfold cdDriver at hcd
        omega
      · skip
        exact jr_tcallS (pc := 11) hh [.int (iI t)] [] (t_X3_requireMonth l G t ⟨by omega, by omega⟩ (by omega) hlt) gX3_driver_X3_requireMonth rfl (by decide) (by decide) [] [0, 1, 2, 3, 4, 5, 6, 7, 8, 9, 10, 11, 12, 13, 14, 15, 16, 17] rfl rfl rfl rfl (by decide) 1 rfl rfl (Nat.le_of_ble_eq_true rfl) (by decide +kernel) (fun E w1 hx => by obtain ⟨rfl, rfl⟩ := hx; exact ⟨⟨by unfold cdDriver; omega, rfl⟩, rfl⟩) htab (by decide) (by decide) dX3_driver_11
    · skip
      exact jr_tcallV (pc := 7) hh [.int (iI d)] [] (t_X3_requireDriver l G h F V d ⟨by omega, by omega⟩ q3 (by omega) hlt) gX3_driver_X3_requireDriver rfl (by decide) (by decide) [0, 1, 2, 3, 4, 5, 6, 7, 8, 9, 10, 11, 12, 13, 14, 15, 16, 17] [] rfl rfl rfl rfl (by decide) 0 rfl rfl 1 rfl rfl (Nat.le_of_ble_eq_true rfl) (by decide +kernel) (fun E w1 hx => by obtain ⟨rfl, rfl⟩ := hx; exact ⟨⟨by unfold cdDriver; omega, rfl⟩, rfl⟩) htab (by decide) (by decide) dX3_driver_7
  · skip
    exact jr_tcallV (pc := 2) hh [.int (iI s0)] [] (t_X3_requireScenario l G h F V s0 ⟨by omega, by omega⟩ q1 (by omega) hlt) gX3_driver_X3_requireScenario rfl (by decide) (by decide) [0, 1, 2, 3, 4, 5, 6, 7, 8, 9, 10, 11, 12, 13, 14, 15, 16, 17] [] rfl rfl rfl rfl (by decide) 0 rfl rfl 1 rfl rfl (Nat.le_of_ble_eq_true rfl) (by decide +kernel) (fun E w1 hx => by obtain ⟨rfl, rfl⟩ := hx; exact ⟨⟨by unfold cdDriver; omega, rfl⟩, rfl⟩) htab (by decide) (by decide) dX3_driver_2
set_option maxRecDepth 20000 in
theorem in_X3_addLine_X3 : ∀ w ∈ u_ws RX3 TX3 7, w ∈ wsX3_addLine := by decide +kernel
set_option maxRecDepth 20000 in
theorem in_X3_addLine_X1 : ∀ w ∈ u_ws RX1 TX1 7, w ∈ wsX3_addLine := by decide +kernel
set_option maxHeartbeats 4000000 in
set_option maxRecDepth 100000 in
theorem c_X3_addLine (l : Launch) (G : jG) (h : Nat → Nat) (F : Nat → Nat → Int) (V : Nat → Int) (kd on ot : Int) (hk : okC F V) (hkr : 0 ≤ kd ∧ kd ≤ 65535) (hcd : cdAddLine (V 3) (V 2) kd on ot = 0) : jMet l yX3_addLine wsX3_addLine { frames := 7, cells := 0, slots := 0, locals := 400 } G (wC G h F V) [.ref (h 0), .int (iI kd), .int (iI on), .int (iI ot)] (fun rv w1 => rv = some (.int (iI (V 2))) ∧ w1 = wC G h (uF (uF (uF F 5 (jU (F 5) (V 2).toNat kd)) 6 (jU (F 6) (V 2).toNat on)) 7 (jU (F 7) (V 2).toNat ot)) (jU V 2 (V 2 + 1))) := by
  refine jMet_of (cc := cX3_addLine) (maxL := 4) (ret := (some .int)) (by decide +kernel) rfl (Nat.le_of_ble_eq_true rfl) ?_
  intro p e s m args below meth c A hh hret hinit
  refine jr_loc (lv' := [(0, .ref (h 0)), (1, .int (iI kd)), (2, .int (iI on)), (3, .int (iI ot))]) [0, 1, 2, 3] rfl ?_
  obtain ⟨hV0, hV1, hV2, hV3, hV4, -⟩ := id hk
  unfold cdAddLine at hcd
  refine jr_cut (σ := Unit) 32 (fun (_u : Unit) => kd = 100 ∨ kd = 115 ∨ kd = 109 ∨ kd = 112) (fun (_u : Unit) => (wC G h F V)) (fun (_u : Unit) => [(0, .ref (h 0)), (1, .int (iI kd)), (2, .int (iI on)), (3, .int (iI ot))]) (fun (_u : Unit) => []) ?_ (fun cut32 => ?_)
  · intro _u hcut32
    dsimp only
    try dsimp only at hcut32
    refine jr_iload_n (pc := 32) hh 1 dX3_addLine_32 rfl rfl ?_
    refine jr_bipush (pc := 33) hh dX3_addLine_33 (by decide) ?_
    refine jr_icmp_ne (tgt := 46) (pc := 35) hh dX3_addLine_35 (by decide) ⟨by omega, by omega⟩ ⟨by omega, by omega⟩ (fun c1 => ?_) (fun c1 => ?_)
    · skip
      refine jr_aload_n (pc := 46) hh 0 dX3_addLine_46 rfl rfl ?_
      refine jr_iload_n (pc := 47) hh 2 dX3_addLine_47 rfl rfl ?_
      refine jr_callV (pc := 48) hh [.int (iI on)] [] (c_X3_requireLine l G h F V on (by omega) (by omega)) gX3_addLine_X3_requireLine rfl (by decide) (by decide) [0, 1, 2, 3, 4, 5, 6, 7, 8, 9, 10, 11, 12, 13, 14, 15, 16, 17] [] rfl rfl rfl rfl (by decide) 0 rfl rfl 1 rfl rfl (Nat.le_of_ble_eq_true rfl) (by decide +kernel) dX3_addLine_48 (fun rvu2 wu2 hu2 => ?_)
      obtain ⟨rfl, rfl⟩ := hu2
      refine jr_perm (ws' := (wC G h F V)) (st := []) [0, 1, 2, 3, 4, 5, 6, 7, 8, 9, 10, 11, 12, 13, 14, 15, 16, 17] rfl rfl ?_
      refine jr_aload_n (pc := 51) hh 0 dX3_addLine_51 rfl rfl ?_
      refine jr_iload_n (pc := 52) hh 3 dX3_addLine_52 rfl rfl ?_
      refine jr_callV (pc := 53) hh [.int (iI ot)] [] (c_X3_requireLine l G h F V ot (by omega) (by omega)) gX3_addLine_X3_requireLine rfl (by decide) (by decide) [0, 1, 2, 3, 4, 5, 6, 7, 8, 9, 10, 11, 12, 13, 14, 15, 16, 17] [] rfl rfl rfl rfl (by decide) 0 rfl rfl 1 rfl rfl (Nat.le_of_ble_eq_true rfl) (by decide +kernel) dX3_addLine_53 (fun rvu3 wu3 hu3 => ?_)
      obtain ⟨rfl, rfl⟩ := hu3
      refine jr_perm (ws' := (wC G h F V)) (st := []) [0, 1, 2, 3, 4, 5, 6, 7, 8, 9, 10, 11, 12, 13, 14, 15, 16, 17] rfl rfl ?_
      refine jr_aload_n (pc := 56) hh 0 dX3_addLine_56 rfl rfl ?_
      refine jr_get (v := .ref (h 7)) (pc := 57) hh in_X3_addLine_X3 0 rfl rfl 2 (by decide) (by decide +kernel : Cond.fieldLink RX3 23 (TX3 2).1 (TX3 2).2.1 (TX3 2).2.2.1 ∈ wsX3_addLine) rfl dX3_addLine_57 ?_
      refine jr_getN (v := .int (iI (V 2))) (pc := 60) hh in_X3_addLine_X1 7 rfl rfl 6 (by decide) rfl (by decide +kernel) rfl dX3_addLine_60 ?_
      refine jr_bipush (pc := 63) hh dX3_addLine_63 (by decide) ?_
      refine jr_icmp_lt (tgt := 76) (pc := 65) hh dX3_addLine_65 (by decide) ⟨by omega, by omega⟩ ⟨by omega, by omega⟩ (fun c4 => ?_) (fun c4 => ?_)
      · skip
        refine jr_aload_n (pc := 76) hh 0 dX3_addLine_76 rfl rfl ?_
        refine jr_get (v := .ref (h 7)) (pc := 77) hh in_X3_addLine_X3 0 rfl rfl 2 (by decide) (by decide +kernel : Cond.fieldLink RX3 23 (TX3 2).1 (TX3 2).2.1 (TX3 2).2.2.1 ∈ wsX3_addLine) rfl dX3_addLine_77 ?_
        refine jr_iload_n (pc := 80) hh 1 dX3_addLine_80 rfl rfl ?_
        refine jr_iload_n (pc := 81) hh 2 dX3_addLine_81 rfl rfl ?_
        refine jr_iload_n (pc := 82) hh 3 dX3_addLine_82 rfl rfl ?_
        refine jr_callVN (pc := 83) hh [.int (iI kd), .int (iI on), .int (iI ot)] [] (c_X1_add l G (fun k => h (7 + k)) (fun k => F (5 + k)) (fun k => V (2 + k)) kd on ot (by omega) ⟨(by show 0 ≤ V 2; omega), (by show V 2 < 10; omega)⟩) gX3_addLine_X1_add_n74 rfl (by decide +kernel) (by decide +kernel) (by decide +kernel) (by decide +kernel) (by decide) (by decide) [7, 8, 9, 10, 11, 12, 13] [0, 1, 2, 3, 4, 5, 6, 14, 15, 16, 17] rfl rfl rfl rfl (by decide) 0 rfl rfl 3 rfl rfl (Nat.le_of_ble_eq_true rfl) (by decide +kernel) dX3_addLine_83 (fun rvu5 wu5 hu5 => ?_)
        obtain ⟨rfl, rfl⟩ := hu5
        refine jr_perm (ws' := (wC G h (uF (uF (uF F 5 (jU (F 5) (V 2).toNat kd)) 6 (jU (F 6) (V 2).toNat on)) 7 (jU (F 7) (V 2).toNat ot)) (jU V 2 (V 2 + 1)))) (st := [.int (iI (V 2))]) [0, 1, 2, 3, 4, 5, 6, 11, 12, 13, 14, 15, 16, 17, 7, 8, 9, 10] rfl rfl ?_
        exact jr_iret (pc := 86) hh hret rfl ⟨rfl, rfl⟩ (by decide) (by decide) dX3_addLine_86
      · skip
        exfalso
        omega
    · skip
      refine jr_aload_n (pc := 38) hh 0 dX3_addLine_38 rfl rfl ?_
      refine jr_iload_n (pc := 39) hh 2 dX3_addLine_39 rfl rfl ?_
      refine jr_callV (pc := 40) hh [.int (iI on)] [] (c_X3_requireDriver l G h F V on (by omega) (by omega)) gX3_addLine_X3_requireDriver rfl (by decide) (by decide) [0, 1, 2, 3, 4, 5, 6, 7, 8, 9, 10, 11, 12, 13, 14, 15, 16, 17] [] rfl rfl rfl rfl (by decide) 0 rfl rfl 1 rfl rfl (Nat.le_of_ble_eq_true rfl) (by decide +kernel) dX3_addLine_40 (fun rvu6 wu6 hu6 => ?_)
      obtain ⟨rfl, rfl⟩ := hu6
      refine jr_perm (ws' := (wC G h F V)) (st := []) [0, 1, 2, 3, 4, 5, 6, 7, 8, 9, 10, 11, 12, 13, 14, 15, 16, 17] rfl rfl ?_
      refine jr_goto (tgt := 56) (pc := 43) hh dX3_addLine_43 (by decide) ?_
      refine jr_aload_n (pc := 56) hh 0 dX3_addLine_56 rfl rfl ?_
      refine jr_get (v := .ref (h 7)) (pc := 57) hh in_X3_addLine_X3 0 rfl rfl 2 (by decide) (by decide +kernel : Cond.fieldLink RX3 23 (TX3 2).1 (TX3 2).2.1 (TX3 2).2.2.1 ∈ wsX3_addLine) rfl dX3_addLine_57 ?_
      refine jr_getN (v := .int (iI (V 2))) (pc := 60) hh in_X3_addLine_X1 7 rfl rfl 6 (by decide) rfl (by decide +kernel) rfl dX3_addLine_60 ?_
      refine jr_bipush (pc := 63) hh dX3_addLine_63 (by decide) ?_
      refine jr_icmp_lt (tgt := 76) (pc := 65) hh dX3_addLine_65 (by decide) ⟨by omega, by omega⟩ ⟨by omega, by omega⟩ (fun c7 => ?_) (fun c7 => ?_)
      · skip
        refine jr_aload_n (pc := 76) hh 0 dX3_addLine_76 rfl rfl ?_
        refine jr_get (v := .ref (h 7)) (pc := 77) hh in_X3_addLine_X3 0 rfl rfl 2 (by decide) (by decide +kernel : Cond.fieldLink RX3 23 (TX3 2).1 (TX3 2).2.1 (TX3 2).2.2.1 ∈ wsX3_addLine) rfl dX3_addLine_77 ?_
        refine jr_iload_n (pc := 80) hh 1 dX3_addLine_80 rfl rfl ?_
        refine jr_iload_n (pc := 81) hh 2 dX3_addLine_81 rfl rfl ?_
        refine jr_iload_n (pc := 82) hh 3 dX3_addLine_82 rfl rfl ?_
        refine jr_callVN (pc := 83) hh [.int (iI kd), .int (iI on), .int (iI ot)] [] (c_X1_add l G (fun k => h (7 + k)) (fun k => F (5 + k)) (fun k => V (2 + k)) kd on ot (by omega) ⟨(by show 0 ≤ V 2; omega), (by show V 2 < 10; omega)⟩) gX3_addLine_X1_add_n74 rfl (by decide +kernel) (by decide +kernel) (by decide +kernel) (by decide +kernel) (by decide) (by decide) [7, 8, 9, 10, 11, 12, 13] [0, 1, 2, 3, 4, 5, 6, 14, 15, 16, 17] rfl rfl rfl rfl (by decide) 0 rfl rfl 3 rfl rfl (Nat.le_of_ble_eq_true rfl) (by decide +kernel) dX3_addLine_83 (fun rvu8 wu8 hu8 => ?_)
        obtain ⟨rfl, rfl⟩ := hu8
        refine jr_perm (ws' := (wC G h (uF (uF (uF F 5 (jU (F 5) (V 2).toNat kd)) 6 (jU (F 6) (V 2).toNat on)) 7 (jU (F 7) (V 2).toNat ot)) (jU V 2 (V 2 + 1)))) (st := [.int (iI (V 2))]) [0, 1, 2, 3, 4, 5, 6, 11, 12, 13, 14, 15, 16, 17, 7, 8, 9, 10] rfl rfl ?_
        exact jr_iret (pc := 86) hh hret rfl ⟨rfl, rfl⟩ (by decide) (by decide) dX3_addLine_86
      · skip
        exfalso
        omega
  · dsimp only at cut32
    refine jr_iload_n (pc := 0) hh 1 dX3_addLine_0 rfl rfl ?_
    refine jr_bipush (pc := 1) hh dX3_addLine_1 (by decide) ?_
    refine jr_icmp_eq (tgt := 32) (pc := 3) hh dX3_addLine_3 (by decide) ⟨by omega, by omega⟩ ⟨by omega, by omega⟩ (fun c9 => ?_) (fun c9 => ?_)
    · skip
      exact cut32 () (by omega)
    · skip
      refine jr_iload_n (pc := 6) hh 1 dX3_addLine_6 rfl rfl ?_
      refine jr_bipush (pc := 7) hh dX3_addLine_7 (by decide) ?_
      refine jr_icmp_eq (tgt := 32) (pc := 9) hh dX3_addLine_9 (by decide) ⟨by omega, by omega⟩ ⟨by omega, by omega⟩ (fun c10 => ?_) (fun c10 => ?_)
      · skip
        exact cut32 () (by omega)
      · skip
        refine jr_iload_n (pc := 12) hh 1 dX3_addLine_12 rfl rfl ?_
        refine jr_bipush (pc := 13) hh dX3_addLine_13 (by decide) ?_
        refine jr_icmp_eq (tgt := 32) (pc := 15) hh dX3_addLine_15 (by decide) ⟨by omega, by omega⟩ ⟨by omega, by omega⟩ (fun c11 => ?_) (fun c11 => ?_)
        · skip
          exact cut32 () (by omega)
        · skip
          refine jr_iload_n (pc := 18) hh 1 dX3_addLine_18 rfl rfl ?_
          refine jr_bipush (pc := 19) hh dX3_addLine_19 (by decide) ?_
          refine jr_icmp_eq (tgt := 32) (pc := 21) hh dX3_addLine_21 (by decide) ⟨by omega, by omega⟩ ⟨by omega, by omega⟩ (fun c12 => ?_) (fun c12 => ?_)
          · skip
            exact cut32 () (by omega)
          · skip
            exfalso
            omega
set_option maxRecDepth 20000 in
theorem tw_X3_addLine_47 : ∀ w ∈ (vx_at0 RX3 47 "java/lang/IllegalStateException" ["java/lang/RuntimeException", "java/lang/Exception"]).filter goodWord, w ∈ wsX3_addLine := by decide +kernel
set_option maxRecDepth 20000 in
theorem tw_X3_addLine_67 : ∀ w ∈ (vx_at0 RX3 67 "java/lang/IllegalArgumentException" ["java/lang/RuntimeException", "java/lang/Exception"]).filter goodWord, w ∈ wsX3_addLine := by decide +kernel
set_option maxHeartbeats 4000000 in
set_option maxRecDepth 100000 in
theorem t_X3_addLine (l : Launch) (G : jG) (h : Nat → Nat) (F : Nat → Nat → Int) (V : Nat → Int) (kd on ot : Int) (hrkd : jR kd) (hron : jR on) (hrot : jR ot) (hk : okC F V) (hcd : cdAddLine (V 3) (V 2) kd on ot ≠ 0) (hlt : l.stackTraces = false) : jThr l yX3_addLine wsX3_addLine { frames := 8, cells := 1, slots := 6, locals := 520 } G (wC G h F V) [.ref (h 0), .int (iI kd), .int (iI on), .int (iI ot)] (fun E w1 => ((cdAddLine (V 3) (V 2) kd on ot = 1 ∧ E = "java/lang/IllegalArgumentException") ∨ (cdAddLine (V 3) (V 2) kd on ot = 2 ∧ E = "java/lang/IndexOutOfBoundsException") ∨ (cdAddLine (V 3) (V 2) kd on ot = 3 ∧ E = "java/lang/IllegalStateException")) ∧ w1 = wC G h F V) := by
  refine jThr_of (cc := cX3_addLine) (maxL := 4) (ret := (some .int)) (by decide +kernel) rfl (Nat.le_of_ble_eq_true rfl) ?_
  intro p e s m args below meth c A hh htab
  refine jr_loc (lv' := [(0, .ref (h 0)), (1, .int (iI kd)), (2, .int (iI on)), (3, .int (iI ot))]) [0, 1, 2, 3] rfl ?_
  obtain ⟨hV0, hV1, hV2, hV3, hV4, -⟩ := id hk
  have hrkd1 := hrkd.1
  have hron1 := hron.1
  have hrot1 := hrot.1
  have hrkd2 := hrkd.2
  have hron2 := hron.2
  have hrot2 := hrot.2
  refine jr_cut (σ := Unit) 32 (fun (_u : Unit) => kd = 100 ∨ kd = 115 ∨ kd = 109 ∨ kd = 112) (fun (_u : Unit) => (wC G h F V)) (fun (_u : Unit) => [(0, .ref (h 0)), (1, .int (iI kd)), (2, .int (iI on)), (3, .int (iI ot))]) (fun (_u : Unit) => []) ?_ (fun cut32 => ?_)
  · intro _u hcut32
    dsimp only
    try dsimp only at hcut32
    refine jr_iload_n (pc := 32) hh 1 dX3_addLine_32 rfl rfl ?_
    refine jr_bipush (pc := 33) hh dX3_addLine_33 (by decide) ?_
    refine jr_icmp_ne (tgt := 46) (pc := 35) hh dX3_addLine_35 (by decide) ⟨by omega, by omega⟩ ⟨by omega, by omega⟩ (fun c1 => ?_) (fun c1 => ?_)
    · skip
      refine jr_aload_n (pc := 46) hh 0 dX3_addLine_46 rfl rfl ?_
      refine jr_iload_n (pc := 47) hh 2 dX3_addLine_47 rfl rfl ?_
      by_cases q2 : 0 ≤ on ∧ on < V 2
      · skip
        obtain ⟨onN, rfl⟩ : ∃ k : Nat, on = (k : Int) := ⟨on.toNat, by omega⟩
        refine jr_callV (pc := 48) hh [.int (iI (onN : Int))] [] (c_X3_requireLine l G h F V (onN : Int) (by omega) (by omega)) gX3_addLine_X3_requireLine rfl (by decide) (by decide) [0, 1, 2, 3, 4, 5, 6, 7, 8, 9, 10, 11, 12, 13, 14, 15, 16, 17] [] rfl rfl rfl rfl (by decide) 0 rfl rfl 1 rfl rfl (Nat.le_of_ble_eq_true rfl) (by decide +kernel) dX3_addLine_48 (fun rvu3 wu3 hu3 => ?_)
        obtain ⟨rfl, rfl⟩ := hu3
        refine jr_perm (ws' := (wC G h F V)) (st := []) [0, 1, 2, 3, 4, 5, 6, 7, 8, 9, 10, 11, 12, 13, 14, 15, 16, 17] rfl rfl ?_
        refine jr_aload_n (pc := 51) hh 0 dX3_addLine_51 rfl rfl ?_
        refine jr_iload_n (pc := 52) hh 3 dX3_addLine_52 rfl rfl ?_
        by_cases q4 : 0 ≤ ot ∧ ot < V 2
        · skip
          obtain ⟨otN, rfl⟩ : ∃ k : Nat, ot = (k : Int) := ⟨ot.toNat, by omega⟩
          refine jr_callV (pc := 53) hh [.int (iI (otN : Int))] [] (c_X3_requireLine l G h F V (otN : Int) (by omega) (by omega)) gX3_addLine_X3_requireLine rfl (by decide) (by decide) [0, 1, 2, 3, 4, 5, 6, 7, 8, 9, 10, 11, 12, 13, 14, 15, 16, 17] [] rfl rfl rfl rfl (by decide) 0 rfl rfl 1 rfl rfl (Nat.le_of_ble_eq_true rfl) (by decide +kernel) dX3_addLine_53 (fun rvu5 wu5 hu5 => ?_)
          obtain ⟨rfl, rfl⟩ := hu5
          refine jr_perm (ws' := (wC G h F V)) (st := []) [0, 1, 2, 3, 4, 5, 6, 7, 8, 9, 10, 11, 12, 13, 14, 15, 16, 17] rfl rfl ?_
          refine jr_aload_n (pc := 56) hh 0 dX3_addLine_56 rfl rfl ?_
          refine jr_get (v := .ref (h 7)) (pc := 57) hh in_X3_addLine_X3 0 rfl rfl 2 (by decide) (by decide +kernel : Cond.fieldLink RX3 23 (TX3 2).1 (TX3 2).2.1 (TX3 2).2.2.1 ∈ wsX3_addLine) rfl dX3_addLine_57 ?_
          refine jr_getN (v := .int (iI (V 2))) (pc := 60) hh in_X3_addLine_X1 7 rfl rfl 6 (by decide) rfl (by decide +kernel) rfl dX3_addLine_60 ?_
          refine jr_bipush (pc := 63) hh dX3_addLine_63 (by decide) ?_
          refine jr_icmp_lt (tgt := 76) (pc := 65) hh dX3_addLine_65 (by decide) ⟨by omega, by omega⟩ ⟨by omega, by omega⟩ (fun c6 => ?_) (fun c6 => ?_)
          · skip
            exfalso
            unfold cdAddLine at hcd
            omega
          · skip
            exact jr_throw (pc := 68) hh hlt htab (cls := "java/lang/IllegalStateException") (names := ["java/lang/RuntimeException", "java/lang/Exception"]) (by decide +kernel) (by decide +kernel) (by decide +kernel) (by decide +kernel) tw_X3_addLine_47 tb_47 (by decide) tg_47 dX3_addLine_68 dX3_addLine_71 dX3_addLine_72 dX3_addLine_75 ⟨Nat.le_of_ble_eq_true rfl, Nat.le_of_ble_eq_true rfl, Nat.le_of_ble_eq_true rfl, Nat.le_of_ble_eq_true rfl⟩ (Nat.le_of_ble_eq_true rfl) (Nat.le_of_ble_eq_true rfl) ⟨Or.inr (Or.inr (⟨by unfold cdAddLine; omega, rfl⟩)), rfl⟩
        · skip
          exact jr_tcallV (pc := 53) hh [.int (iI ot)] [] (t_X3_requireLine l G h F V ot ⟨by omega, by omega⟩ q4 (by omega) hlt) gX3_addLine_X3_requireLine rfl (by decide) (by decide) [0, 1, 2, 3, 4, 5, 6, 7, 8, 9, 10, 11, 12, 13, 14, 15, 16, 17] [] rfl rfl rfl rfl (by decide) 0 rfl rfl 1 rfl rfl (Nat.le_of_ble_eq_true rfl) (by decide +kernel) (fun E w1 hx => by obtain ⟨rfl, rfl⟩ := hx; exact ⟨Or.inr (Or.inl ⟨by unfold cdAddLine; omega, rfl⟩), rfl⟩) htab (by decide) (by decide) dX3_addLine_53
      · skip
        exact jr_tcallV (pc := 48) hh [.int (iI on)] [] (t_X3_requireLine l G h F V on ⟨by omega, by omega⟩ q2 (by omega) hlt) gX3_addLine_X3_requireLine rfl (by decide) (by decide) [0, 1, 2, 3, 4, 5, 6, 7, 8, 9, 10, 11, 12, 13, 14, 15, 16, 17] [] rfl rfl rfl rfl (by decide) 0 rfl rfl 1 rfl rfl (Nat.le_of_ble_eq_true rfl) (by decide +kernel) (fun E w1 hx => by obtain ⟨rfl, rfl⟩ := hx; exact ⟨Or.inr (Or.inl ⟨by unfold cdAddLine; omega, rfl⟩), rfl⟩) htab (by decide) (by decide) dX3_addLine_48
    · skip
      refine jr_aload_n (pc := 38) hh 0 dX3_addLine_38 rfl rfl ?_
      refine jr_iload_n (pc := 39) hh 2 dX3_addLine_39 rfl rfl ?_
      by_cases q9 : 0 ≤ on ∧ on < V 3
      · skip
        obtain ⟨onN, rfl⟩ : ∃ k : Nat, on = (k : Int) := ⟨on.toNat, by omega⟩
        refine jr_callV (pc := 40) hh [.int (iI (onN : Int))] [] (c_X3_requireDriver l G h F V (onN : Int) (by omega) (by omega)) gX3_addLine_X3_requireDriver rfl (by decide) (by decide) [0, 1, 2, 3, 4, 5, 6, 7, 8, 9, 10, 11, 12, 13, 14, 15, 16, 17] [] rfl rfl rfl rfl (by decide) 0 rfl rfl 1 rfl rfl (Nat.le_of_ble_eq_true rfl) (by decide +kernel) dX3_addLine_40 (fun rvu10 wu10 hu10 => ?_)
        obtain ⟨rfl, rfl⟩ := hu10
        refine jr_perm (ws' := (wC G h F V)) (st := []) [0, 1, 2, 3, 4, 5, 6, 7, 8, 9, 10, 11, 12, 13, 14, 15, 16, 17] rfl rfl ?_
        refine jr_goto (tgt := 56) (pc := 43) hh dX3_addLine_43 (by decide) ?_
        refine jr_aload_n (pc := 56) hh 0 dX3_addLine_56 rfl rfl ?_
        refine jr_get (v := .ref (h 7)) (pc := 57) hh in_X3_addLine_X3 0 rfl rfl 2 (by decide) (by decide +kernel : Cond.fieldLink RX3 23 (TX3 2).1 (TX3 2).2.1 (TX3 2).2.2.1 ∈ wsX3_addLine) rfl dX3_addLine_57 ?_
        refine jr_getN (v := .int (iI (V 2))) (pc := 60) hh in_X3_addLine_X1 7 rfl rfl 6 (by decide) rfl (by decide +kernel) rfl dX3_addLine_60 ?_
        refine jr_bipush (pc := 63) hh dX3_addLine_63 (by decide) ?_
        refine jr_icmp_lt (tgt := 76) (pc := 65) hh dX3_addLine_65 (by decide) ⟨by omega, by omega⟩ ⟨by omega, by omega⟩ (fun c11 => ?_) (fun c11 => ?_)
        · skip
          exfalso
          unfold cdAddLine at hcd
          omega
        · skip
          exact jr_throw (pc := 68) hh hlt htab (cls := "java/lang/IllegalStateException") (names := ["java/lang/RuntimeException", "java/lang/Exception"]) (by decide +kernel) (by decide +kernel) (by decide +kernel) (by decide +kernel) tw_X3_addLine_47 tb_47 (by decide) tg_47 dX3_addLine_68 dX3_addLine_71 dX3_addLine_72 dX3_addLine_75 ⟨Nat.le_of_ble_eq_true rfl, Nat.le_of_ble_eq_true rfl, Nat.le_of_ble_eq_true rfl, Nat.le_of_ble_eq_true rfl⟩ (Nat.le_of_ble_eq_true rfl) (Nat.le_of_ble_eq_true rfl) ⟨Or.inr (Or.inr (⟨by unfold cdAddLine; omega, rfl⟩)), rfl⟩
      · skip
        exact jr_tcallV (pc := 40) hh [.int (iI on)] [] (t_X3_requireDriver l G h F V on ⟨by omega, by omega⟩ q9 (by omega) hlt) gX3_addLine_X3_requireDriver rfl (by decide) (by decide) [0, 1, 2, 3, 4, 5, 6, 7, 8, 9, 10, 11, 12, 13, 14, 15, 16, 17] [] rfl rfl rfl rfl (by decide) 0 rfl rfl 1 rfl rfl (Nat.le_of_ble_eq_true rfl) (by decide +kernel) (fun E w1 hx => by obtain ⟨rfl, rfl⟩ := hx; exact ⟨Or.inr (Or.inl ⟨by unfold cdAddLine; omega, rfl⟩), rfl⟩) htab (by decide) (by decide) dX3_addLine_40
  · dsimp only at cut32
    refine jr_iload_n (pc := 0) hh 1 dX3_addLine_0 rfl rfl ?_
    refine jr_bipush (pc := 1) hh dX3_addLine_1 (by decide) ?_
    refine jr_icmp_eq (tgt := 32) (pc := 3) hh dX3_addLine_3 (by decide) ⟨by omega, by omega⟩ ⟨by omega, by omega⟩ (fun c13 => ?_) (fun c13 => ?_)
    · skip
      exact cut32 () (by omega)
    · skip
      refine jr_iload_n (pc := 6) hh 1 dX3_addLine_6 rfl rfl ?_
      refine jr_bipush (pc := 7) hh dX3_addLine_7 (by decide) ?_
      refine jr_icmp_eq (tgt := 32) (pc := 9) hh dX3_addLine_9 (by decide) ⟨by omega, by omega⟩ ⟨by omega, by omega⟩ (fun c14 => ?_) (fun c14 => ?_)
      · skip
        exact cut32 () (by omega)
      · skip
        refine jr_iload_n (pc := 12) hh 1 dX3_addLine_12 rfl rfl ?_
        refine jr_bipush (pc := 13) hh dX3_addLine_13 (by decide) ?_
        refine jr_icmp_eq (tgt := 32) (pc := 15) hh dX3_addLine_15 (by decide) ⟨by omega, by omega⟩ ⟨by omega, by omega⟩ (fun c15 => ?_) (fun c15 => ?_)
        · skip
          exact cut32 () (by omega)
        · skip
          refine jr_iload_n (pc := 18) hh 1 dX3_addLine_18 rfl rfl ?_
          refine jr_bipush (pc := 19) hh dX3_addLine_19 (by decide) ?_
          refine jr_icmp_eq (tgt := 32) (pc := 21) hh dX3_addLine_21 (by decide) ⟨by omega, by omega⟩ ⟨by omega, by omega⟩ (fun c16 => ?_) (fun c16 => ?_)
          · skip
            exact cut32 () (by omega)
          · skip
            exact jr_throw (pc := 24) hh hlt htab (cls := "java/lang/IllegalArgumentException") (names := ["java/lang/RuntimeException", "java/lang/Exception"]) (by decide +kernel) (by decide +kernel) (by decide +kernel) (by decide +kernel) tw_X3_addLine_67 tb_67 (by decide) tg_67 dX3_addLine_24 dX3_addLine_27 dX3_addLine_28 dX3_addLine_31 ⟨Nat.le_of_ble_eq_true rfl, Nat.le_of_ble_eq_true rfl, Nat.le_of_ble_eq_true rfl, Nat.le_of_ble_eq_true rfl⟩ (Nat.le_of_ble_eq_true rfl) (Nat.le_of_ble_eq_true rfl) ⟨Or.inl ⟨by unfold cdAddLine; omega, rfl⟩, rfl⟩
