/-! CostStudio's own methods, the private ones -/
def valC (F : Nat → Nat → Int) (s d m : Nat) : Int := F 0 d + chS (F 2) (fun k => F 4 ((k * 6 + d) * 12 + m)) s (s : Int)
def drvC (F : Nat → Nat → Int) (s m cd : Nat) : Nat → Int := fun d => if d < cd then valC F s d m else F 0 d
def nmC (F : Nat → Nat → Int) (s m cd i : Nat) : Option Int := lnum (actC (F 8) m) (F 5) (F 6) (F 7) (drvC F s m cd) i
/-- what always holds of a model's cells -/
def okC (F : Nat → Nat → Int) (V : Nat → Int) : Prop :=
  (1 ≤ V 0 ∧ V 0 ≤ 4) ∧ (0 ≤ V 1 ∧ V 1 ≤ 12) ∧ (0 ≤ V 2 ∧ V 2 ≤ 10) ∧ (0 ≤ V 3 ∧ V 3 ≤ 6) ∧ (0 ≤ V 4 ∧ V 4 ≤ 11) ∧
  (∀ d : Nat, d < 6 → 0 ≤ F 0 d ∧ F 0 d ≤ 9999) ∧ (∀ k : Nat, 1 ≤ k → (k : Int) < V 0 → 0 ≤ F 2 k ∧ F 2 k < k) ∧
  (∀ j : Nat, j < 288 → -100000 ≤ F 4 j ∧ F 4 j ≤ 100000) ∧
  (∀ i : Nat, (i : Int) < V 2 → (0 ≤ F 5 i ∧ F 5 i ≤ 65535) ∧ (F 5 i = 100 → 0 ≤ F 6 i ∧ F 6 i < V 3) ∧ (F 5 i ≠ 100 → (0 ≤ F 6 i ∧ F 6 i < i) ∧ (0 ≤ F 7 i ∧ F 7 i < i))) ∧
  okAc (F 8) ∧ okIn (F 1) ∧ (∀ c : Nat, c < 120 → (0 ≤ F 11 c ∧ F 11 c ≤ 65535) ∧ (-99999999 ≤ F 12 c ∧ F 12 c ≤ 99999999) ∧ (0 ≤ F 13 c ∧ F 13 c ≤ 9999))
/-- only the rows that are kept between calls so that no call makes one of its own have changed -/
def scr (F F' : Nat → Nat → Int) : Prop := (∀ k : Nat, k ≠ 1 → k ≠ 9 → k ≠ 10 → F' k = F k) ∧ okIn (F' 1)
theorem okC_scr {F F' : Nat → Nat → Int} {V : Nat → Int} (h : okC F V) (hs : scr F F') : okC F' V := by
  obtain ⟨e, hi⟩ := hs
  have e0 := e 0 (by decide) (by decide) (by decide)
  have e2 := e 2 (by decide) (by decide) (by decide)
  have e4 := e 4 (by decide) (by decide) (by decide)
  have e5 := e 5 (by decide) (by decide) (by decide)
  have e6 := e 6 (by decide) (by decide) (by decide)
  have e7 := e 7 (by decide) (by decide) (by decide)
  have e8 := e 8 (by decide) (by decide) (by decide)
  have e11 := e 11 (by decide) (by decide) (by decide)
  have e12 := e 12 (by decide) (by decide) (by decide)
  have e13 := e 13 (by decide) (by decide) (by decide)
  unfold okC at h ⊢
  rw [e0, e2, e4, e5, e6, e7, e8, e11, e12, e13]
  exact ⟨h.1, h.2.1, h.2.2.1, h.2.2.2.1, h.2.2.2.2.1, h.2.2.2.2.2.1, h.2.2.2.2.2.2.1, h.2.2.2.2.2.2.2.1, h.2.2.2.2.2.2.2.2.1, h.2.2.2.2.2.2.2.2.2.1, hi, h.2.2.2.2.2.2.2.2.2.2.2⟩
theorem scr_rf {F : Nat → Nat → Int} {V : Nat → Int} (h : okC F V) : scr F F := ⟨fun _ _ _ _ => rfl, h.2.2.2.2.2.2.2.2.2.2.1⟩
theorem scr_tr {F F' F'' : Nat → Nat → Int} (h1 : scr F F') (h2 : scr F' F'') : scr F F'' := ⟨fun k a b c => (h2.1 k a b c).trans (h1.1 k a b c), h2.2⟩
theorem scr_1 {F : Nat → Nat → Int} {f : Nat → Int} (h : okIn f) : scr F (uF F 1 f) := ⟨fun _ a _ _ => uF_n a, by rw [uF_s]; exact h⟩
theorem scr_9 {F F' : Nat → Nat → Int} {f : Nat → Int} (h : scr F F') : scr F (uF F' 9 f) := ⟨fun k a b c => (uF_n b).trans (h.1 k a b c), h.2⟩
theorem scr_10 {F F' : Nat → Nat → Int} {f : Nat → Int} (h : scr F F') : scr F (uF F' 10 f) := ⟨fun k a b c => (uF_n c).trans (h.1 k a b c), h.2⟩
theorem nmC_scr {F F' : Nat → Nat → Int} (h : scr F F') (s m cd i : Nat) : nmC F' s m cd i = nmC F s m cd i := by
  obtain ⟨e, -⟩ := h
  unfold nmC drvC valC
  rw [e 0 (by decide) (by decide) (by decide), e 2 (by decide) (by decide) (by decide), e 4 (by decide) (by decide) (by decide), e 5 (by decide) (by decide) (by decide), e 6 (by decide) (by decide) (by decide), e 7 (by decide) (by decide) (by decide), e 8 (by decide) (by decide) (by decide)]
theorem valC_B {F : Nat → Nat → Int} {V : Nat → Int} (h : okC F V) {s d m : Nat} (hs : (s : Int) < V 0) (hd : d < 6) (hm : m < 12) : -400000 ≤ valC F s d m ∧ valC F s d m ≤ 409999 := by
  obtain ⟨h0, -, -, -, -, hdv, hpa, had, -⟩ := h
  have h1 := hdv d hd
  have h2 := chS_bound (par := F 2) (g := fun k => F 4 ((k * 6 + d) * 12 + m)) (c := s + 1) (B := 100000) (by decide) (fun k q1 q2 => (hpa k q1 (by omega)).2) (fun k q1 q2 => by
    have := had ((k * 6 + d) * 12 + m) (by omega)
    omega) s (s : Int) (by omega)
  unfold valC
  have h3 : (s : Int) ≤ 3 := by omega
  omega
theorem drvC_B {F : Nat → Nat → Int} {V : Nat → Int} (h : okC F V) {s d m cd : Nat} (hs : (s : Int) < V 0) (hd : d < 6) (hm : m < 12) : -400000 ≤ drvC F s m cd d ∧ drvC F s m cd d ≤ 409999 := by
  unfold drvC
  have h1 := valC_B h hs hd hm
  have h2 := h.2.2.2.2.2.1 d hd
  split <;> omega
theorem nmC_B {F : Nat → Nat → Int} {V : Nat → Int} (h : okC F V) {s i m cd : Nat} (hs : (s : Int) < V 0) (hi : (i : Int) < V 2) (hm : m < 12) : inB (nmC F s m cd i) := by
  have hL := h.2.2.2.2.2.2.2.2.1 i hi
  have hA := h.2.2.2.2.2.2.2.2.2.1
  have hV := h.2.2.1
  have hV3 := h.2.2.2.1
  refine lnum_B hL.2.2 ?_ (fun hk => ?_)
  · intro v hv
    unfold actC at hv
    split at hv
    · cases hv
    · cases hv
      have := hA (i * 12 + m) (by omega)
      omega
  · have := hL.2.1 hk
    have := drvC_B h (cd := cd) hs (d := (F 6 i).toNat) (m := m) (by omega) hm
    omega
set_option maxRecDepth 20000 in
theorem in_X3_requireDriver_X3 : ∀ w ∈ u_ws RX3 TX3 7, w ∈ wsX3_requireDriver := by decide +kernel
set_option maxHeartbeats 4000000 in
set_option maxRecDepth 100000 in
theorem c_X3_requireDriver (l : Launch) (G : jG) (h : Nat → Nat) (F : Nat → Nat → Int) (V : Nat → Int) (z : Int) (hz : 0 ≤ z ∧ z < V 3) (hV : -2147483648 ≤ V 3 ∧ V 3 ≤ 2147483647) : jMet l yX3_requireDriver wsX3_requireDriver { frames := 1, cells := 0, slots := 0, locals := 30 } G (wC G h F V) [.ref (h 0), .int (iI z)] (fun rv w1 => rv = none ∧ w1 = wC G h F V) := by
  refine jMet_of (cc := cX3_requireDriver) (maxL := 2) (ret := none) (by decide +kernel) rfl (Nat.le_of_ble_eq_true rfl) ?_
  intro p e s m args below meth c A hh hret hinit
  refine jr_loc (lv' := [(0, .ref (h 0)), (1, .int (iI z))]) [0, 1] rfl ?_
  refine jr_iload_n (pc := 0) hh 1 dX3_requireDriver_0 rfl rfl ?_
  refine jr_if_lt (tgt := 12) (pc := 1) hh dX3_requireDriver_1 (by decide) ⟨by omega, by omega⟩ (fun c1 => ?_) (fun c1 => ?_)
  · skip
    exfalso
    omega
  · skip
    refine jr_iload_n (pc := 4) hh 1 dX3_requireDriver_4 rfl rfl ?_
    refine jr_aload_n (pc := 5) hh 0 dX3_requireDriver_5 rfl rfl ?_
    refine jr_get (v := .int (iI (V 3))) (pc := 6) hh in_X3_requireDriver_X3 0 rfl rfl 5 (by decide) (by decide +kernel : Cond.fieldLink RX3 41 (TX3 5).1 (TX3 5).2.1 (TX3 5).2.2.1 ∈ wsX3_requireDriver) rfl dX3_requireDriver_6 ?_
    refine jr_icmp_lt (tgt := 20) (pc := 9) hh dX3_requireDriver_9 (by decide) ⟨by omega, by omega⟩ ⟨by omega, by omega⟩ (fun c2 => ?_) (fun c2 => ?_)
    · skip
      exact jr_vret (pc := 20) hh hret ⟨rfl, rfl⟩ (by decide) (by decide) dX3_requireDriver_20
    · skip
      exfalso
      omega
set_option maxRecDepth 20000 in
theorem tw_X3_requireDriver_155 : ∀ w ∈ (vx_at0 RX3 155 "java/lang/IndexOutOfBoundsException" ["java/lang/RuntimeException", "java/lang/Exception"]).filter goodWord, w ∈ wsX3_requireDriver := by decide +kernel
set_option maxRecDepth 20000 in
theorem tb_155 : ∀ w ∈ (vx_at0 RX3 155 "java/lang/IndexOutOfBoundsException" ["java/lang/RuntimeException", "java/lang/Exception"]).filter (fun w => !goodWord w), w ∈ [Cond.castable "java/lang/IndexOutOfBoundsException" "java/lang/IndexOutOfBoundsException", Cond.declares (Bundle.init0 "java/lang/RuntimeException"), Cond.declares (Bundle.init0 "java/lang/Exception"), Cond.declares (Bundle.init0 Bundle.tN)] := by decide +kernel
set_option maxRecDepth 20000 in
theorem tg_155 : ∀ w ∈ Cond.classLink RX3 153 "java/lang/IndexOutOfBoundsException" :: Cond.initialized "java/lang/IndexOutOfBoundsException" :: vx_at0 RX3 155 "java/lang/IndexOutOfBoundsException" ["java/lang/RuntimeException", "java/lang/Exception"], vx_ot w = true := by decide +kernel
set_option maxHeartbeats 4000000 in
set_option maxRecDepth 100000 in
theorem t_X3_requireDriver (l : Launch) (G : jG) (h : Nat → Nat) (F : Nat → Nat → Int) (V : Nat → Int) (z : Int) (hr : jR z) (hz : ¬ (0 ≤ z ∧ z < V 3)) (hV : -2147483648 ≤ V 3 ∧ V 3 ≤ 2147483647) (hlt : l.stackTraces = false) : jThr l yX3_requireDriver wsX3_requireDriver { frames := 6, cells := 1, slots := 6, locals := 100 } G (wC G h F V) [.ref (h 0), .int (iI z)] (fun E w1 => E = "java/lang/IndexOutOfBoundsException" ∧ w1 = wC G h F V) := by
  refine jThr_of (cc := cX3_requireDriver) (maxL := 2) (ret := none) (by decide +kernel) rfl (Nat.le_of_ble_eq_true rfl) ?_
  intro p e s m args below meth c A hh htab
  refine jr_loc (lv' := [(0, .ref (h 0)), (1, .int (iI z))]) [0, 1] rfl ?_
  have hr1 := hr.1
  have hr2 := hr.2
  refine jr_iload_n (pc := 0) hh 1 dX3_requireDriver_0 rfl rfl ?_
  refine jr_if_lt (tgt := 12) (pc := 1) hh dX3_requireDriver_1 (by decide) ⟨by omega, by omega⟩ (fun c1 => ?_) (fun c1 => ?_)
  · skip
    exact jr_throw (pc := 12) hh hlt htab (cls := "java/lang/IndexOutOfBoundsException") (names := ["java/lang/RuntimeException", "java/lang/Exception"]) (by decide +kernel) (by decide +kernel) (by decide +kernel) (by decide +kernel) tw_X3_requireDriver_155 tb_155 (by decide) tg_155 dX3_requireDriver_12 dX3_requireDriver_15 dX3_requireDriver_16 dX3_requireDriver_19 ⟨Nat.le_of_ble_eq_true rfl, Nat.le_of_ble_eq_true rfl, Nat.le_of_ble_eq_true rfl, Nat.le_of_ble_eq_true rfl⟩ (Nat.le_of_ble_eq_true rfl) (Nat.le_of_ble_eq_true rfl) ⟨rfl, rfl⟩
  · skip
    refine jr_iload_n (pc := 4) hh 1 dX3_requireDriver_4 rfl rfl ?_
    refine jr_aload_n (pc := 5) hh 0 dX3_requireDriver_5 rfl rfl ?_
    refine jr_get (v := .int (iI (V 3))) (pc := 6) hh in_X3_requireDriver_X3 0 rfl rfl 5 (by decide) (by decide +kernel : Cond.fieldLink RX3 41 (TX3 5).1 (TX3 5).2.1 (TX3 5).2.2.1 ∈ wsX3_requireDriver) rfl dX3_requireDriver_6 ?_
    refine jr_icmp_lt (tgt := 20) (pc := 9) hh dX3_requireDriver_9 (by decide) ⟨by omega, by omega⟩ ⟨by omega, by omega⟩ (fun c2 => ?_) (fun c2 => ?_)
    · skip
      exfalso
      omega
    · skip
      exact jr_throw (pc := 12) hh hlt htab (cls := "java/lang/IndexOutOfBoundsException") (names := ["java/lang/RuntimeException", "java/lang/Exception"]) (by decide +kernel) (by decide +kernel) (by decide +kernel) (by decide +kernel) tw_X3_requireDriver_155 tb_155 (by decide) tg_155 dX3_requireDriver_12 dX3_requireDriver_15 dX3_requireDriver_16 dX3_requireDriver_19 ⟨Nat.le_of_ble_eq_true rfl, Nat.le_of_ble_eq_true rfl, Nat.le_of_ble_eq_true rfl, Nat.le_of_ble_eq_true rfl⟩ (Nat.le_of_ble_eq_true rfl) (Nat.le_of_ble_eq_true rfl) ⟨rfl, rfl⟩
set_option maxRecDepth 20000 in
theorem in_X3_requireScenario_X3 : ∀ w ∈ u_ws RX3 TX3 7, w ∈ wsX3_requireScenario := by decide +kernel
set_option maxRecDepth 20000 in
theorem in_X3_requireScenario_X2 : ∀ w ∈ u_ws RX2 TX2 5, w ∈ wsX3_requireScenario := by decide +kernel
set_option maxHeartbeats 4000000 in
set_option maxRecDepth 100000 in
theorem c_X3_requireScenario (l : Launch) (G : jG) (h : Nat → Nat) (F : Nat → Nat → Int) (V : Nat → Int) (z : Int) (hz : 0 ≤ z ∧ z < V 0) (hV : -2147483648 ≤ V 0 ∧ V 0 ≤ 2147483647) : jMet l yX3_requireScenario wsX3_requireScenario { frames := 1, cells := 0, slots := 0, locals := 30 } G (wC G h F V) [.ref (h 0), .int (iI z)] (fun rv w1 => rv = none ∧ w1 = wC G h F V) := by
  refine jMet_of (cc := cX3_requireScenario) (maxL := 2) (ret := none) (by decide +kernel) rfl (Nat.le_of_ble_eq_true rfl) ?_
  intro p e s m args below meth c A hh hret hinit
  refine jr_loc (lv' := [(0, .ref (h 0)), (1, .int (iI z))]) [0, 1] rfl ?_
  refine jr_iload_n (pc := 0) hh 1 dX3_requireScenario_0 rfl rfl ?_
  refine jr_if_lt (tgt := 15) (pc := 1) hh dX3_requireScenario_1 (by decide) ⟨by omega, by omega⟩ (fun c1 => ?_) (fun c1 => ?_)
  · skip
    exfalso
    omega
  · skip
    refine jr_iload_n (pc := 4) hh 1 dX3_requireScenario_4 rfl rfl ?_
    refine jr_aload_n (pc := 5) hh 0 dX3_requireScenario_5 rfl rfl ?_
    refine jr_get (v := .ref (h 3)) (pc := 6) hh in_X3_requireScenario_X3 0 rfl rfl 1 (by decide) (by decide +kernel : Cond.fieldLink RX3 16 (TX3 1).1 (TX3 1).2.1 (TX3 1).2.2.1 ∈ wsX3_requireScenario) rfl dX3_requireScenario_6 ?_
    refine jr_getN (v := .int (iI (V 0))) (pc := 9) hh in_X3_requireScenario_X2 3 rfl rfl 3 (by decide) rfl (by decide +kernel) rfl dX3_requireScenario_9 ?_
    refine jr_icmp_lt (tgt := 23) (pc := 12) hh dX3_requireScenario_12 (by decide) ⟨by omega, by omega⟩ ⟨by omega, by omega⟩ (fun c2 => ?_) (fun c2 => ?_)
    · skip
      exact jr_vret (pc := 23) hh hret ⟨rfl, rfl⟩ (by decide) (by decide) dX3_requireScenario_23
    · skip
      exfalso
      omega
set_option maxRecDepth 20000 in
theorem tw_X3_requireScenario_155 : ∀ w ∈ (vx_at0 RX3 155 "java/lang/IndexOutOfBoundsException" ["java/lang/RuntimeException", "java/lang/Exception"]).filter goodWord, w ∈ wsX3_requireScenario := by decide +kernel
set_option maxHeartbeats 4000000 in
set_option maxRecDepth 100000 in
theorem t_X3_requireScenario (l : Launch) (G : jG) (h : Nat → Nat) (F : Nat → Nat → Int) (V : Nat → Int) (z : Int) (hr : jR z) (hz : ¬ (0 ≤ z ∧ z < V 0)) (hV : -2147483648 ≤ V 0 ∧ V 0 ≤ 2147483647) (hlt : l.stackTraces = false) : jThr l yX3_requireScenario wsX3_requireScenario { frames := 6, cells := 1, slots := 6, locals := 100 } G (wC G h F V) [.ref (h 0), .int (iI z)] (fun E w1 => E = "java/lang/IndexOutOfBoundsException" ∧ w1 = wC G h F V) := by
  refine jThr_of (cc := cX3_requireScenario) (maxL := 2) (ret := none) (by decide +kernel) rfl (Nat.le_of_ble_eq_true rfl) ?_
  intro p e s m args below meth c A hh htab
  refine jr_loc (lv' := [(0, .ref (h 0)), (1, .int (iI z))]) [0, 1] rfl ?_
  have hr1 := hr.1
  have hr2 := hr.2
  refine jr_iload_n (pc := 0) hh 1 dX3_requireScenario_0 rfl rfl ?_
  refine jr_if_lt (tgt := 15) (pc := 1) hh dX3_requireScenario_1 (by decide) ⟨by omega, by omega⟩ (fun c1 => ?_) (fun c1 => ?_)
  · skip
    exact jr_throw (pc := 15) hh hlt htab (cls := "java/lang/IndexOutOfBoundsException") (names := ["java/lang/RuntimeException", "java/lang/Exception"]) (by decide +kernel) (by decide +kernel) (by decide +kernel) (by decide +kernel) tw_X3_requireScenario_155 tb_155 (by decide) tg_155 dX3_requireScenario_15 dX3_requireScenario_18 dX3_requireScenario_19 dX3_requireScenario_22 ⟨Nat.le_of_ble_eq_true rfl, Nat.le_of_ble_eq_true rfl, Nat.le_of_ble_eq_true rfl, Nat.le_of_ble_eq_true rfl⟩ (Nat.le_of_ble_eq_true rfl) (Nat.le_of_ble_eq_true rfl) ⟨rfl, rfl⟩
  · skip
    refine jr_iload_n (pc := 4) hh 1 dX3_requireScenario_4 rfl rfl ?_
    refine jr_aload_n (pc := 5) hh 0 dX3_requireScenario_5 rfl rfl ?_
    refine jr_get (v := .ref (h 3)) (pc := 6) hh in_X3_requireScenario_X3 0 rfl rfl 1 (by decide) (by decide +kernel : Cond.fieldLink RX3 16 (TX3 1).1 (TX3 1).2.1 (TX3 1).2.2.1 ∈ wsX3_requireScenario) rfl dX3_requireScenario_6 ?_
    refine jr_getN (v := .int (iI (V 0))) (pc := 9) hh in_X3_requireScenario_X2 3 rfl rfl 3 (by decide) rfl (by decide +kernel) rfl dX3_requireScenario_9 ?_
    refine jr_icmp_lt (tgt := 23) (pc := 12) hh dX3_requireScenario_12 (by decide) ⟨by omega, by omega⟩ ⟨by omega, by omega⟩ (fun c2 => ?_) (fun c2 => ?_)
    · skip
      exfalso
      omega
    · skip
      exact jr_throw (pc := 15) hh hlt htab (cls := "java/lang/IndexOutOfBoundsException") (names := ["java/lang/RuntimeException", "java/lang/Exception"]) (by decide +kernel) (by decide +kernel) (by decide +kernel) (by decide +kernel) tw_X3_requireScenario_155 tb_155 (by decide) tg_155 dX3_requireScenario_15 dX3_requireScenario_18 dX3_requireScenario_19 dX3_requireScenario_22 ⟨Nat.le_of_ble_eq_true rfl, Nat.le_of_ble_eq_true rfl, Nat.le_of_ble_eq_true rfl, Nat.le_of_ble_eq_true rfl⟩ (Nat.le_of_ble_eq_true rfl) (Nat.le_of_ble_eq_true rfl) ⟨rfl, rfl⟩
set_option maxRecDepth 20000 in
theorem in_X3_requireLine_X3 : ∀ w ∈ u_ws RX3 TX3 7, w ∈ wsX3_requireLine := by decide +kernel
set_option maxRecDepth 20000 in
theorem in_X3_requireLine_X1 : ∀ w ∈ u_ws RX1 TX1 7, w ∈ wsX3_requireLine := by decide +kernel
set_option maxHeartbeats 4000000 in
set_option maxRecDepth 100000 in
theorem c_X3_requireLine (l : Launch) (G : jG) (h : Nat → Nat) (F : Nat → Nat → Int) (V : Nat → Int) (z : Int) (hz : 0 ≤ z ∧ z < V 2) (hV : -2147483648 ≤ V 2 ∧ V 2 ≤ 2147483647) : jMet l yX3_requireLine wsX3_requireLine { frames := 1, cells := 0, slots := 0, locals := 30 } G (wC G h F V) [.ref (h 0), .int (iI z)] (fun rv w1 => rv = none ∧ w1 = wC G h F V) := by
  refine jMet_of (cc := cX3_requireLine) (maxL := 2) (ret := none) (by decide +kernel) rfl (Nat.le_of_ble_eq_true rfl) ?_
  intro p e s m args below meth c A hh hret hinit
  refine jr_loc (lv' := [(0, .ref (h 0)), (1, .int (iI z))]) [0, 1] rfl ?_
  refine jr_iload_n (pc := 0) hh 1 dX3_requireLine_0 rfl rfl ?_
  refine jr_if_lt (tgt := 15) (pc := 1) hh dX3_requireLine_1 (by decide) ⟨by omega, by omega⟩ (fun c1 => ?_) (fun c1 => ?_)
  · skip
    exfalso
    omega
  · skip
    refine jr_iload_n (pc := 4) hh 1 dX3_requireLine_4 rfl rfl ?_
    refine jr_aload_n (pc := 5) hh 0 dX3_requireLine_5 rfl rfl ?_
    refine jr_get (v := .ref (h 7)) (pc := 6) hh in_X3_requireLine_X3 0 rfl rfl 2 (by decide) (by decide +kernel : Cond.fieldLink RX3 23 (TX3 2).1 (TX3 2).2.1 (TX3 2).2.2.1 ∈ wsX3_requireLine) rfl dX3_requireLine_6 ?_
    refine jr_getN (v := .int (iI (V 2))) (pc := 9) hh in_X3_requireLine_X1 7 rfl rfl 6 (by decide) rfl (by decide +kernel) rfl dX3_requireLine_9 ?_
    refine jr_icmp_lt (tgt := 23) (pc := 12) hh dX3_requireLine_12 (by decide) ⟨by omega, by omega⟩ ⟨by omega, by omega⟩ (fun c2 => ?_) (fun c2 => ?_)
    · skip
      exact jr_vret (pc := 23) hh hret ⟨rfl, rfl⟩ (by decide) (by decide) dX3_requireLine_23
    · skip
      exfalso
      omega
set_option maxRecDepth 20000 in
theorem tw_X3_requireLine_155 : ∀ w ∈ (vx_at0 RX3 155 "java/lang/IndexOutOfBoundsException" ["java/lang/RuntimeException", "java/lang/Exception"]).filter goodWord, w ∈ wsX3_requireLine := by decide +kernel
set_option maxHeartbeats 4000000 in
set_option maxRecDepth 100000 in
theorem t_X3_requireLine (l : Launch) (G : jG) (h : Nat → Nat) (F : Nat → Nat → Int) (V : Nat → Int) (z : Int) (hr : jR z) (hz : ¬ (0 ≤ z ∧ z < V 2)) (hV : -2147483648 ≤ V 2 ∧ V 2 ≤ 2147483647) (hlt : l.stackTraces = false) : jThr l yX3_requireLine wsX3_requireLine { frames := 6, cells := 1, slots := 6, locals := 100 } G (wC G h F V) [.ref (h 0), .int (iI z)] (fun E w1 => E = "java/lang/IndexOutOfBoundsException" ∧ w1 = wC G h F V) := by
  refine jThr_of (cc := cX3_requireLine) (maxL := 2) (ret := none) (by decide +kernel) rfl (Nat.le_of_ble_eq_true rfl) ?_
  intro p e s m args below meth c A hh htab
  refine jr_loc (lv' := [(0, .ref (h 0)), (1, .int (iI z))]) [0, 1] rfl ?_
  have hr1 := hr.1
  have hr2 := hr.2
  refine jr_iload_n (pc := 0) hh 1 dX3_requireLine_0 rfl rfl ?_
  refine jr_if_lt (tgt := 15) (pc := 1) hh dX3_requireLine_1 (by decide) ⟨by omega, by omega⟩ (fun c1 => ?_) (fun c1 => ?_)
  · skip
    exact jr_throw (pc := 15) hh hlt htab (cls := "java/lang/IndexOutOfBoundsException") (names := ["java/lang/RuntimeException", "java/lang/Exception"]) (by decide +kernel) (by decide +kernel) (by decide +kernel) (by decide +kernel) tw_X3_requireLine_155 tb_155 (by decide) tg_155 dX3_requireLine_15 dX3_requireLine_18 dX3_requireLine_19 dX3_requireLine_22 ⟨Nat.le_of_ble_eq_true rfl, Nat.le_of_ble_eq_true rfl, Nat.le_of_ble_eq_true rfl, Nat.le_of_ble_eq_true rfl⟩ (Nat.le_of_ble_eq_true rfl) (Nat.le_of_ble_eq_true rfl) ⟨rfl, rfl⟩
  · skip
    refine jr_iload_n (pc := 4) hh 1 dX3_requireLine_4 rfl rfl ?_
    refine jr_aload_n (pc := 5) hh 0 dX3_requireLine_5 rfl rfl ?_
    refine jr_get (v := .ref (h 7)) (pc := 6) hh in_X3_requireLine_X3 0 rfl rfl 2 (by decide) (by decide +kernel : Cond.fieldLink RX3 23 (TX3 2).1 (TX3 2).2.1 (TX3 2).2.2.1 ∈ wsX3_requireLine) rfl dX3_requireLine_6 ?_
    refine jr_getN (v := .int (iI (V 2))) (pc := 9) hh in_X3_requireLine_X1 7 rfl rfl 6 (by decide) rfl (by decide +kernel) rfl dX3_requireLine_9 ?_
    refine jr_icmp_lt (tgt := 23) (pc := 12) hh dX3_requireLine_12 (by decide) ⟨by omega, by omega⟩ ⟨by omega, by omega⟩ (fun c2 => ?_) (fun c2 => ?_)
    · skip
      exfalso
      omega
    · skip
      exact jr_throw (pc := 15) hh hlt htab (cls := "java/lang/IndexOutOfBoundsException") (names := ["java/lang/RuntimeException", "java/lang/Exception"]) (by decide +kernel) (by decide +kernel) (by decide +kernel) (by decide +kernel) tw_X3_requireLine_155 tb_155 (by decide) tg_155 dX3_requireLine_15 dX3_requireLine_18 dX3_requireLine_19 dX3_requireLine_22 ⟨Nat.le_of_ble_eq_true rfl, Nat.le_of_ble_eq_true rfl, Nat.le_of_ble_eq_true rfl, Nat.le_of_ble_eq_true rfl⟩ (Nat.le_of_ble_eq_true rfl) (Nat.le_of_ble_eq_true rfl) ⟨rfl, rfl⟩
set_option maxHeartbeats 4000000 in
set_option maxRecDepth 100000 in
theorem c_X3_requireMonth (l : Launch) (G : jG) (z : Int) (hz : 0 ≤ z ∧ z < 12) : jMet l yX3_requireMonth wsX3_requireMonth { frames := 1, cells := 0, slots := 0, locals := 30 } G ([] : va_W) [.int (iI z)] (fun rv w1 => rv = none ∧ w1 = []) := by
  refine jMet_of (cc := cX3_requireMonth) (maxL := 1) (ret := none) (by decide +kernel) rfl (Nat.le_of_ble_eq_true rfl) ?_
  intro p e s m args below meth c A hh hret hinit
  refine jr_loc (lv' := [(0, .int (iI z))]) [0] rfl ?_
  refine jr_iload_n (pc := 0) hh 0 dX3_requireMonth_0 rfl rfl ?_
  refine jr_if_lt (tgt := 10) (pc := 1) hh dX3_requireMonth_1 (by decide) ⟨by omega, by omega⟩ (fun c1 => ?_) (fun c1 => ?_)
  · skip
    exfalso
    omega
  · skip
    refine jr_iload_n (pc := 4) hh 0 dX3_requireMonth_4 rfl rfl ?_
    refine jr_bipush (pc := 5) hh dX3_requireMonth_5 (by decide) ?_
    refine jr_icmp_lt (tgt := 18) (pc := 7) hh dX3_requireMonth_7 (by decide) ⟨by omega, by omega⟩ ⟨by omega, by omega⟩ (fun c2 => ?_) (fun c2 => ?_)
    · skip
      exact jr_vret (pc := 18) hh hret ⟨rfl, rfl⟩ (by decide) (by decide) dX3_requireMonth_18
    · skip
      exfalso
      omega
set_option maxRecDepth 20000 in
theorem tw_X3_requireMonth_155 : ∀ w ∈ (vx_at0 RX3 155 "java/lang/IndexOutOfBoundsException" ["java/lang/RuntimeException", "java/lang/Exception"]).filter goodWord, w ∈ wsX3_requireMonth := by decide +kernel
set_option maxHeartbeats 4000000 in
set_option maxRecDepth 100000 in
theorem t_X3_requireMonth (l : Launch) (G : jG) (z : Int) (hr : jR z) (hz : ¬ (0 ≤ z ∧ z < 12)) (hlt : l.stackTraces = false) : jThr l yX3_requireMonth wsX3_requireMonth { frames := 6, cells := 1, slots := 6, locals := 100 } G ([] : va_W) [.int (iI z)] (fun E w1 => E = "java/lang/IndexOutOfBoundsException" ∧ w1 = []) := by
  refine jThr_of (cc := cX3_requireMonth) (maxL := 1) (ret := none) (by decide +kernel) rfl (Nat.le_of_ble_eq_true rfl) ?_
  intro p e s m args below meth c A hh htab
  refine jr_loc (lv' := [(0, .int (iI z))]) [0] rfl ?_
  have hr1 := hr.1
  have hr2 := hr.2
  refine jr_iload_n (pc := 0) hh 0 dX3_requireMonth_0 rfl rfl ?_
  refine jr_if_lt (tgt := 10) (pc := 1) hh dX3_requireMonth_1 (by decide) ⟨by omega, by omega⟩ (fun c1 => ?_) (fun c1 => ?_)
  · skip
    exact jr_throw (pc := 10) hh hlt htab (cls := "java/lang/IndexOutOfBoundsException") (names := ["java/lang/RuntimeException", "java/lang/Exception"]) (by decide +kernel) (by decide +kernel) (by decide +kernel) (by decide +kernel) tw_X3_requireMonth_155 tb_155 (by decide) tg_155 dX3_requireMonth_10 dX3_requireMonth_13 dX3_requireMonth_14 dX3_requireMonth_17 ⟨Nat.le_of_ble_eq_true rfl, Nat.le_of_ble_eq_true rfl, Nat.le_of_ble_eq_true rfl, Nat.le_of_ble_eq_true rfl⟩ (Nat.le_of_ble_eq_true rfl) (Nat.le_of_ble_eq_true rfl) ⟨rfl, rfl⟩
  · skip
    refine jr_iload_n (pc := 4) hh 0 dX3_requireMonth_4 rfl rfl ?_
    refine jr_bipush (pc := 5) hh dX3_requireMonth_5 (by decide) ?_
    refine jr_icmp_lt (tgt := 18) (pc := 7) hh dX3_requireMonth_7 (by decide) ⟨by omega, by omega⟩ ⟨by omega, by omega⟩ (fun c2 => ?_) (fun c2 => ?_)
    · skip
      exfalso
      omega
    · skip
      exact jr_throw (pc := 10) hh hlt htab (cls := "java/lang/IndexOutOfBoundsException") (names := ["java/lang/RuntimeException", "java/lang/Exception"]) (by decide +kernel) (by decide +kernel) (by decide +kernel) (by decide +kernel) tw_X3_requireMonth_155 tb_155 (by decide) tg_155 dX3_requireMonth_10 dX3_requireMonth_13 dX3_requireMonth_14 dX3_requireMonth_17 ⟨Nat.le_of_ble_eq_true rfl, Nat.le_of_ble_eq_true rfl, Nat.le_of_ble_eq_true rfl, Nat.le_of_ble_eq_true rfl⟩ (Nat.le_of_ble_eq_true rfl) (Nat.le_of_ble_eq_true rfl) ⟨rfl, rfl⟩
set_option maxHeartbeats 4000000 in
set_option maxRecDepth 100000 in
theorem c_X3_requireDriverValue (l : Launch) (G : jG) (z : Int) (hz : 0 ≤ z ∧ z ≤ 9999) : jMet l yX3_requireDriverValue wsX3_requireDriverValue { frames := 1, cells := 0, slots := 0, locals := 30 } G ([] : va_W) [.int (iI z)] (fun rv w1 => rv = none ∧ w1 = []) := by
  refine jMet_of (cc := cX3_requireDriverValue) (maxL := 1) (ret := none) (by decide +kernel) rfl (Nat.le_of_ble_eq_true rfl) ?_
  intro p e s m args below meth c A hh hret hinit
  refine jr_loc (lv' := [(0, .int (iI z))]) [0] rfl ?_
  refine jr_iload_n (pc := 0) hh 0 dX3_requireDriverValue_0 rfl rfl ?_
  refine jr_if_lt (tgt := 11) (pc := 1) hh dX3_requireDriverValue_1 (by decide) ⟨by omega, by omega⟩ (fun c1 => ?_) (fun c1 => ?_)
  · skip
    exfalso
    omega
  · skip
    refine jr_iload_n (pc := 4) hh 0 dX3_requireDriverValue_4 rfl rfl ?_
    refine jr_sipush (pc := 5) hh dX3_requireDriverValue_5 (by decide) ?_
    refine jr_icmp_le (tgt := 19) (pc := 8) hh dX3_requireDriverValue_8 (by decide) ⟨by omega, by omega⟩ ⟨by omega, by omega⟩ (fun c2 => ?_) (fun c2 => ?_)
    · skip
      exact jr_vret (pc := 19) hh hret ⟨rfl, rfl⟩ (by decide) (by decide) dX3_requireDriverValue_19
    · skip
      exfalso
      omega
set_option maxRecDepth 20000 in
theorem tw_X3_requireDriverValue_67 : ∀ w ∈ (vx_at0 RX3 67 "java/lang/IllegalArgumentException" ["java/lang/RuntimeException", "java/lang/Exception"]).filter goodWord, w ∈ wsX3_requireDriverValue := by decide +kernel
set_option maxRecDepth 20000 in
theorem tb_67 : ∀ w ∈ (vx_at0 RX3 67 "java/lang/IllegalArgumentException" ["java/lang/RuntimeException", "java/lang/Exception"]).filter (fun w => !goodWord w), w ∈ [Cond.castable "java/lang/IllegalArgumentException" "java/lang/IllegalArgumentException", Cond.declares (Bundle.init0 "java/lang/RuntimeException"), Cond.declares (Bundle.init0 "java/lang/Exception"), Cond.declares (Bundle.init0 Bundle.tN)] := by decide +kernel
set_option maxRecDepth 20000 in
theorem tg_67 : ∀ w ∈ Cond.classLink RX3 65 "java/lang/IllegalArgumentException" :: Cond.initialized "java/lang/IllegalArgumentException" :: vx_at0 RX3 67 "java/lang/IllegalArgumentException" ["java/lang/RuntimeException", "java/lang/Exception"], vx_ot w = true := by decide +kernel
set_option maxHeartbeats 4000000 in
set_option maxRecDepth 100000 in
theorem t_X3_requireDriverValue (l : Launch) (G : jG) (z : Int) (hr : jR z) (hz : ¬ (0 ≤ z ∧ z ≤ 9999)) (hlt : l.stackTraces = false) : jThr l yX3_requireDriverValue wsX3_requireDriverValue { frames := 6, cells := 1, slots := 6, locals := 100 } G ([] : va_W) [.int (iI z)] (fun E w1 => E = "java/lang/IllegalArgumentException" ∧ w1 = []) := by
  refine jThr_of (cc := cX3_requireDriverValue) (maxL := 1) (ret := none) (by decide +kernel) rfl (Nat.le_of_ble_eq_true rfl) ?_
  intro p e s m args below meth c A hh htab
  refine jr_loc (lv' := [(0, .int (iI z))]) [0] rfl ?_
  have hr1 := hr.1
  have hr2 := hr.2
  refine jr_iload_n (pc := 0) hh 0 dX3_requireDriverValue_0 rfl rfl ?_
  refine jr_if_lt (tgt := 11) (pc := 1) hh dX3_requireDriverValue_1 (by decide) ⟨by omega, by omega⟩ (fun c1 => ?_) (fun c1 => ?_)
  · skip
    exact jr_throw (pc := 11) hh hlt htab (cls := "java/lang/IllegalArgumentException") (names := ["java/lang/RuntimeException", "java/lang/Exception"]) (by decide +kernel) (by decide +kernel) (by decide +kernel) (by decide +kernel) tw_X3_requireDriverValue_67 tb_67 (by decide) tg_67 dX3_requireDriverValue_11 dX3_requireDriverValue_14 dX3_requireDriverValue_15 dX3_requireDriverValue_18 ⟨Nat.le_of_ble_eq_true rfl, Nat.le_of_ble_eq_true rfl, Nat.le_of_ble_eq_true rfl, Nat.le_of_ble_eq_true rfl⟩ (Nat.le_of_ble_eq_true rfl) (Nat.le_of_ble_eq_true rfl) ⟨rfl, rfl⟩
  · skip
    refine jr_iload_n (pc := 4) hh 0 dX3_requireDriverValue_4 rfl rfl ?_
    refine jr_sipush (pc := 5) hh dX3_requireDriverValue_5 (by decide) ?_
    refine jr_icmp_le (tgt := 19) (pc := 8) hh dX3_requireDriverValue_8 (by decide) ⟨by omega, by omega⟩ ⟨by omega, by omega⟩ (fun c2 => ?_) (fun c2 => ?_)
    · skip
      exfalso
      omega
    · skip
      exact jr_throw (pc := 11) hh hlt htab (cls := "java/lang/IllegalArgumentException") (names := ["java/lang/RuntimeException", "java/lang/Exception"]) (by decide +kernel) (by decide +kernel) (by decide +kernel) (by decide +kernel) tw_X3_requireDriverValue_67 tb_67 (by decide) tg_67 dX3_requireDriverValue_11 dX3_requireDriverValue_14 dX3_requireDriverValue_15 dX3_requireDriverValue_18 ⟨Nat.le_of_ble_eq_true rfl, Nat.le_of_ble_eq_true rfl, Nat.le_of_ble_eq_true rfl, Nat.le_of_ble_eq_true rfl⟩ (Nat.le_of_ble_eq_true rfl) (Nat.le_of_ble_eq_true rfl) ⟨rfl, rfl⟩
set_option maxHeartbeats 4000000 in
set_option maxRecDepth 100000 in
theorem c_X3_required (l : Launch) (G : jG) (z : Int) (hz : z ≠ -1000000000) (hr : jR z) : jMet l yX3_required wsX3_required { frames := 1, cells := 0, slots := 0, locals := 30 } G ([] : va_W) [.int (iI z)] (fun rv w1 => rv = some (.int (iI z)) ∧ w1 = []) := by
  refine jMet_of (cc := cX3_required) (maxL := 1) (ret := (some .int)) (by decide +kernel) rfl (Nat.le_of_ble_eq_true rfl) ?_
  intro p e s m args below meth c A hh hret hinit
  refine jr_loc (lv' := [(0, .int (iI z))]) [0] rfl ?_
  have hr1 := hr.1
  have hr2 := hr.2
  refine jr_iload_n (pc := 0) hh 0 dX3_required_0 rfl rfl ?_
  refine jr_ldc (z := (-1000000000)) (v := -1000000000) (pc := 1) hh (by decide) (by decide +kernel : Cond.constant RX3 117 (-1000000000) ∈ wsX3_required) dX3_required_1 ?_
  refine jr_icmp_ne (tgt := 14) (pc := 3) hh dX3_required_3 (by decide) ⟨by omega, by omega⟩ ⟨by omega, by omega⟩ (fun c1 => ?_) (fun c1 => ?_)
  · skip
    refine jr_iload_n (pc := 14) hh 0 dX3_required_14 rfl rfl ?_
    exact jr_iret (pc := 15) hh hret rfl ⟨rfl, rfl⟩ (by decide) (by decide) dX3_required_15
  · skip
    exfalso
    omega
set_option maxRecDepth 20000 in
theorem tw_X3_required_84 : ∀ w ∈ (vx_at0 RX3 84 "java/lang/UnsupportedOperationException" ["java/lang/RuntimeException", "java/lang/Exception"]).filter goodWord, w ∈ wsX3_required := by decide +kernel
set_option maxRecDepth 20000 in
theorem tb_84 : ∀ w ∈ (vx_at0 RX3 84 "java/lang/UnsupportedOperationException" ["java/lang/RuntimeException", "java/lang/Exception"]).filter (fun w => !goodWord w), w ∈ [Cond.castable "java/lang/UnsupportedOperationException" "java/lang/UnsupportedOperationException", Cond.declares (Bundle.init0 "java/lang/RuntimeException"), Cond.declares (Bundle.init0 "java/lang/Exception"), Cond.declares (Bundle.init0 Bundle.tN)] := by decide +kernel
set_option maxRecDepth 20000 in
theorem tg_84 : ∀ w ∈ Cond.classLink RX3 82 "java/lang/UnsupportedOperationException" :: Cond.initialized "java/lang/UnsupportedOperationException" :: vx_at0 RX3 84 "java/lang/UnsupportedOperationException" ["java/lang/RuntimeException", "java/lang/Exception"], vx_ot w = true := by decide +kernel
set_option maxHeartbeats 4000000 in
set_option maxRecDepth 100000 in
theorem t_X3_required (l : Launch) (G : jG) (hlt : l.stackTraces = false) : jThr l yX3_required wsX3_required { frames := 6, cells := 1, slots := 6, locals := 100 } G ([] : va_W) [.int (iI (-1000000000))] (fun E w1 => E = "java/lang/UnsupportedOperationException" ∧ w1 = []) := by
  refine jThr_of (cc := cX3_required) (maxL := 1) (ret := (some .int)) (by decide +kernel) rfl (Nat.le_of_ble_eq_true rfl) ?_
  intro p e s m args below meth c A hh htab
  refine jr_loc (lv' := [(0, .int (iI (-1000000000)))]) [0] rfl ?_
  refine jr_iload_n (pc := 0) hh 0 dX3_required_0 rfl rfl ?_
  refine jr_ldc (z := (-1000000000)) (v := -1000000000) (pc := 1) hh (by decide) (by decide +kernel : Cond.constant RX3 117 (-1000000000) ∈ wsX3_required) dX3_required_1 ?_
  refine jr_icmp_ne (tgt := 14) (pc := 3) hh dX3_required_3 (by decide) ⟨by omega, by omega⟩ ⟨by omega, by omega⟩ (fun c1 => ?_) (fun c1 => ?_)
  · skip
    exfalso
    omega
  · skip
    exact jr_throw (pc := 6) hh hlt htab (cls := "java/lang/UnsupportedOperationException") (names := ["java/lang/RuntimeException", "java/lang/Exception"]) (by decide +kernel) (by decide +kernel) (by decide +kernel) (by decide +kernel) tw_X3_required_84 tb_84 (by decide) tg_84 dX3_required_6 dX3_required_9 dX3_required_10 dX3_required_13 ⟨Nat.le_of_ble_eq_true rfl, Nat.le_of_ble_eq_true rfl, Nat.le_of_ble_eq_true rfl, Nat.le_of_ble_eq_true rfl⟩ (Nat.le_of_ble_eq_true rfl) (Nat.le_of_ble_eq_true rfl) ⟨rfl, rfl⟩
set_option maxRecDepth 20000 in
theorem in_X3_valueIn_X3 : ∀ w ∈ u_ws RX3 TX3 7, w ∈ wsX3_valueIn := by decide +kernel
set_option maxHeartbeats 4000000 in
set_option maxRecDepth 100000 in
theorem c_X3_valueIn (l : Launch) (G : jG) (h : Nat → Nat) (F : Nat → Nat → Int) (V : Nat → Int) (s0 d0 m0 : Nat) (hk : okC F V) (hs : (s0 : Int) < V 0) (hd : d0 < 6) (hm : m0 < 12) : jMet l yX3_valueIn wsX3_valueIn { frames := 3, cells := 0, slots := 0, locals := 120 } G (wC G h F V) [.ref (h 0), .int (iI (s0 : Int)), .int (iI (d0 : Int)), .int (iI (m0 : Int))] (fun rv w1 => rv = some (.int (iI (valC F s0 d0 m0))) ∧ w1 = wC G h F V) := by
  refine jMet_of (cc := cX3_valueIn) (maxL := 4) (ret := (some .int)) (by decide +kernel) rfl (Nat.le_of_ble_eq_true rfl) ?_
  intro p e s m args below meth c A hh hret hinit
  refine jr_loc (lv' := [(0, .ref (h 0)), (1, .int (iI (s0 : Int))), (2, .int (iI (d0 : Int))), (3, .int (iI (m0 : Int)))]) [0, 1, 2, 3] rfl ?_
  refine jr_aload_n (pc := 0) hh 0 dX3_valueIn_0 rfl rfl ?_
  refine jr_get (v := .ref (h 1)) (pc := 1) hh in_X3_valueIn_X3 0 rfl rfl 0 (by decide) (by decide +kernel : Cond.fieldLink RX3 9 (TX3 0).1 (TX3 0).2.1 (TX3 0).2.2.1 ∈ wsX3_valueIn) rfl dX3_valueIn_1 ?_
  refine jr_iload_n (pc := 4) hh 2 dX3_valueIn_4 rfl rfl ?_
  refine jr_iald (F := (F 0)) (pc := 5) hh 1 rfl d0 (by omega) (by omega) (by decide) dX3_valueIn_5 ?_
  refine jr_aload_n (pc := 6) hh 0 dX3_valueIn_6 rfl rfl ?_
  refine jr_get (v := .ref (h 3)) (pc := 7) hh in_X3_valueIn_X3 0 rfl rfl 1 (by decide) (by decide +kernel : Cond.fieldLink RX3 16 (TX3 1).1 (TX3 1).2.1 (TX3 1).2.2.1 ∈ wsX3_valueIn) rfl dX3_valueIn_7 ?_
  refine jr_iload_n (pc := 10) hh 1 dX3_valueIn_10 rfl rfl ?_
  refine jr_iload_n (pc := 11) hh 2 dX3_valueIn_11 rfl rfl ?_
  refine jr_iload_n (pc := 12) hh 3 dX3_valueIn_12 rfl rfl ?_
  refine jr_callVN (pc := 13) hh [.int (iI (s0 : Int)), .int (iI (d0 : Int)), .int (iI (m0 : Int))] [.int (iI ((F 0) d0))] (c_X2_addedTo l G (fun k => h (3 + k)) (fun k => F (2 + k)) V s0 d0 m0 (by have := hk.1; omega) hd hm (fun k q1 q2 => hk.2.2.2.2.2.2.1 k q1 (by omega))) gX3_valueIn_X2_addedTo_n156 rfl (by decide +kernel) (by decide +kernel) (by decide +kernel) (by decide +kernel) (by decide) (by decide) [3, 4, 5, 6] [0, 1, 2, 7, 8, 9, 10, 11, 12, 13, 14, 15, 16, 17] rfl rfl rfl rfl (by decide) 0 rfl rfl 3 rfl rfl (Nat.le_of_ble_eq_true rfl) (by decide +kernel) dX3_valueIn_13 (fun rvu1 wu1 hu1 => ?_)
  obtain ⟨rfl, rfl⟩ := hu1
  refine jr_perm (ws' := (wC G h F V)) (st := [.int (iI (chS (F 2) (fun k => F 4 ((k * 6 + d0) * 12 + m0)) s0 (s0 : Int))), .int (iI ((F 0) d0))]) [0, 1, 2, 14, 15, 16, 17, 3, 4, 5, 6, 7, 8, 9, 10, 11, 12, 13] rfl rfl ?_
  refine jr_iadd (pc := 16) hh dX3_valueIn_16 ?_
  exact jr_iret (pc := 17) hh hret rfl ⟨rfl, rfl⟩ (by decide) (by decide) dX3_valueIn_17
set_option maxRecDepth 20000 in
theorem in_X3_fillInputs_X3 : ∀ w ∈ u_ws RX3 TX3 7, w ∈ wsX3_fillInputs := by decide +kernel
set_option maxHeartbeats 4000000 in
set_option maxRecDepth 100000 in
theorem c_X3_fillInputs (l : Launch) (G : jG) (h : Nat → Nat) (F : Nat → Nat → Int) (V : Nat → Int) (s0 m0 cd : Nat) (hk : okC F V) (hs : (s0 : Int) < V 0) (hm : m0 < 12) (hcd : cd ≤ 6) : jMet l yX3_fillInputs wsX3_fillInputs { frames := 4, cells := 0, slots := 0, locals := 180 } G (wC G h F V) [.ref (h 0), .int (iI (s0 : Int)), .int (iI (m0 : Int)), .int (iI (cd : Int))] (fun rv w1 => rv = none ∧ ∃ inp : Nat → Int, (∀ j : Nat, (j : Int) < V 3 → inp j = drvC F s0 m0 cd j) ∧ okIn inp ∧ w1 = wC G h (uF F 1 inp) V) := by
  refine jMet_of (cc := cX3_fillInputs) (maxL := 5) (ret := none) (by decide +kernel) rfl (Nat.le_of_ble_eq_true rfl) ?_
  intro p e s m args below meth c A hh hret hinit
  refine jr_loc (lv' := [(0, .ref (h 0)), (1, .int (iI (s0 : Int))), (2, .int (iI (m0 : Int))), (3, .int (iI (cd : Int)))]) [0, 1, 2, 3] rfl ?_
  have hV3 := hk.2.2.2.1
  refine jr_iconst (pc := 0) hh dX3_fillInputs_0 ?_
  refine jr_istore (lv' := [(4, .int (iI 0)), (0, .ref (h 0)), (1, .int (iI (s0 : Int))), (2, .int (iI (m0 : Int))), (3, .int (iI (cd : Int)))]) (pc := 1) hh dX3_fillInputs_1 (by decide) rfl ?_
  refine jr_loc (lv' := [(0, .ref (h 0)), (1, .int (iI (s0 : Int))), (2, .int (iI (m0 : Int))), (3, .int (iI (cd : Int))), (4, .int (iI 0))]) [1, 2, 3, 4, 0] rfl ?_
  refine jr_lvset (a := 0) (b := (0 : Int)) (lv' := [(0, .ref (h 0)), (1, .int (iI (s0 : Int))), (2, .int (iI (m0 : Int))), (3, .int (iI (cd : Int))), (4, .int (iI (0 : Int)))]) 4 rfl (by first | rfl | omega) rfl ?_
  refine jr_ws (ws' := (wC G h (uF F 1 (F 1)) V)) rfl ?_
  refine jr_loop (σ := Nat × (Nat → Int)) (fun (x : Nat × (Nat → Int)) => match x with | (d0, inp) => ((d0 : Int) ≤ V 3) ∧ (∀ j : Nat, j < d0 → inp j = drvC F s0 m0 cd j) ∧ (okIn inp)) (fun (x : Nat × (Nat → Int)) => match x with | (d0, inp) => (V 3).toNat - d0) (fun (x : Nat × (Nat → Int)) => match x with | (d0, inp) => (wC G h (uF F 1 inp) V)) (fun (x : Nat × (Nat → Int)) => match x with | (d0, inp) => [(0, .ref (h 0)), (1, .int (iI (s0 : Int))), (2, .int (iI (m0 : Int))), (3, .int (iI (cd : Int))), (4, .int (iI (d0 : Int)))]) (fun (x : Nat × (Nat → Int)) => match x with | (d0, inp) => []) ?_ (0, (F 1)) ⟨by (try dsimp only); omega, fun j hj => absurd hj (Nat.not_lt_zero _), hk.2.2.2.2.2.2.2.2.2.2.1⟩
  rintro ⟨d0, inp⟩ ⟨hd, hfi, hok⟩ ih1
  dsimp only at ih1 ⊢
  try dsimp only at hd hfi hok
  refine jr_iload (pc := 3) hh 4 dX3_fillInputs_3 rfl ?_
  refine jr_aload_n (pc := 5) hh 0 dX3_fillInputs_5 rfl rfl ?_
  refine jr_get (v := .int (iI (V 3))) (pc := 6) hh in_X3_fillInputs_X3 0 rfl rfl 5 (by decide) (by decide +kernel : Cond.fieldLink RX3 41 (TX3 5).1 (TX3 5).2.1 (TX3 5).2.2.1 ∈ wsX3_fillInputs) rfl dX3_fillInputs_6 ?_
  refine jr_icmp_ge (tgt := 49) (pc := 9) hh dX3_fillInputs_9 (by decide) ⟨by omega, by omega⟩ ⟨by omega, by omega⟩ (fun c2 => ?_) (fun c2 => ?_)
  · skip
    exact jr_vret (pc := 49) hh hret ⟨rfl, inp, fun j hj => hfi j (by omega), hok, rfl⟩ (by decide) (by decide) dX3_fillInputs_49
  · skip
    refine jr_aload_n (pc := 12) hh 0 dX3_fillInputs_12 rfl rfl ?_
    refine jr_get (v := .ref (h 2)) (pc := 13) hh in_X3_fillInputs_X3 0 rfl rfl 4 (by decide) (by decide +kernel : Cond.fieldLink RX3 34 (TX3 4).1 (TX3 4).2.1 (TX3 4).2.2.1 ∈ wsX3_fillInputs) rfl dX3_fillInputs_13 ?_
    refine jr_iload (pc := 16) hh 4 dX3_fillInputs_16 rfl ?_
    refine jr_iload (pc := 18) hh 4 dX3_fillInputs_18 rfl ?_
    refine jr_iload_n (pc := 20) hh 3 dX3_fillInputs_20 rfl rfl ?_
    refine jr_icmp_ge (tgt := 35) (pc := 21) hh dX3_fillInputs_21 (by decide) ⟨by omega, by omega⟩ ⟨by omega, by omega⟩ (fun c3 => ?_) (fun c3 => ?_)
    · skip
      refine jr_aload_n (pc := 35) hh 0 dX3_fillInputs_35 rfl rfl ?_
      refine jr_get (v := .ref (h 1)) (pc := 36) hh in_X3_fillInputs_X3 0 rfl rfl 0 (by decide) (by decide +kernel : Cond.fieldLink RX3 9 (TX3 0).1 (TX3 0).2.1 (TX3 0).2.2.1 ∈ wsX3_fillInputs) rfl dX3_fillInputs_36 ?_
      refine jr_iload (pc := 39) hh 4 dX3_fillInputs_39 rfl ?_
      refine jr_iald (F := (F 0)) (pc := 41) hh 1 rfl d0 (by omega) (by omega) (by decide) dX3_fillInputs_41 ?_
      refine jr_iast (F := inp) (ws' := (wC G h (uF F 1 (jU inp d0 ((F 0) d0))) V)) (pc := 42) hh 2 rfl d0 (by omega) (by omega) (by decide) rfl dX3_fillInputs_42 ?_
      refine jr_iinc (a := (d0 : Int)) (b := (((d0 + 1) : Nat) : Int)) (lv' := [(4, .int (iI (((d0 + 1) : Nat) : Int))), (0, .ref (h 0)), (1, .int (iI (s0 : Int))), (2, .int (iI (m0 : Int))), (3, .int (iI (cd : Int)))]) (pc := 43) hh 4 dX3_fillInputs_43 rfl (by omega) (by decide) rfl ?_
      refine jr_goto (tgt := 3) (pc := 46) hh dX3_fillInputs_46 (by decide) ?_
      have hv1 : (jU inp d0 ((F 0) d0)) d0 = drvC F s0 m0 cd d0 := by rw [jU_s]; unfold drvC; rw [if_neg (by omega)]
      have hnew : ∀ j : Nat, j < d0 + 1 → (jU inp d0 ((F 0) d0)) j = drvC F s0 m0 cd j := by
        intro j hj
        by_cases hq : j = d0
        · subst hq; exact hv1
        · rw [jU_n hq]; exact hfi j (by omega)
      have hok2 : okIn (jU inp d0 ((F 0) d0)) := by
        intro j hj
        by_cases hq : j = d0
        · subst hq; rw [hv1]; have := drvC_B hk (cd := cd) hs (d := j) (m := m0) hj hm; omega
        · rw [jU_n hq]; exact hok j hj
      refine jr_loc (lv' := [(0, .ref (h 0)), (1, .int (iI (s0 : Int))), (2, .int (iI (m0 : Int))), (3, .int (iI (cd : Int))), (4, .int (iI (((d0 + 1) : Nat) : Int)))]) [1, 2, 3, 4, 0] rfl ?_
      exact ih1 ((d0 + 1), (jU inp d0 ((F 0) d0))) ⟨by (try dsimp only); omega, hnew, hok2⟩ (by (try dsimp only); omega)
    · skip
      refine jr_aload_n (pc := 24) hh 0 dX3_fillInputs_24 rfl rfl ?_
      refine jr_iload_n (pc := 25) hh 1 dX3_fillInputs_25 rfl rfl ?_
      refine jr_iload (pc := 26) hh 4 dX3_fillInputs_26 rfl ?_
      refine jr_iload_n (pc := 28) hh 2 dX3_fillInputs_28 rfl rfl ?_
      refine jr_callV (pc := 29) hh [.int (iI (s0 : Int)), .int (iI (d0 : Int)), .int (iI (m0 : Int))] [.int (iI (d0 : Int)), .ref (h 2)] (c_X3_valueIn l G h (uF F 1 inp) V s0 d0 m0 (okC_scr hk (scr_1 hok)) hs (by omega) hm) gX3_fillInputs_X3_valueIn rfl (by decide) (by decide) [0, 1, 2, 3, 4, 5, 6, 7, 8, 9, 10, 11, 12, 13, 14, 15, 16, 17] [] rfl rfl rfl rfl (by decide) 0 rfl rfl 3 rfl rfl (Nat.le_of_ble_eq_true rfl) (by decide +kernel) dX3_fillInputs_29 (fun rvu4 wu4 hu4 => ?_)
      obtain ⟨rfl, rfl⟩ := hu4
      refine jr_perm (ws' := (wC G h (uF F 1 inp) V)) (st := [.int (iI (valC F s0 d0 m0)), .int (iI (d0 : Int)), .ref (h 2)]) [0, 1, 2, 3, 4, 5, 6, 7, 8, 9, 10, 11, 12, 13, 14, 15, 16, 17] rfl rfl ?_
      refine jr_goto (tgt := 42) (pc := 32) hh dX3_fillInputs_32 (by decide) ?_
      refine jr_iast (F := inp) (ws' := (wC G h (uF F 1 (jU inp d0 (valC F s0 d0 m0))) V)) (pc := 42) hh 2 rfl d0 (by omega) (by omega) (by decide) rfl dX3_fillInputs_42 ?_
      refine jr_iinc (a := (d0 : Int)) (b := (((d0 + 1) : Nat) : Int)) (lv' := [(4, .int (iI (((d0 + 1) : Nat) : Int))), (0, .ref (h 0)), (1, .int (iI (s0 : Int))), (2, .int (iI (m0 : Int))), (3, .int (iI (cd : Int)))]) (pc := 43) hh 4 dX3_fillInputs_43 rfl (by omega) (by decide) rfl ?_
      refine jr_goto (tgt := 3) (pc := 46) hh dX3_fillInputs_46 (by decide) ?_
      have hv1 : (jU inp d0 (valC F s0 d0 m0)) d0 = drvC F s0 m0 cd d0 := by rw [jU_s]; unfold drvC; rw [if_pos (by omega)]
      have hnew : ∀ j : Nat, j < d0 + 1 → (jU inp d0 (valC F s0 d0 m0)) j = drvC F s0 m0 cd j := by
        intro j hj
        by_cases hq : j = d0
        · subst hq; exact hv1
        · rw [jU_n hq]; exact hfi j (by omega)
      have hok2 : okIn (jU inp d0 (valC F s0 d0 m0)) := by
        intro j hj
        by_cases hq : j = d0
        · subst hq; rw [hv1]; have := drvC_B hk (cd := cd) hs (d := j) (m := m0) hj hm; omega
        · rw [jU_n hq]; exact hok j hj
      refine jr_loc (lv' := [(0, .ref (h 0)), (1, .int (iI (s0 : Int))), (2, .int (iI (m0 : Int))), (3, .int (iI (cd : Int))), (4, .int (iI (((d0 + 1) : Nat) : Int)))]) [1, 2, 3, 4, 0] rfl ?_
      exact ih1 ((d0 + 1), (jU inp d0 (valC F s0 d0 m0))) ⟨by (try dsimp only); omega, hnew, hok2⟩ (by (try dsimp only); omega)
theorem lnC_nmC {F : Nat → Nat → Int} {V : Nat → Int} {F9 : Nat → Nat → Int} {s m cd i : Nat} (hk : okC F V) (h5 : F9 0 = F 5) (h6 : F9 1 = F 6) (h7 : F9 2 = F 7) (h8 : F9 3 = F 8) (h1 : ∀ j : Nat, (j : Int) < V 3 → F9 6 j = drvC F s m cd j) (hi : (i : Int) < V 2) : lnC F9 m i = nmC F s m cd i := by
  have hL := hk.2.2.2.2.2.2.2.2.1
  unfold lnC nmC
  rw [h5, h6, h7, h8]
  refine lnum_congr (n := i + 1) (fun j hj => (hL j (by omega)).2.2) (fun _ _ => rfl) (fun _ _ => rfl) (fun _ _ => rfl) (fun _ _ _ => rfl) (fun j hj hd => ?_) i (by omega)
  have := (hL j (by omega)).2.1 hd
  exact h1 _ (by omega)
theorem okL_C {F : Nat → Nat → Int} {V : Nat → Int} (hk : okC F V) : ∀ i : Nat, (i : Int) < V 2 → (0 ≤ F 5 i ∧ F 5 i ≤ 65535) ∧ (F 5 i = 100 → 0 ≤ F 6 i ∧ F 6 i < 6) ∧ (F 5 i ≠ 100 → (0 ≤ F 6 i ∧ F 6 i < i) ∧ (0 ≤ F 7 i ∧ F 7 i < i)) := fun i hi => by
  have h := hk.2.2.2.2.2.2.2.2.1 i hi
  have h3 := hk.2.2.2.1
  exact ⟨h.1, fun q => by have := h.2.1 q; omega, h.2.2⟩
set_option maxRecDepth 20000 in
theorem in_X3_numberIn_X3 : ∀ w ∈ u_ws RX3 TX3 7, w ∈ wsX3_numberIn := by decide +kernel
set_option maxHeartbeats 4000000 in
set_option maxRecDepth 100000 in
theorem c_X3_numberIn (l : Launch) (G : jG) (h : Nat → Nat) (F : Nat → Nat → Int) (V : Nat → Int) (s0 i m0 cd : Nat) (hk : okC F V) (hs : (s0 : Int) < V 0) (hi : (i : Int) < V 2) (hm : m0 < 12) (hcd : cd ≤ 6) : jMet l yX3_numberIn wsX3_numberIn { frames := 5, cells := 0, slots := 0, locals := 240 } G (wC G h F V) [.ref (h 0), .int (iI (s0 : Int)), .int (iI (i : Int)), .int (iI (m0 : Int)), .int (iI (cd : Int))] (fun rv w1 => rv = some (.int (iI (enc (nmC F s0 m0 cd i)))) ∧ ∃ F' : Nat → Nat → Int, scr F F' ∧ w1 = wC G h F' V) := by
  refine jMet_of (cc := cX3_numberIn) (maxL := 5) (ret := (some .int)) (by decide +kernel) rfl (Nat.le_of_ble_eq_true rfl) ?_
  intro p e s m args below meth c A hh hret hinit
  refine jr_loc (lv' := [(0, .ref (h 0)), (1, .int (iI (s0 : Int))), (2, .int (iI (i : Int))), (3, .int (iI (m0 : Int))), (4, .int (iI (cd : Int)))]) [0, 1, 2, 3, 4] rfl ?_
  refine jr_aload_n (pc := 0) hh 0 dX3_numberIn_0 rfl rfl ?_
  refine jr_iload_n (pc := 1) hh 1 dX3_numberIn_1 rfl rfl ?_
  refine jr_iload_n (pc := 2) hh 3 dX3_numberIn_2 rfl rfl ?_
  refine jr_iload (pc := 3) hh 4 dX3_numberIn_3 rfl ?_
  refine jr_callV (pc := 5) hh [.int (iI (s0 : Int)), .int (iI (m0 : Int)), .int (iI (cd : Int))] [] (c_X3_fillInputs l G h F V s0 m0 cd hk (by omega) (by omega) (by omega)) gX3_numberIn_X3_fillInputs rfl (by decide) (by decide) [0, 1, 2, 3, 4, 5, 6, 7, 8, 9, 10, 11, 12, 13, 14, 15, 16, 17] [] rfl rfl rfl rfl (by decide) 0 rfl rfl 3 rfl rfl (Nat.le_of_ble_eq_true rfl) (by decide +kernel) dX3_numberIn_5 (fun rvu2 wu2 hu2 => ?_)
  obtain ⟨rfl, inp1, hfinp1, hoinp1, rfl⟩ := hu2
  refine jr_perm (ws' := (wC G h (uF F 1 inp1) V)) (st := []) [0, 1, 2, 3, 4, 5, 6, 7, 8, 9, 10, 11, 12, 13, 14, 15, 16, 17] rfl rfl ?_
  refine jr_aload_n (pc := 8) hh 0 dX3_numberIn_8 rfl rfl ?_
  refine jr_get (v := .ref (h 7)) (pc := 9) hh in_X3_numberIn_X3 0 rfl rfl 2 (by decide) (by decide +kernel : Cond.fieldLink RX3 23 (TX3 2).1 (TX3 2).2.1 (TX3 2).2.2.1 ∈ wsX3_numberIn) rfl dX3_numberIn_9 ?_
  refine jr_iload_n (pc := 12) hh 2 dX3_numberIn_12 rfl rfl ?_
  refine jr_iload_n (pc := 13) hh 3 dX3_numberIn_13 rfl rfl ?_
  refine jr_callVN (pc := 14) hh [.int (iI (i : Int)), .int (iI (m0 : Int))] [] (c_X1_markNeeded l G (fun k => h (7 + k)) (fun k => (uF F 1 inp1) (5 + k)) (fun k => V (2 + k)) i m0 (by omega) hk.2.2.1 (okL_C (F := F) (V := V) hk) hk.2.2.2.2.2.2.2.2.2.1 hi) gX3_numberIn_X1_markNeeded_n109 rfl (by decide +kernel) (by decide +kernel) (by decide +kernel) (by decide +kernel) (by decide) (by decide) [7, 8, 9, 10, 11, 12, 13] [0, 1, 2, 3, 4, 5, 6, 14, 15, 16, 17] rfl rfl rfl rfl (by decide) 0 rfl rfl 2 rfl rfl (Nat.le_of_ble_eq_true rfl) (by decide +kernel) dX3_numberIn_14 (fun rvu4 wu4 hu4 => ?_)
  obtain ⟨rfl, nd3, hcnd3, rfl⟩ := hu4
  refine jr_perm (ws' := (wC G h (uF (uF F 1 inp1) 9 nd3) V)) (st := []) [0, 1, 2, 3, 4, 5, 6, 11, 12, 13, 14, 15, 16, 17, 7, 8, 9, 10] rfl rfl ?_
  refine jr_aload_n (pc := 17) hh 0 dX3_numberIn_17 rfl rfl ?_
  refine jr_get (v := .ref (h 7)) (pc := 18) hh in_X3_numberIn_X3 0 rfl rfl 2 (by decide) (by decide +kernel : Cond.fieldLink RX3 23 (TX3 2).1 (TX3 2).2.1 (TX3 2).2.2.1 ∈ wsX3_numberIn) rfl dX3_numberIn_18 ?_
  refine jr_iload_n (pc := 21) hh 2 dX3_numberIn_21 rfl rfl ?_
  refine jr_iload_n (pc := 22) hh 3 dX3_numberIn_22 rfl rfl ?_
  refine jr_aload_n (pc := 23) hh 0 dX3_numberIn_23 rfl rfl ?_
  refine jr_get (v := .ref (h 2)) (pc := 24) hh in_X3_numberIn_X3 0 rfl rfl 4 (by decide) (by decide +kernel : Cond.fieldLink RX3 34 (TX3 4).1 (TX3 4).2.1 (TX3 4).2.2.1 ∈ wsX3_numberIn) rfl dX3_numberIn_24 ?_
  refine jr_callVN (pc := 27) hh [.int (iI (i : Int)), .int (iI (m0 : Int)), .ref (h 2)] [] (c_X1_findNeeded l G (fun k => if k = 7 then h 2 else h (7 + k)) (fun k => if k = 6 then (uF (uF F 1 inp1) 9 nd3) 1 else (uF (uF F 1 inp1) 9 nd3) (5 + k)) (fun k => V (2 + k)) i m0 (by omega) hk.2.2.1 (okL_C (F := F) (V := V) hk) hk.2.2.2.2.2.2.2.2.2.1 hoinp1 hi hcnd3) gX3_numberIn_X1_findNeeded_n113 rfl (by decide +kernel) (by decide +kernel) (by decide +kernel) (by decide +kernel) (by decide) (by decide) [7, 8, 9, 10, 11, 12, 13, 2] [0, 1, 3, 4, 5, 6, 14, 15, 16, 17] rfl rfl rfl rfl (by decide) 0 rfl rfl 3 rfl rfl (Nat.le_of_ble_eq_true rfl) (by decide +kernel) dX3_numberIn_27 (fun rvu6 wu6 hu6 => ?_)
  obtain ⟨rfl, nm5, rfl⟩ := hu6
  refine jr_perm (ws' := (wC G h (uF (uF (uF F 1 inp1) 9 nd3) 10 nm5) V)) (st := [.int (iI (enc (lnC (fun k => if k = 6 then (uF (uF F 1 inp1) 9 nd3) 1 else (uF (uF F 1 inp1) 9 nd3) (5 + k)) m0 i)))]) [0, 1, 17, 2, 3, 4, 5, 10, 11, 12, 13, 14, 15, 16, 6, 7, 8, 9] rfl rfl ?_
  exact jr_iret (pc := 30) hh hret rfl ⟨jsi (congrArg enc (lnC_nmC hk rfl rfl rfl rfl hfinp1 hi)), _, scr_10 (scr_9 (scr_1 hoinp1)), rfl⟩ (by decide) (by decide) dX3_numberIn_30
