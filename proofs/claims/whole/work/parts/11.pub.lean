/-! CostStudio's public methods, more of them -/
theorem jnarC {v : Int} (h : 0 ≤ v ∧ v ≤ 65535) : narrow .char (.int (iI v)) = .int (iI v) := by
  have e : iI v = nI v.toNat := by
    show Int32.ofInt v = Int32.ofNat v.toNat
    rw [← Int32.ofInt_eq_ofNat, Int.toNat_of_nonneg h.1]
  rw [e]
  exact (pk_charN (q := v.toNat) (by omega)).1
/-- the first place below n where f is 1; -1 where there is none -/
def fstP (f : Nat → Int) : Nat → Int
  | 0 => -1
  | n + 1 => if 0 ≤ fstP f n then fstP f n else if f n = 1 then (n : Int) else -1
theorem fstP_s (f : Nat → Int) (n : Nat) : fstP f (n + 1) = if 0 ≤ fstP f n then fstP f n else if f n = 1 then (n : Int) else -1 := rfl
theorem fstP_B (f : Nat → Int) (n : Nat) : -1 ≤ fstP f n ∧ fstP f n < n := by
  induction n with
  | zero => exact ⟨Int.le_refl _, (by decide : (-1 : Int) < 0)⟩
  | succ n ih => rw [fstP_s]; split; omega; split <;> omega
theorem fstP_up {f : Nat → Int} {n : Nat} (h : 0 ≤ fstP f n) : ∀ k : Nat, fstP f (n + k) = fstP f n := by
  intro k
  induction k with
  | zero => rfl
  | succ k ih => rw [Nat.add_succ, fstP_s, ih, if_pos h]
def skX (F : Nat → Nat → Int) (d t i w : Nat) : Option Int := lnum (actC (F 8) t) (F 5) (F 6) (F 7) (jU (F 0) d (w : Int)) i
def skP (F : Nat → Nat → Int) (d t i : Nat) (goal : Int) (w : Nat) : Int := if enc (skX F d t i w) ≠ -1000000000 ∧ goal ≤ enc (skX F d t i w) then 1 else 0
theorem valC_0 (F : Nat → Nat → Int) (d t : Nat) : valC F 0 d t = F 0 d := by
  unfold valC
  rw [chS_0 (by decide), Int.add_zero]
theorem drvC_0 (F : Nat → Nat → Int) (t cd d : Nat) : drvC F 0 t cd d = F 0 d := by
  unfold drvC
  rw [valC_0]
  split <;> rfl
set_option maxRecDepth 20000 in
theorem in_X3_addScenario_X3 : ∀ w ∈ u_ws RX3 TX3 7, w ∈ wsX3_addScenario := by decide +kernel
set_option maxRecDepth 20000 in
theorem in_X3_addScenario_X2 : ∀ w ∈ u_ws RX2 TX2 5, w ∈ wsX3_addScenario := by decide +kernel
set_option maxHeartbeats 4000000 in
set_option maxRecDepth 100000 in
theorem c_X3_addScenario (l : Launch) (G : jG) (h : Nat → Nat) (F : Nat → Nat → Int) (V : Nat → Int) (pr : Nat) (hk : okC F V) (hp : (pr : Int) < V 0) (hf : V 0 < 4) : jMet l yX3_addScenario wsX3_addScenario { frames := 7, cells := 0, slots := 0, locals := 400 } G (wC G h F V) [.ref (h 0), .int (iI (pr : Int))] (fun rv w1 => rv = some (.int (iI (V 0))) ∧ w1 = wC G h (uF F 2 (jU (F 2) (V 0).toNat (pr : Int))) (jU V 0 (V 0 + 1))) := by
  refine jMet_of (cc := cX3_addScenario) (maxL := 2) (ret := (some .int)) (by decide +kernel) rfl (Nat.le_of_ble_eq_true rfl) ?_
  intro p e s m args below meth c A hh hret hinit
  refine jr_loc (lv' := [(0, .ref (h 0)), (1, .int (iI (pr : Int)))]) [0, 1] rfl ?_
  obtain ⟨hV0, hV1, hV2, hV3, hV4, -⟩ := id hk
  refine jr_aload_n (pc := 0) hh 0 dX3_addScenario_0 rfl rfl ?_
  refine jr_iload_n (pc := 1) hh 1 dX3_addScenario_1 rfl rfl ?_
  refine jr_callV (pc := 2) hh [.int (iI (pr : Int))] [] (c_X3_requireScenario l G h F V (pr : Int) (by omega) (by omega)) gX3_addScenario_X3_requireScenario rfl (by decide) (by decide) [0, 1, 2, 3, 4, 5, 6, 7, 8, 9, 10, 11, 12, 13, 14, 15, 16, 17] [] rfl rfl rfl rfl (by decide) 0 rfl rfl 1 rfl rfl (Nat.le_of_ble_eq_true rfl) (by decide +kernel) dX3_addScenario_2 (fun rvu1 wu1 hu1 => ?_)
  obtain ⟨rfl, rfl⟩ := hu1
  refine jr_perm (ws' := (wC G h F V)) (st := []) [0, 1, 2, 3, 4, 5, 6, 7, 8, 9, 10, 11, 12, 13, 14, 15, 16, 17] rfl rfl ?_
  refine jr_aload_n (pc := 5) hh 0 dX3_addScenario_5 rfl rfl ?_
  refine jr_get (v := .ref (h 3)) (pc := 6) hh in_X3_addScenario_X3 0 rfl rfl 1 (by decide) (by decide +kernel : Cond.fieldLink RX3 16 (TX3 1).1 (TX3 1).2.1 (TX3 1).2.2.1 ∈ wsX3_addScenario) rfl dX3_addScenario_6 ?_
  refine jr_getN (v := .int (iI (V 0))) (pc := 9) hh in_X3_addScenario_X2 3 rfl rfl 3 (by decide) rfl (by decide +kernel) rfl dX3_addScenario_9 ?_
  refine jr_iconst (pc := 12) hh dX3_addScenario_12 ?_
  refine jr_icmp_lt (tgt := 24) (pc := 13) hh dX3_addScenario_13 (by decide) ⟨by omega, by omega⟩ ⟨by omega, by omega⟩ (fun c2 => ?_) (fun c2 => ?_)
  · skip
    refine jr_aload_n (pc := 24) hh 0 dX3_addScenario_24 rfl rfl ?_
    refine jr_get (v := .ref (h 3)) (pc := 25) hh in_X3_addScenario_X3 0 rfl rfl 1 (by decide) (by decide +kernel : Cond.fieldLink RX3 16 (TX3 1).1 (TX3 1).2.1 (TX3 1).2.2.1 ∈ wsX3_addScenario) rfl dX3_addScenario_25 ?_
    refine jr_iload_n (pc := 28) hh 1 dX3_addScenario_28 rfl rfl ?_
    refine jr_callVN (pc := 29) hh [.int (iI (pr : Int))] [] (c_X2_add l G (fun k => h (3 + k)) (fun k => F (2 + k)) V (pr : Int) ⟨(by show 0 ≤ V 0; omega), (by show V 0 < 4; omega)⟩) gX3_addScenario_X2_add_n79 rfl (by decide +kernel) (by decide +kernel) (by decide +kernel) (by decide +kernel) (by decide) (by decide) [3, 4, 5, 6] [0, 1, 2, 7, 8, 9, 10, 11, 12, 13, 14, 15, 16, 17] rfl rfl rfl rfl (by decide) 0 rfl rfl 1 rfl rfl (Nat.le_of_ble_eq_true rfl) (by decide +kernel) dX3_addScenario_29 (fun rvu3 wu3 hu3 => ?_)
    obtain ⟨rfl, rfl⟩ := hu3
    refine jr_perm (ws' := (wC G h (uF F 2 (jU (F 2) (V 0).toNat (pr : Int))) (jU V 0 (V 0 + 1)))) (st := [.int (iI (V 0))]) [0, 1, 2, 14, 15, 16, 17, 3, 4, 5, 6, 7, 8, 9, 10, 11, 12, 13] rfl rfl ?_
    exact jr_iret (pc := 32) hh hret rfl ⟨rfl, rfl⟩ (by decide) (by decide) dX3_addScenario_32
  · skip
    exfalso
    omega
set_option maxRecDepth 20000 in
theorem tw_X3_addScenario_47 : ∀ w ∈ (vx_at0 RX3 47 "java/lang/IllegalStateException" ["java/lang/RuntimeException", "java/lang/Exception"]).filter goodWord, w ∈ wsX3_addScenario := by decide +kernel
set_option maxHeartbeats 4000000 in
set_option maxRecDepth 100000 in
theorem t_X3_addScenario (l : Launch) (G : jG) (h : Nat → Nat) (F : Nat → Nat → Int) (V : Nat → Int) (pr : Int) (hrpr : jR pr) (hk : okC F V) (hcd : cdAddScenario (V 0) pr ≠ 0) (hlt : l.stackTraces = false) : jThr l yX3_addScenario wsX3_addScenario { frames := 8, cells := 1, slots := 6, locals := 520 } G (wC G h F V) [.ref (h 0), .int (iI pr)] (fun E w1 => ((cdAddScenario (V 0) pr = 1 ∧ E = "java/lang/IndexOutOfBoundsException") ∨ (cdAddScenario (V 0) pr = 2 ∧ E = "java/lang/IllegalStateException")) ∧ w1 = wC G h F V) := by
  refine jThr_of (cc := cX3_addScenario) (maxL := 2) (ret := (some .int)) (by decide +kernel) rfl (Nat.le_of_ble_eq_true rfl) ?_
  intro p e s m args below meth c A hh htab
  refine jr_loc (lv' := [(0, .ref (h 0)), (1, .int (iI pr))]) [0, 1] rfl ?_
  obtain ⟨hV0, hV1, hV2, hV3, hV4, -⟩ := id hk
  have hrpr1 := hrpr.1
  have hrpr2 := hrpr.2
  refine jr_aload_n (pc := 0) hh 0 dX3_addScenario_0 rfl rfl ?_
  refine jr_iload_n (pc := 1) hh 1 dX3_addScenario_1 rfl rfl ?_
  by_cases q1 : 0 ≤ pr ∧ pr < V 0
  · skip
    obtain ⟨prN, rfl⟩ : ∃ k : Nat, pr = (k : Int) := ⟨pr.toNat, by omega⟩
    refine jr_callV (pc := 2) hh [.int (iI (prN : Int))] [] (c_X3_requireScenario l G h F V (prN : Int) (by omega) (by omega)) gX3_addScenario_X3_requireScenario rfl (by decide) (by decide) [0, 1, 2, 3, 4, 5, 6, 7, 8, 9, 10, 11, 12, 13, 14, 15, 16, 17] [] rfl rfl rfl rfl (by decide) 0 rfl rfl 1 rfl rfl (Nat.le_of_ble_eq_true rfl) (by decide +kernel) dX3_addScenario_2 (fun rvu2 wu2 hu2 => ?_)
    obtain ⟨rfl, rfl⟩ := hu2
    refine jr_perm (ws' := (wC G h F V)) (st := []) [0, 1, 2, 3, 4, 5, 6, 7, 8, 9, 10, 11, 12, 13, 14, 15, 16, 17] rfl rfl ?_
    refine jr_aload_n (pc := 5) hh 0 dX3_addScenario_5 rfl rfl ?_
    refine jr_get (v := .ref (h 3)) (pc := 6) hh in_X3_addScenario_X3 0 rfl rfl 1 (by decide) (by decide +kernel : Cond.fieldLink RX3 16 (TX3 1).1 (TX3 1).2.1 (TX3 1).2.2.1 ∈ wsX3_addScenario) rfl dX3_addScenario_6 ?_
    refine jr_getN (v := .int (iI (V 0))) (pc := 9) hh in_X3_addScenario_X2 3 rfl rfl 3 (by decide) rfl (by decide +kernel) rfl dX3_addScenario_9 ?_
    refine jr_iconst (pc := 12) hh dX3_addScenario_12 ?_
    refine jr_icmp_lt (tgt := 24) (pc := 13) hh dX3_addScenario_13 (by decide) ⟨by omega, by omega⟩ ⟨by omega, by omega⟩ (fun c3 => ?_) (fun c3 => ?_)
    · skip
      exfalso
      unfold cdAddScenario at hcd
      omega
    · skip
      exact jr_throw (pc := 16) hh hlt htab (cls := "java/lang/IllegalStateException") (names := ["java/lang/RuntimeException", "java/lang/Exception"]) (by decide +kernel) (by decide +kernel) (by decide +kernel) (by decide +kernel) tw_X3_addScenario_47 tb_47 (by decide) tg_47 dX3_addScenario_16 dX3_addScenario_19 dX3_addScenario_20 dX3_addScenario_23 ⟨Nat.le_of_ble_eq_true rfl, Nat.le_of_ble_eq_true rfl, Nat.le_of_ble_eq_true rfl, Nat.le_of_ble_eq_true rfl⟩ (Nat.le_of_ble_eq_true rfl) (Nat.le_of_ble_eq_true rfl) ⟨Or.inr (⟨by unfold cdAddScenario; omega, rfl⟩), rfl⟩
  · skip
    exact jr_tcallV (pc := 2) hh [.int (iI pr)] [] (t_X3_requireScenario l G h F V pr ⟨by omega, by omega⟩ q1 (by omega) hlt) gX3_addScenario_X3_requireScenario rfl (by decide) (by decide) [0, 1, 2, 3, 4, 5, 6, 7, 8, 9, 10, 11, 12, 13, 14, 15, 16, 17] [] rfl rfl rfl rfl (by decide) 0 rfl rfl 1 rfl rfl (Nat.le_of_ble_eq_true rfl) (by decide +kernel) (fun E w1 hx => by obtain ⟨rfl, rfl⟩ := hx; exact ⟨Or.inl ⟨by unfold cdAddScenario; omega, rfl⟩, rfl⟩) htab (by decide) (by decide) dX3_addScenario_2
set_option maxRecDepth 20000 in
theorem in_X3_differ_X3 : ∀ w ∈ u_ws RX3 TX3 7, w ∈ wsX3_differ := by decide +kernel
set_option maxRecDepth 20000 in
theorem in_X3_differ_X2 : ∀ w ∈ u_ws RX2 TX2 5, w ∈ wsX3_differ := by decide +kernel
set_option maxHeartbeats 4000000 in
set_option maxRecDepth 100000 in
theorem c_X3_differ (l : Launch) (G : jG) (h : Nat → Nat) (F : Nat → Nat → Int) (V : Nat → Int) (s0 d t : Nat) (x : Int) (hk : okC F V) (hs : (s0 : Int) < V 0) (hd : (d : Int) < V 3) (ht : t < 12) (hx : -999 ≤ x ∧ x ≤ 999) (hs0 : s0 ≠ 0) (hf : V 1 < 12) : jMet l yX3_differ wsX3_differ { frames := 7, cells := 0, slots := 0, locals := 400 } G (wC G h F V) [.ref (h 0), .int (iI (s0 : Int)), .int (iI (d : Int)), .int (iI (t : Int)), .int (iI x)] (fun rv w1 => rv = some (.int (iI (F 3 s0 + 1))) ∧ w1 = wC G h (uF (uF F 3 (jU (F 3) s0 (F 3 s0 + 1))) 4 (adU (F 4) (s0 * 6 + d) t 12 x)) (jU V 1 (V 1 + 1))) := by
  refine jMet_of (cc := cX3_differ) (maxL := 5) (ret := (some .int)) (by decide +kernel) rfl (Nat.le_of_ble_eq_true rfl) ?_
  intro p e s m args below meth c A hh hret hinit
  refine jr_loc (lv' := [(0, .ref (h 0)), (1, .int (iI (s0 : Int))), (2, .int (iI (d : Int))), (3, .int (iI (t : Int))), (4, .int (iI x))]) [0, 1, 2, 3, 4] rfl ?_
  obtain ⟨hV0, hV1, hV2, hV3, hV4, -⟩ := id hk
  refine jr_aload_n (pc := 0) hh 0 dX3_differ_0 rfl rfl ?_
  refine jr_iload_n (pc := 1) hh 1 dX3_differ_1 rfl rfl ?_
  refine jr_callV (pc := 2) hh [.int (iI (s0 : Int))] [] (c_X3_requireScenario l G h F V (s0 : Int) (by omega) (by omega)) gX3_differ_X3_requireScenario rfl (by decide) (by decide) [0, 1, 2, 3, 4, 5, 6, 7, 8, 9, 10, 11, 12, 13, 14, 15, 16, 17] [] rfl rfl rfl rfl (by decide) 0 rfl rfl 1 rfl rfl (Nat.le_of_ble_eq_true rfl) (by decide +kernel) dX3_differ_2 (fun rvu1 wu1 hu1 => ?_)
  obtain ⟨rfl, rfl⟩ := hu1
  refine jr_perm (ws' := (wC G h F V)) (st := []) [0, 1, 2, 3, 4, 5, 6, 7, 8, 9, 10, 11, 12, 13, 14, 15, 16, 17] rfl rfl ?_
  refine jr_aload_n (pc := 5) hh 0 dX3_differ_5 rfl rfl ?_
  refine jr_iload_n (pc := 6) hh 2 dX3_differ_6 rfl rfl ?_
  refine jr_callV (pc := 7) hh [.int (iI (d : Int))] [] (c_X3_requireDriver l G h F V (d : Int) (by omega) (by omega)) gX3_differ_X3_requireDriver rfl (by decide) (by decide) [0, 1, 2, 3, 4, 5, 6, 7, 8, 9, 10, 11, 12, 13, 14, 15, 16, 17] [] rfl rfl rfl rfl (by decide) 0 rfl rfl 1 rfl rfl (Nat.le_of_ble_eq_true rfl) (by decide +kernel) dX3_differ_7 (fun rvu2 wu2 hu2 => ?_)
  obtain ⟨rfl, rfl⟩ := hu2
  refine jr_perm (ws' := (wC G h F V)) (st := []) [0, 1, 2, 3, 4, 5, 6, 7, 8, 9, 10, 11, 12, 13, 14, 15, 16, 17] rfl rfl ?_
  refine jr_iload_n (pc := 10) hh 3 dX3_differ_10 rfl rfl ?_
  refine jr_callS (pc := 11) hh [.int (iI (t : Int))] [] (c_X3_requireMonth l G (t : Int) (by omega)) gX3_differ_X3_requireMonth rfl (by decide) (by decide) [] [0, 1, 2, 3, 4, 5, 6, 7, 8, 9, 10, 11, 12, 13, 14, 15, 16, 17] rfl rfl rfl rfl (by decide) 1 rfl rfl (Nat.le_of_ble_eq_true rfl) (by decide +kernel) dX3_differ_11 (fun rvu3 wu3 hu3 => ?_)
  obtain ⟨rfl, rfl⟩ := hu3
  refine jr_perm (ws' := (wC G h F V)) (st := []) [0, 1, 2, 3, 4, 5, 6, 7, 8, 9, 10, 11, 12, 13, 14, 15, 16, 17] rfl rfl ?_
  refine jr_iload (pc := 14) hh 4 dX3_differ_14 rfl ?_
  refine jr_sipush (pc := 16) hh dX3_differ_16 (by decide) ?_
  refine jr_icmp_lt (tgt := 30) (pc := 19) hh dX3_differ_19 (by decide) ⟨by omega, by omega⟩ ⟨by omega, by omega⟩ (fun c4 => ?_) (fun c4 => ?_)
  · skip
    exfalso
    omega
  · skip
    refine jr_iload (pc := 22) hh 4 dX3_differ_22 rfl ?_
    refine jr_sipush (pc := 24) hh dX3_differ_24 (by decide) ?_
    refine jr_icmp_le (tgt := 38) (pc := 27) hh dX3_differ_27 (by decide) ⟨by omega, by omega⟩ ⟨by omega, by omega⟩ (fun c5 => ?_) (fun c5 => ?_)
    · skip
      refine jr_iload_n (pc := 38) hh 1 dX3_differ_38 rfl rfl ?_
      refine jr_if_ne (tgt := 50) (pc := 39) hh dX3_differ_39 (by decide) ⟨by omega, by omega⟩ (fun c6 => ?_) (fun c6 => ?_)
      · skip
        refine jr_aload_n (pc := 50) hh 0 dX3_differ_50 rfl rfl ?_
        refine jr_get (v := .ref (h 3)) (pc := 51) hh in_X3_differ_X3 0 rfl rfl 1 (by decide) (by decide +kernel : Cond.fieldLink RX3 16 (TX3 1).1 (TX3 1).2.1 (TX3 1).2.2.1 ∈ wsX3_differ) rfl dX3_differ_51 ?_
        refine jr_getN (v := .int (iI (V 1))) (pc := 54) hh in_X3_differ_X2 3 rfl rfl 4 (by decide) rfl (by decide +kernel) rfl dX3_differ_54 ?_
        refine jr_bipush (pc := 57) hh dX3_differ_57 (by decide) ?_
        refine jr_icmp_lt (tgt := 70) (pc := 59) hh dX3_differ_59 (by decide) ⟨by omega, by omega⟩ ⟨by omega, by omega⟩ (fun c7 => ?_) (fun c7 => ?_)
        · skip
          refine jr_aload_n (pc := 70) hh 0 dX3_differ_70 rfl rfl ?_
          refine jr_get (v := .ref (h 3)) (pc := 71) hh in_X3_differ_X3 0 rfl rfl 1 (by decide) (by decide +kernel : Cond.fieldLink RX3 16 (TX3 1).1 (TX3 1).2.1 (TX3 1).2.2.1 ∈ wsX3_differ) rfl dX3_differ_71 ?_
          refine jr_iload_n (pc := 74) hh 1 dX3_differ_74 rfl rfl ?_
          refine jr_iload_n (pc := 75) hh 2 dX3_differ_75 rfl rfl ?_
          refine jr_iload_n (pc := 76) hh 3 dX3_differ_76 rfl rfl ?_
          refine jr_iload (pc := 77) hh 4 dX3_differ_77 rfl ?_
          refine jr_callVN (pc := 79) hh [.int (iI (s0 : Int)), .int (iI (d : Int)), .int (iI (t : Int)), .int (iI x)] [] (c_X2_addDifference l G (fun k => h (3 + k)) (fun k => F (2 + k)) V s0 d t x (by omega) (by omega) (by omega)) gX3_differ_X2_addDifference_n88 rfl (by decide +kernel) (by decide +kernel) (by decide +kernel) (by decide +kernel) (by decide) (by decide) [3, 4, 5, 6] [0, 1, 2, 7, 8, 9, 10, 11, 12, 13, 14, 15, 16, 17] rfl rfl rfl rfl (by decide) 0 rfl rfl 4 rfl rfl (Nat.le_of_ble_eq_true rfl) (by decide +kernel) dX3_differ_79 (fun rvu8 wu8 hu8 => ?_)
          obtain ⟨rfl, rfl⟩ := hu8
          refine jr_perm (ws' := (wC G h (uF (uF F 3 (jU (F 3) s0 (F 3 s0 + 1))) 4 (adU (F 4) (s0 * 6 + d) t 12 x)) (jU V 1 (V 1 + 1)))) (st := [.int (iI (F 3 s0 + 1))]) [0, 1, 2, 14, 15, 16, 17, 3, 4, 5, 6, 7, 8, 9, 10, 11, 12, 13] rfl rfl ?_
          exact jr_iret (pc := 82) hh hret rfl ⟨rfl, rfl⟩ (by decide) (by decide) dX3_differ_82
        · skip
          exfalso
          omega
      · skip
        exfalso
        omega
    · skip
      exfalso
      omega
set_option maxRecDepth 20000 in
theorem tw_X3_differ_67 : ∀ w ∈ (vx_at0 RX3 67 "java/lang/IllegalArgumentException" ["java/lang/RuntimeException", "java/lang/Exception"]).filter goodWord, w ∈ wsX3_differ := by decide +kernel
set_option maxRecDepth 20000 in
theorem tw_X3_differ_47 : ∀ w ∈ (vx_at0 RX3 47 "java/lang/IllegalStateException" ["java/lang/RuntimeException", "java/lang/Exception"]).filter goodWord, w ∈ wsX3_differ := by decide +kernel
set_option maxRecDepth 20000 in
theorem tw_X3_differ_84 : ∀ w ∈ (vx_at0 RX3 84 "java/lang/UnsupportedOperationException" ["java/lang/RuntimeException", "java/lang/Exception"]).filter goodWord, w ∈ wsX3_differ := by decide +kernel
set_option maxHeartbeats 4000000 in
set_option maxRecDepth 100000 in
theorem t_X3_differ (l : Launch) (G : jG) (h : Nat → Nat) (F : Nat → Nat → Int) (V : Nat → Int) (s0 d t x : Int) (hrs0 : jR s0) (hrd : jR d) (hrt : jR t) (hrx : jR x) (hk : okC F V) (hcd : cdDiffer (V 0) (V 3) (V 1) s0 d t x ≠ 0) (hlt : l.stackTraces = false) : jThr l yX3_differ wsX3_differ { frames := 8, cells := 1, slots := 6, locals := 520 } G (wC G h F V) [.ref (h 0), .int (iI s0), .int (iI d), .int (iI t), .int (iI x)] (fun E w1 => ((cdDiffer (V 0) (V 3) (V 1) s0 d t x = 1 ∧ E = "java/lang/IndexOutOfBoundsException") ∨ (cdDiffer (V 0) (V 3) (V 1) s0 d t x = 2 ∧ E = "java/lang/IllegalArgumentException") ∨ (cdDiffer (V 0) (V 3) (V 1) s0 d t x = 3 ∧ E = "java/lang/UnsupportedOperationException") ∨ (cdDiffer (V 0) (V 3) (V 1) s0 d t x = 4 ∧ E = "java/lang/IllegalStateException")) ∧ w1 = wC G h F V) := by
  refine jThr_of (cc := cX3_differ) (maxL := 5) (ret := (some .int)) (by decide +kernel) rfl (Nat.le_of_ble_eq_true rfl) ?_
  intro p e s m args below meth c A hh htab
  refine jr_loc (lv' := [(0, .ref (h 0)), (1, .int (iI s0)), (2, .int (iI d)), (3, .int (iI t)), (4, .int (iI x))]) [0, 1, 2, 3, 4] rfl ?_
  obtain ⟨hV0, hV1, hV2, hV3, hV4, -⟩ := id hk
  have hrs01 := hrs0.1
  have hrd1 := hrd.1
  have hrt1 := hrt.1
  have hrx1 := hrx.1
  have hrs02 := hrs0.2
  have hrd2 := hrd.2
  have hrt2 := hrt.2
  have hrx2 := hrx.2
  refine jr_aload_n (pc := 0) hh 0 dX3_differ_0 rfl rfl ?_
  refine jr_iload_n (pc := 1) hh 1 dX3_differ_1 rfl rfl ?_
  by_cases q1 : 0 ≤ s0 ∧ s0 < V 0
  · skip
    obtain ⟨s0N, rfl⟩ : ∃ k : Nat, s0 = (k : Int) := ⟨s0.toNat, by omega⟩
    refine jr_callV (pc := 2) hh [.int (iI (s0N : Int))] [] (c_X3_requireScenario l G h F V (s0N : Int) (by omega) (by omega)) gX3_differ_X3_requireScenario rfl (by decide) (by decide) [0, 1, 2, 3, 4, 5, 6, 7, 8, 9, 10, 11, 12, 13, 14, 15, 16, 17] [] rfl rfl rfl rfl (by decide) 0 rfl rfl 1 rfl rfl (Nat.le_of_ble_eq_true rfl) (by decide +kernel) dX3_differ_2 (fun rvu2 wu2 hu2 => ?_)
    obtain ⟨rfl, rfl⟩ := hu2
    refine jr_perm (ws' := (wC G h F V)) (st := []) [0, 1, 2, 3, 4, 5, 6, 7, 8, 9, 10, 11, 12, 13, 14, 15, 16, 17] rfl rfl ?_
    refine jr_aload_n (pc := 5) hh 0 dX3_differ_5 rfl rfl ?_
    refine jr_iload_n (pc := 6) hh 2 dX3_differ_6 rfl rfl ?_
    by_cases q3 : 0 ≤ d ∧ d < V 3
    · skip
      obtain ⟨dN, rfl⟩ : ∃ k : Nat, d = (k : Int) := ⟨d.toNat, by omega⟩
      refine jr_callV (pc := 7) hh [.int (iI (dN : Int))] [] (c_X3_requireDriver l G h F V (dN : Int) (by omega) (by omega)) gX3_differ_X3_requireDriver rfl (by decide) (by decide) [0, 1, 2, 3, 4, 5, 6, 7, 8, 9, 10, 11, 12, 13, 14, 15, 16, 17] [] rfl rfl rfl rfl (by decide) 0 rfl rfl 1 rfl rfl (Nat.le_of_ble_eq_true rfl) (by decide +kernel) dX3_differ_7 (fun rvu4 wu4 hu4 => ?_)
      obtain ⟨rfl, rfl⟩ := hu4
      refine jr_perm (ws' := (wC G h F V)) (st := []) [0, 1, 2, 3, 4, 5, 6, 7, 8, 9, 10, 11, 12, 13, 14, 15, 16, 17] rfl rfl ?_
      refine jr_iload_n (pc := 10) hh 3 dX3_differ_10 rfl rfl ?_
      by_cases q5 : 0 ≤ t ∧ t < 12
      · skip
        obtain ⟨tN, rfl⟩ : ∃ k : Nat, t = (k : Int) := ⟨t.toNat, by omega⟩
        refine jr_callS (pc := 11) hh [.int (iI (tN : Int))] [] (c_X3_requireMonth l G (tN : Int) (by omega)) gX3_differ_X3_requireMonth rfl (by decide) (by decide) [] [0, 1, 2, 3, 4, 5, 6, 7, 8, 9, 10, 11, 12, 13, 14, 15, 16, 17] rfl rfl rfl rfl (by decide) 1 rfl rfl (Nat.le_of_ble_eq_true rfl) (by decide +kernel) dX3_differ_11 (fun rvu6 wu6 hu6 => ?_)
        obtain ⟨rfl, rfl⟩ := hu6
        refine jr_perm (ws' := (wC G h F V)) (st := []) [0, 1, 2, 3, 4, 5, 6, 7, 8, 9, 10, 11, 12, 13, 14, 15, 16, 17] rfl rfl ?_
        refine jr_iload (pc := 14) hh 4 dX3_differ_14 rfl ?_
        refine jr_sipush (pc := 16) hh dX3_differ_16 (by decide) ?_
        refine jr_icmp_lt (tgt := 30) (pc := 19) hh dX3_differ_19 (by decide) ⟨by omega, by omega⟩ ⟨by omega, by omega⟩ (fun c7 => ?_) (fun c7 => ?_)
        · skip
          exact jr_throw (pc := 30) hh hlt htab (cls := "java/lang/IllegalArgumentException") (names := ["java/lang/RuntimeException", "java/lang/Exception"]) (by decide +kernel) (by decide +kernel) (by decide +kernel) (by decide +kernel) tw_X3_differ_67 tb_67 (by decide) tg_67 dX3_differ_30 dX3_differ_33 dX3_differ_34 dX3_differ_37 ⟨Nat.le_of_ble_eq_true rfl, Nat.le_of_ble_eq_true rfl, Nat.le_of_ble_eq_true rfl, Nat.le_of_ble_eq_true rfl⟩ (Nat.le_of_ble_eq_true rfl) (Nat.le_of_ble_eq_true rfl) ⟨Or.inr (Or.inl ⟨by unfold cdDiffer; omega, rfl⟩), rfl⟩
        · skip
          refine jr_iload (pc := 22) hh 4 dX3_differ_22 rfl ?_
          refine jr_sipush (pc := 24) hh dX3_differ_24 (by decide) ?_
          refine jr_icmp_le (tgt := 38) (pc := 27) hh dX3_differ_27 (by decide) ⟨by omega, by omega⟩ ⟨by omega, by omega⟩ (fun c8 => ?_) (fun c8 => ?_)
          · skip
            refine jr_iload_n (pc := 38) hh 1 dX3_differ_38 rfl rfl ?_
            refine jr_if_ne (tgt := 50) (pc := 39) hh dX3_differ_39 (by decide) ⟨by omega, by omega⟩ (fun c9 => ?_) (fun c9 => ?_)
            · skip
              refine jr_aload_n (pc := 50) hh 0 dX3_differ_50 rfl rfl ?_
              refine jr_get (v := .ref (h 3)) (pc := 51) hh in_X3_differ_X3 0 rfl rfl 1 (by decide) (by decide +kernel : Cond.fieldLink RX3 16 (TX3 1).1 (TX3 1).2.1 (TX3 1).2.2.1 ∈ wsX3_differ) rfl dX3_differ_51 ?_
              refine jr_getN (v := .int (iI (V 1))) (pc := 54) hh in_X3_differ_X2 3 rfl rfl 4 (by decide) rfl (by decide +kernel) rfl dX3_differ_54 ?_
              refine jr_bipush (pc := 57) hh dX3_differ_57 (by decide) ?_
              refine jr_icmp_lt (tgt := 70) (pc := 59) hh dX3_differ_59 (by decide) ⟨by omega, by omega⟩ ⟨by omega, by omega⟩ (fun c10 => ?_) (fun c10 => ?_)
              · skip
                exfalso
                unfold cdDiffer at hcd
                omega
              · skip
                exact jr_throw (pc := 62) hh hlt htab (cls := "java/lang/IllegalStateException") (names := ["java/lang/RuntimeException", "java/lang/Exception"]) (by decide +kernel) (by decide +kernel) (by decide +kernel) (by decide +kernel) tw_X3_differ_47 tb_47 (by decide) tg_47 dX3_differ_62 dX3_differ_65 dX3_differ_66 dX3_differ_69 ⟨Nat.le_of_ble_eq_true rfl, Nat.le_of_ble_eq_true rfl, Nat.le_of_ble_eq_true rfl, Nat.le_of_ble_eq_true rfl⟩ (Nat.le_of_ble_eq_true rfl) (Nat.le_of_ble_eq_true rfl) ⟨Or.inr (Or.inr (Or.inr (⟨by unfold cdDiffer; omega, rfl⟩))), rfl⟩
            · skip
              exact jr_throw (pc := 42) hh hlt htab (cls := "java/lang/UnsupportedOperationException") (names := ["java/lang/RuntimeException", "java/lang/Exception"]) (by decide +kernel) (by decide +kernel) (by decide +kernel) (by decide +kernel) tw_X3_differ_84 tb_84 (by decide) tg_84 dX3_differ_42 dX3_differ_45 dX3_differ_46 dX3_differ_49 ⟨Nat.le_of_ble_eq_true rfl, Nat.le_of_ble_eq_true rfl, Nat.le_of_ble_eq_true rfl, Nat.le_of_ble_eq_true rfl⟩ (Nat.le_of_ble_eq_true rfl) (Nat.le_of_ble_eq_true rfl) ⟨Or.inr (Or.inr (Or.inl ⟨by unfold cdDiffer; omega, rfl⟩)), rfl⟩
          · skip
            exact jr_throw (pc := 30) hh hlt htab (cls := "java/lang/IllegalArgumentException") (names := ["java/lang/RuntimeException", "java/lang/Exception"]) (by decide +kernel) (by decide +kernel) (by decide +kernel) (by decide +kernel) tw_X3_differ_67 tb_67 (by decide) tg_67 dX3_differ_30 dX3_differ_33 dX3_differ_34 dX3_differ_37 ⟨Nat.le_of_ble_eq_true rfl, Nat.le_of_ble_eq_true rfl, Nat.le_of_ble_eq_true rfl, Nat.le_of_ble_eq_true rfl⟩ (Nat.le_of_ble_eq_true rfl) (Nat.le_of_ble_eq_true rfl) ⟨Or.inr (Or.inl ⟨by unfold cdDiffer; omega, rfl⟩), rfl⟩
      · skip
        exact jr_tcallS (pc := 11) hh [.int (iI t)] [] (t_X3_requireMonth l G t ⟨by omega, by omega⟩ (by omega) hlt) gX3_differ_X3_requireMonth rfl (by decide) (by decide) [] [0, 1, 2, 3, 4, 5, 6, 7, 8, 9, 10, 11, 12, 13, 14, 15, 16, 17] rfl rfl rfl rfl (by decide) 1 rfl rfl (Nat.le_of_ble_eq_true rfl) (by decide +kernel) (fun E w1 hx => by obtain ⟨rfl, rfl⟩ := hx; exact ⟨Or.inl ⟨by unfold cdDiffer; omega, rfl⟩, rfl⟩) htab (by decide) (by decide) dX3_differ_11
    · skip
      exact jr_tcallV (pc := 7) hh [.int (iI d)] [] (t_X3_requireDriver l G h F V d ⟨by omega, by omega⟩ q3 (by omega) hlt) gX3_differ_X3_requireDriver rfl (by decide) (by decide) [0, 1, 2, 3, 4, 5, 6, 7, 8, 9, 10, 11, 12, 13, 14, 15, 16, 17] [] rfl rfl rfl rfl (by decide) 0 rfl rfl 1 rfl rfl (Nat.le_of_ble_eq_true rfl) (by decide +kernel) (fun E w1 hx => by obtain ⟨rfl, rfl⟩ := hx; exact ⟨Or.inl ⟨by unfold cdDiffer; omega, rfl⟩, rfl⟩) htab (by decide) (by decide) dX3_differ_7
  · skip
    exact jr_tcallV (pc := 2) hh [.int (iI s0)] [] (t_X3_requireScenario l G h F V s0 ⟨by omega, by omega⟩ q1 (by omega) hlt) gX3_differ_X3_requireScenario rfl (by decide) (by decide) [0, 1, 2, 3, 4, 5, 6, 7, 8, 9, 10, 11, 12, 13, 14, 15, 16, 17] [] rfl rfl rfl rfl (by decide) 0 rfl rfl 1 rfl rfl (Nat.le_of_ble_eq_true rfl) (by decide +kernel) (fun E w1 hx => by obtain ⟨rfl, rfl⟩ := hx; exact ⟨Or.inl ⟨by unfold cdDiffer; omega, rfl⟩, rfl⟩) htab (by decide) (by decide) dX3_differ_2
set_option maxHeartbeats 4000000 in
set_option maxRecDepth 100000 in
theorem c_X3_number (l : Launch) (G : jG) (h : Nat → Nat) (F : Nat → Nat → Int) (V : Nat → Int) (s0 i t : Nat) (hk : okC F V) (hs : (s0 : Int) < V 0) (hi : (i : Int) < V 2) (ht : t < 12) (hx : enc (nmC F s0 t 6 i) ≠ -1000000000) : jMet l yX3_number wsX3_number { frames := 7, cells := 0, slots := 0, locals := 400 } G (wC G h F V) [.ref (h 0), .int (iI (s0 : Int)), .int (iI (i : Int)), .int (iI (t : Int))] (fun rv w1 => rv = some (.int (iI (enc (nmC F s0 t 6 i)))) ∧ ∃ F' : Nat → Nat → Int, scr F F' ∧ w1 = wC G h F' V) := by
  refine jMet_of (cc := cX3_number) (maxL := 4) (ret := (some .int)) (by decide +kernel) rfl (Nat.le_of_ble_eq_true rfl) ?_
  intro p e s m args below meth c A hh hret hinit
  refine jr_loc (lv' := [(0, .ref (h 0)), (1, .int (iI (s0 : Int))), (2, .int (iI (i : Int))), (3, .int (iI (t : Int)))]) [0, 1, 2, 3] rfl ?_
  obtain ⟨hV0, hV1, hV2, hV3, hV4, -⟩ := id hk
  refine jr_aload_n (pc := 0) hh 0 dX3_number_0 rfl rfl ?_
  refine jr_iload_n (pc := 1) hh 1 dX3_number_1 rfl rfl ?_
  refine jr_callV (pc := 2) hh [.int (iI (s0 : Int))] [] (c_X3_requireScenario l G h F V (s0 : Int) (by omega) (by omega)) gX3_number_X3_requireScenario rfl (by decide) (by decide) [0, 1, 2, 3, 4, 5, 6, 7, 8, 9, 10, 11, 12, 13, 14, 15, 16, 17] [] rfl rfl rfl rfl (by decide) 0 rfl rfl 1 rfl rfl (Nat.le_of_ble_eq_true rfl) (by decide +kernel) dX3_number_2 (fun rvu1 wu1 hu1 => ?_)
  obtain ⟨rfl, rfl⟩ := hu1
  refine jr_perm (ws' := (wC G h F V)) (st := []) [0, 1, 2, 3, 4, 5, 6, 7, 8, 9, 10, 11, 12, 13, 14, 15, 16, 17] rfl rfl ?_
  refine jr_aload_n (pc := 5) hh 0 dX3_number_5 rfl rfl ?_
  refine jr_iload_n (pc := 6) hh 2 dX3_number_6 rfl rfl ?_
  refine jr_callV (pc := 7) hh [.int (iI (i : Int))] [] (c_X3_requireLine l G h F V (i : Int) (by omega) (by omega)) gX3_number_X3_requireLine rfl (by decide) (by decide) [0, 1, 2, 3, 4, 5, 6, 7, 8, 9, 10, 11, 12, 13, 14, 15, 16, 17] [] rfl rfl rfl rfl (by decide) 0 rfl rfl 1 rfl rfl (Nat.le_of_ble_eq_true rfl) (by decide +kernel) dX3_number_7 (fun rvu2 wu2 hu2 => ?_)
  obtain ⟨rfl, rfl⟩ := hu2
  refine jr_perm (ws' := (wC G h F V)) (st := []) [0, 1, 2, 3, 4, 5, 6, 7, 8, 9, 10, 11, 12, 13, 14, 15, 16, 17] rfl rfl ?_
  refine jr_iload_n (pc := 10) hh 3 dX3_number_10 rfl rfl ?_
  refine jr_callS (pc := 11) hh [.int (iI (t : Int))] [] (c_X3_requireMonth l G (t : Int) (by omega)) gX3_number_X3_requireMonth rfl (by decide) (by decide) [] [0, 1, 2, 3, 4, 5, 6, 7, 8, 9, 10, 11, 12, 13, 14, 15, 16, 17] rfl rfl rfl rfl (by decide) 1 rfl rfl (Nat.le_of_ble_eq_true rfl) (by decide +kernel) dX3_number_11 (fun rvu3 wu3 hu3 => ?_)
  obtain ⟨rfl, rfl⟩ := hu3
  refine jr_perm (ws' := (wC G h F V)) (st := []) [0, 1, 2, 3, 4, 5, 6, 7, 8, 9, 10, 11, 12, 13, 14, 15, 16, 17] rfl rfl ?_
  refine jr_aload_n (pc := 14) hh 0 dX3_number_14 rfl rfl ?_
  refine jr_iload_n (pc := 15) hh 1 dX3_number_15 rfl rfl ?_
  refine jr_iload_n (pc := 16) hh 2 dX3_number_16 rfl rfl ?_
  refine jr_iload_n (pc := 17) hh 3 dX3_number_17 rfl rfl ?_
  refine jr_bipush (pc := 18) hh dX3_number_18 (by decide) ?_
  refine jr_callV (pc := 20) hh [.int (iI (s0 : Int)), .int (iI (i : Int)), .int (iI (t : Int)), .int (iI 6)] [] (c_X3_numberIn l G h F V s0 i t 6 hk (by omega) (by omega) (by omega) (by omega)) gX3_number_X3_numberIn rfl (by decide) (by decide) [0, 1, 2, 3, 4, 5, 6, 7, 8, 9, 10, 11, 12, 13, 14, 15, 16, 17] [] rfl rfl rfl rfl (by decide) 0 rfl rfl 4 rfl rfl (Nat.le_of_ble_eq_true rfl) (by decide +kernel) dX3_number_20 (fun rvu5 wu5 hu5 => ?_)
  obtain ⟨rfl, Fz4, hFz4, rfl⟩ := hu5
  refine jr_perm (ws' := (wC G h Fz4 V)) (st := [.int (iI (enc (nmC F s0 t 6 i)))]) [0, 1, 2, 3, 4, 5, 6, 7, 8, 9, 10, 11, 12, 13, 14, 15, 16, 17] rfl rfl ?_
  have hnrFz4 := enc_range (nmC_B hk (s := s0) (i := i) (m := t) (cd := 6) (by omega) (by omega) (by omega))
  refine jr_callS (pc := 23) hh [.int (iI (enc (nmC F s0 t 6 i)))] [] (c_X3_required l G (enc (nmC F s0 t 6 i)) hx ⟨by omega, by omega⟩) gX3_number_X3_required rfl (by decide) (by decide) [] [0, 1, 2, 3, 4, 5, 6, 7, 8, 9, 10, 11, 12, 13, 14, 15, 16, 17] rfl rfl rfl rfl (by decide) 1 rfl rfl (Nat.le_of_ble_eq_true rfl) (by decide +kernel) dX3_number_23 (fun rvu6 wu6 hu6 => ?_)
  obtain ⟨rfl, rfl⟩ := hu6
  refine jr_perm (ws' := (wC G h Fz4 V)) (st := [.int (iI (enc (nmC F s0 t 6 i)))]) [0, 1, 2, 3, 4, 5, 6, 7, 8, 9, 10, 11, 12, 13, 14, 15, 16, 17] rfl rfl ?_
  exact jr_iret (pc := 26) hh hret rfl ⟨rfl, Fz4, hFz4, rfl⟩ (by decide) (by decide) dX3_number_26
set_option maxHeartbeats 4000000 in
set_option maxRecDepth 100000 in
theorem t_X3_number (l : Launch) (G : jG) (h : Nat → Nat) (F : Nat → Nat → Int) (V : Nat → Int) (s0 i t : Int) (hrs0 : jR s0) (hri : jR i) (hrt : jR t) (hk : okC F V) (hcd : cdNumber (V 0) (V 2) s0 i t (enc (nmC F s0.toNat t.toNat 6 i.toNat)) ≠ 0) (hlt : l.stackTraces = false) : jThr l yX3_number wsX3_number { frames := 8, cells := 1, slots := 6, locals := 520 } G (wC G h F V) [.ref (h 0), .int (iI s0), .int (iI i), .int (iI t)] (fun E w1 => ((cdNumber (V 0) (V 2) s0 i t (enc (nmC F s0.toNat t.toNat 6 i.toNat)) = 1 ∧ E = "java/lang/IndexOutOfBoundsException") ∨ (cdNumber (V 0) (V 2) s0 i t (enc (nmC F s0.toNat t.toNat 6 i.toNat)) = 2 ∧ E = "java/lang/UnsupportedOperationException")) ∧ ∃ F' : Nat → Nat → Int, scr F F' ∧ w1 = wC G h F' V) := by
  refine jThr_of (cc := cX3_number) (maxL := 4) (ret := (some .int)) (by decide +kernel) rfl (Nat.le_of_ble_eq_true rfl) ?_
  intro p e s m args below meth c A hh htab
  refine jr_loc (lv' := [(0, .ref (h 0)), (1, .int (iI s0)), (2, .int (iI i)), (3, .int (iI t))]) [0, 1, 2, 3] rfl ?_
  obtain ⟨hV0, hV1, hV2, hV3, hV4, -⟩ := id hk
  have hrs01 := hrs0.1
  have hri1 := hri.1
  have hrt1 := hrt.1
  have hrs02 := hrs0.2
  have hri2 := hri.2
  have hrt2 := hrt.2
  refine jr_aload_n (pc := 0) hh 0 dX3_number_0 rfl rfl ?_
  refine jr_iload_n (pc := 1) hh 1 dX3_number_1 rfl rfl ?_
  by_cases q1 : 0 ≤ s0 ∧ s0 < V 0
  · skip
    obtain ⟨s0N, rfl⟩ : ∃ k : Nat, s0 = (k : Int) := ⟨s0.toNat, by omega⟩
    try simp only [Int.toNat_natCast] at hcd ⊢
    refine jr_callV (pc := 2) hh [.int (iI (s0N : Int))] [] (c_X3_requireScenario l G h F V (s0N : Int) (by omega) (by omega)) gX3_number_X3_requireScenario rfl (by decide) (by decide) [0, 1, 2, 3, 4, 5, 6, 7, 8, 9, 10, 11, 12, 13, 14, 15, 16, 17] [] rfl rfl rfl rfl (by decide) 0 rfl rfl 1 rfl rfl (Nat.le_of_ble_eq_true rfl) (by decide +kernel) dX3_number_2 (fun rvu2 wu2 hu2 => ?_)
    obtain ⟨rfl, rfl⟩ := hu2
    refine jr_perm (ws' := (wC G h F V)) (st := []) [0, 1, 2, 3, 4, 5, 6, 7, 8, 9, 10, 11, 12, 13, 14, 15, 16, 17] rfl rfl ?_
    refine jr_aload_n (pc := 5) hh 0 dX3_number_5 rfl rfl ?_
    refine jr_iload_n (pc := 6) hh 2 dX3_number_6 rfl rfl ?_
    by_cases q3 : 0 ≤ i ∧ i < V 2
    · skip
      obtain ⟨iN, rfl⟩ : ∃ k : Nat, i = (k : Int) := ⟨i.toNat, by omega⟩
      try simp only [Int.toNat_natCast] at hcd ⊢
      refine jr_callV (pc := 7) hh [.int (iI (iN : Int))] [] (c_X3_requireLine l G h F V (iN : Int) (by omega) (by omega)) gX3_number_X3_requireLine rfl (by decide) (by decide) [0, 1, 2, 3, 4, 5, 6, 7, 8, 9, 10, 11, 12, 13, 14, 15, 16, 17] [] rfl rfl rfl rfl (by decide) 0 rfl rfl 1 rfl rfl (Nat.le_of_ble_eq_true rfl) (by decide +kernel) dX3_number_7 (fun rvu4 wu4 hu4 => ?_)
      obtain ⟨rfl, rfl⟩ := hu4
      refine jr_perm (ws' := (wC G h F V)) (st := []) [0, 1, 2, 3, 4, 5, 6, 7, 8, 9, 10, 11, 12, 13, 14, 15, 16, 17] rfl rfl ?_
      refine jr_iload_n (pc := 10) hh 3 dX3_number_10 rfl rfl ?_
      by_cases q5 : 0 ≤ t ∧ t < 12
      · skip
        obtain ⟨tN, rfl⟩ : ∃ k : Nat, t = (k : Int) := ⟨t.toNat, by omega⟩
        try simp only [Int.toNat_natCast] at hcd ⊢
        refine jr_callS (pc := 11) hh [.int (iI (tN : Int))] [] (c_X3_requireMonth l G (tN : Int) (by omega)) gX3_number_X3_requireMonth rfl (by decide) (by decide) [] [0, 1, 2, 3, 4, 5, 6, 7, 8, 9, 10, 11, 12, 13, 14, 15, 16, 17] rfl rfl rfl rfl (by decide) 1 rfl rfl (Nat.le_of_ble_eq_true rfl) (by decide +kernel) dX3_number_11 (fun rvu6 wu6 hu6 => ?_)
        obtain ⟨rfl, rfl⟩ := hu6
        refine jr_perm (ws' := (wC G h F V)) (st := []) [0, 1, 2, 3, 4, 5, 6, 7, 8, 9, 10, 11, 12, 13, 14, 15, 16, 17] rfl rfl ?_
        refine jr_aload_n (pc := 14) hh 0 dX3_number_14 rfl rfl ?_
        refine jr_iload_n (pc := 15) hh 1 dX3_number_15 rfl rfl ?_
        refine jr_iload_n (pc := 16) hh 2 dX3_number_16 rfl rfl ?_
        refine jr_iload_n (pc := 17) hh 3 dX3_number_17 rfl rfl ?_
        refine jr_bipush (pc := 18) hh dX3_number_18 (by decide) ?_
        refine jr_callV (pc := 20) hh [.int (iI (s0N : Int)), .int (iI (iN : Int)), .int (iI (tN : Int)), .int (iI 6)] [] (c_X3_numberIn l G h F V s0N iN tN 6 hk (by omega) (by omega) (by omega) (by omega)) gX3_number_X3_numberIn rfl (by decide) (by decide) [0, 1, 2, 3, 4, 5, 6, 7, 8, 9, 10, 11, 12, 13, 14, 15, 16, 17] [] rfl rfl rfl rfl (by decide) 0 rfl rfl 4 rfl rfl (Nat.le_of_ble_eq_true rfl) (by decide +kernel) dX3_number_20 (fun rvu8 wu8 hu8 => ?_)
        obtain ⟨rfl, Fz7, hFz7, rfl⟩ := hu8
        refine jr_perm (ws' := (wC G h Fz7 V)) (st := [.int (iI (enc (nmC F s0N tN 6 iN)))]) [0, 1, 2, 3, 4, 5, 6, 7, 8, 9, 10, 11, 12, 13, 14, 15, 16, 17] rfl rfl ?_
        have hnrFz7 := enc_range (nmC_B hk (s := s0N) (i := iN) (m := tN) (cd := 6) (by omega) (by omega) (by omega))
        by_cases q9 : (enc (nmC F s0N tN 6 iN)) = -1000000000
        · skip
          refine jr_topi q9 ?_
          exact jr_tcallS (pc := 23) hh [.int (iI (-1000000000))] [] (t_X3_required l G hlt) gX3_number_X3_required rfl (by decide) (by decide) [] [0, 1, 2, 3, 4, 5, 6, 7, 8, 9, 10, 11, 12, 13, 14, 15, 16, 17] rfl rfl rfl rfl (by decide) 1 rfl rfl (Nat.le_of_ble_eq_true rfl) (by decide +kernel) (fun E w1 hx => by obtain ⟨rfl, rfl⟩ := hx; exact ⟨Or.inr (⟨by unfold cdNumber; omega, rfl⟩), Fz7, hFz7, rfl⟩) htab (by decide) (by decide) dX3_number_23
        · skip
          refine jr_callS (pc := 23) hh [.int (iI (enc (nmC F s0N tN 6 iN)))] [] (c_X3_required l G (enc (nmC F s0N tN 6 iN)) q9 ⟨by omega, by omega⟩) gX3_number_X3_required rfl (by decide) (by decide) [] [0, 1, 2, 3, 4, 5, 6, 7, 8, 9, 10, 11, 12, 13, 14, 15, 16, 17] rfl rfl rfl rfl (by decide) 1 rfl rfl (Nat.le_of_ble_eq_true rfl) (by decide +kernel) dX3_number_23 (fun rvu11 wu11 hu11 => ?_)
          obtain ⟨rfl, rfl⟩ := hu11
          refine jr_perm (ws' := (wC G h Fz7 V)) (st := [.int (iI (enc (nmC F s0N tN 6 iN)))]) [0, 1, 2, 3, 4, 5, 6, 7, 8, 9, 10, 11, 12, 13, 14, 15, 16, 17] rfl rfl ?_
          exfalso
          unfold cdNumber at hcd
          omega
      · skip
        exact jr_tcallS (pc := 11) hh [.int (iI t)] [] (t_X3_requireMonth l G t ⟨by omega, by omega⟩ (by omega) hlt) gX3_number_X3_requireMonth rfl (by decide) (by decide) [] [0, 1, 2, 3, 4, 5, 6, 7, 8, 9, 10, 11, 12, 13, 14, 15, 16, 17] rfl rfl rfl rfl (by decide) 1 rfl rfl (Nat.le_of_ble_eq_true rfl) (by decide +kernel) (fun E w1 hx => by obtain ⟨rfl, rfl⟩ := hx; exact ⟨Or.inl ⟨by unfold cdNumber; omega, rfl⟩, F, scr_rf hk, rfl⟩) htab (by decide) (by decide) dX3_number_11
    · skip
      exact jr_tcallV (pc := 7) hh [.int (iI i)] [] (t_X3_requireLine l G h F V i ⟨by omega, by omega⟩ q3 (by omega) hlt) gX3_number_X3_requireLine rfl (by decide) (by decide) [0, 1, 2, 3, 4, 5, 6, 7, 8, 9, 10, 11, 12, 13, 14, 15, 16, 17] [] rfl rfl rfl rfl (by decide) 0 rfl rfl 1 rfl rfl (Nat.le_of_ble_eq_true rfl) (by decide +kernel) (fun E w1 hx => by obtain ⟨rfl, rfl⟩ := hx; exact ⟨Or.inl ⟨by unfold cdNumber; omega, rfl⟩, F, scr_rf hk, rfl⟩) htab (by decide) (by decide) dX3_number_7
  · skip
    exact jr_tcallV (pc := 2) hh [.int (iI s0)] [] (t_X3_requireScenario l G h F V s0 ⟨by omega, by omega⟩ q1 (by omega) hlt) gX3_number_X3_requireScenario rfl (by decide) (by decide) [0, 1, 2, 3, 4, 5, 6, 7, 8, 9, 10, 11, 12, 13, 14, 15, 16, 17] [] rfl rfl rfl rfl (by decide) 0 rfl rfl 1 rfl rfl (Nat.le_of_ble_eq_true rfl) (by decide +kernel) (fun E w1 hx => by obtain ⟨rfl, rfl⟩ := hx; exact ⟨Or.inl ⟨by unfold cdNumber; omega, rfl⟩, F, scr_rf hk, rfl⟩) htab (by decide) (by decide) dX3_number_2
set_option maxRecDepth 20000 in
theorem in_X3_numberByHand_X3 : ∀ w ∈ u_ws RX3 TX3 7, w ∈ wsX3_numberByHand := by decide +kernel
set_option maxRecDepth 20000 in
theorem in_X3_numberByHand_X1 : ∀ w ∈ u_ws RX1 TX1 7, w ∈ wsX3_numberByHand := by decide +kernel
set_option maxHeartbeats 4000000 in
set_option maxRecDepth 100000 in
theorem c_X3_numberByHand (l : Launch) (G : jG) (h : Nat → Nat) (F : Nat → Nat → Int) (V : Nat → Int) (s0 i t : Nat) (hk : okC F V) (hs : (s0 : Int) < V 0) (hi : (i : Int) < V 2) (ht : t < 12) (hx : enc (nmC F s0 t 6 i) ≠ -1000000000) : jMet l yX3_numberByHand wsX3_numberByHand { frames := 7, cells := 0, slots := 0, locals := 400 } G (wC G h F V) [.ref (h 0), .int (iI (s0 : Int)), .int (iI (i : Int)), .int (iI (t : Int))] (fun rv w1 => rv = some (.int (iI (enc (nmC F s0 t 6 i)))) ∧ ∃ F' : Nat → Nat → Int, scr F F' ∧ w1 = wC G h F' V) := by
  refine jMet_of (cc := cX3_numberByHand) (maxL := 4) (ret := (some .int)) (by decide +kernel) rfl (Nat.le_of_ble_eq_true rfl) ?_
  intro p e s m args below meth c A hh hret hinit
  refine jr_loc (lv' := [(0, .ref (h 0)), (1, .int (iI (s0 : Int))), (2, .int (iI (i : Int))), (3, .int (iI (t : Int)))]) [0, 1, 2, 3] rfl ?_
  obtain ⟨hV0, hV1, hV2, hV3, hV4, -⟩ := id hk
  refine jr_aload_n (pc := 0) hh 0 dX3_numberByHand_0 rfl rfl ?_
  refine jr_iload_n (pc := 1) hh 1 dX3_numberByHand_1 rfl rfl ?_
  refine jr_callV (pc := 2) hh [.int (iI (s0 : Int))] [] (c_X3_requireScenario l G h F V (s0 : Int) (by omega) (by omega)) gX3_numberByHand_X3_requireScenario rfl (by decide) (by decide) [0, 1, 2, 3, 4, 5, 6, 7, 8, 9, 10, 11, 12, 13, 14, 15, 16, 17] [] rfl rfl rfl rfl (by decide) 0 rfl rfl 1 rfl rfl (Nat.le_of_ble_eq_true rfl) (by decide +kernel) dX3_numberByHand_2 (fun rvu1 wu1 hu1 => ?_)
  obtain ⟨rfl, rfl⟩ := hu1
  refine jr_perm (ws' := (wC G h F V)) (st := []) [0, 1, 2, 3, 4, 5, 6, 7, 8, 9, 10, 11, 12, 13, 14, 15, 16, 17] rfl rfl ?_
  refine jr_aload_n (pc := 5) hh 0 dX3_numberByHand_5 rfl rfl ?_
  refine jr_iload_n (pc := 6) hh 2 dX3_numberByHand_6 rfl rfl ?_
  refine jr_callV (pc := 7) hh [.int (iI (i : Int))] [] (c_X3_requireLine l G h F V (i : Int) (by omega) (by omega)) gX3_numberByHand_X3_requireLine rfl (by decide) (by decide) [0, 1, 2, 3, 4, 5, 6, 7, 8, 9, 10, 11, 12, 13, 14, 15, 16, 17] [] rfl rfl rfl rfl (by decide) 0 rfl rfl 1 rfl rfl (Nat.le_of_ble_eq_true rfl) (by decide +kernel) dX3_numberByHand_7 (fun rvu2 wu2 hu2 => ?_)
  obtain ⟨rfl, rfl⟩ := hu2
  refine jr_perm (ws' := (wC G h F V)) (st := []) [0, 1, 2, 3, 4, 5, 6, 7, 8, 9, 10, 11, 12, 13, 14, 15, 16, 17] rfl rfl ?_
  refine jr_iload_n (pc := 10) hh 3 dX3_numberByHand_10 rfl rfl ?_
  refine jr_callS (pc := 11) hh [.int (iI (t : Int))] [] (c_X3_requireMonth l G (t : Int) (by omega)) gX3_numberByHand_X3_requireMonth rfl (by decide) (by decide) [] [0, 1, 2, 3, 4, 5, 6, 7, 8, 9, 10, 11, 12, 13, 14, 15, 16, 17] rfl rfl rfl rfl (by decide) 1 rfl rfl (Nat.le_of_ble_eq_true rfl) (by decide +kernel) dX3_numberByHand_11 (fun rvu3 wu3 hu3 => ?_)
  obtain ⟨rfl, rfl⟩ := hu3
  refine jr_perm (ws' := (wC G h F V)) (st := []) [0, 1, 2, 3, 4, 5, 6, 7, 8, 9, 10, 11, 12, 13, 14, 15, 16, 17] rfl rfl ?_
  refine jr_aload_n (pc := 14) hh 0 dX3_numberByHand_14 rfl rfl ?_
  refine jr_iload_n (pc := 15) hh 1 dX3_numberByHand_15 rfl rfl ?_
  refine jr_iload_n (pc := 16) hh 3 dX3_numberByHand_16 rfl rfl ?_
  refine jr_bipush (pc := 17) hh dX3_numberByHand_17 (by decide) ?_
  refine jr_callV (pc := 19) hh [.int (iI (s0 : Int)), .int (iI (t : Int)), .int (iI 6)] [] (c_X3_fillInputs l G h F V s0 t 6 hk (by omega) (by omega) (by omega)) gX3_numberByHand_X3_fillInputs rfl (by decide) (by decide) [0, 1, 2, 3, 4, 5, 6, 7, 8, 9, 10, 11, 12, 13, 14, 15, 16, 17] [] rfl rfl rfl rfl (by decide) 0 rfl rfl 3 rfl rfl (Nat.le_of_ble_eq_true rfl) (by decide +kernel) dX3_numberByHand_19 (fun rvu4 wu4 hu4 => ?_)
  obtain ⟨rfl, inp, hfi, hoi, rfl⟩ := hu4
  refine jr_perm (ws' := (wC G h (uF F 1 inp) V)) (st := []) [0, 1, 2, 3, 4, 5, 6, 7, 8, 9, 10, 11, 12, 13, 14, 15, 16, 17] rfl rfl ?_
  refine jr_aload_n (pc := 22) hh 0 dX3_numberByHand_22 rfl rfl ?_
  refine jr_get (v := .ref (h 7)) (pc := 23) hh in_X3_numberByHand_X3 0 rfl rfl 2 (by decide) (by decide +kernel : Cond.fieldLink RX3 23 (TX3 2).1 (TX3 2).2.1 (TX3 2).2.2.1 ∈ wsX3_numberByHand) rfl dX3_numberByHand_23 ?_
  refine jr_iload_n (pc := 26) hh 3 dX3_numberByHand_26 rfl rfl ?_
  refine jr_aload_n (pc := 27) hh 0 dX3_numberByHand_27 rfl rfl ?_
  refine jr_get (v := .ref (h 2)) (pc := 28) hh in_X3_numberByHand_X3 0 rfl rfl 4 (by decide) (by decide +kernel : Cond.fieldLink RX3 34 (TX3 4).1 (TX3 4).2.1 (TX3 4).2.2.1 ∈ wsX3_numberByHand) rfl dX3_numberByHand_28 ?_
  refine jr_callVN (pc := 31) hh [.int (iI (t : Int)), .ref (h 2)] [] (c_X1_findAll l G (fun k => if k = 7 then h 2 else h (7 + k)) (fun k => if k = 6 then (uF F 1 inp) 1 else (uF F 1 inp) (5 + k)) (fun k => V (2 + k)) t (by omega) hk.2.2.1 (okL_C (F := F) (V := V) hk) hk.2.2.2.2.2.2.2.2.2.1 hoi) gX3_numberByHand_X1_findAll_n102 rfl (by decide +kernel) (by decide +kernel) (by decide +kernel) (by decide +kernel) (by decide) (by decide) [7, 8, 9, 10, 11, 12, 13, 2] [0, 1, 3, 4, 5, 6, 14, 15, 16, 17] rfl rfl rfl rfl (by decide) 0 rfl rfl 2 rfl rfl (Nat.le_of_ble_eq_true rfl) (by decide +kernel) dX3_numberByHand_31 (fun rvu5 wu5 hu5 => ?_)
  obtain ⟨rfl, nm, hnm, rfl⟩ := hu5
  refine jr_perm (ws' := (wC G h (uF (uF F 1 inp) 10 nm) V)) (st := []) [0, 1, 17, 2, 3, 4, 5, 10, 11, 12, 13, 14, 15, 16, 6, 7, 8, 9] rfl rfl ?_
  have hnm2 : nm i = enc (nmC F s0 t 6 i) := by rw [hnm i (by show (_ : Int) < V 2; omega), lnC_nmC (F := F) (V := V) (s := s0) (cd := 6) hk rfl rfl rfl rfl hfi (by omega)]
  have hnr := enc_range (nmC_B hk (s := s0) (i := i) (m := t) (cd := 6) (by omega) (by omega) (by omega))
  refine jr_aload_n (pc := 34) hh 0 dX3_numberByHand_34 rfl rfl ?_
  refine jr_get (v := .ref (h 7)) (pc := 35) hh in_X3_numberByHand_X3 0 rfl rfl 2 (by decide) (by decide +kernel : Cond.fieldLink RX3 23 (TX3 2).1 (TX3 2).2.1 (TX3 2).2.2.1 ∈ wsX3_numberByHand) rfl dX3_numberByHand_35 ?_
  refine jr_getN (v := .ref (h 13)) (pc := 38) hh in_X3_numberByHand_X1 7 rfl rfl 5 (by decide) rfl (by decide +kernel) rfl dX3_numberByHand_38 ?_
  refine jr_iload_n (pc := 41) hh 2 dX3_numberByHand_41 rfl rfl ?_
  refine jr_iald (F := nm) (pc := 42) hh 13 rfl i (by omega) (by omega) (by decide) dX3_numberByHand_42 ?_
  refine jr_topi (b := (enc (nmC F s0 t 6 i))) hnm2 ?_
  refine jr_callS (pc := 43) hh [.int (iI (enc (nmC F s0 t 6 i)))] [] (c_X3_required l G (enc (nmC F s0 t 6 i)) hx ⟨by omega, by omega⟩) gX3_numberByHand_X3_required rfl (by decide) (by decide) [] [0, 1, 2, 3, 4, 5, 6, 7, 8, 9, 10, 11, 12, 13, 14, 15, 16, 17] rfl rfl rfl rfl (by decide) 1 rfl rfl (Nat.le_of_ble_eq_true rfl) (by decide +kernel) dX3_numberByHand_43 (fun rvu6 wu6 hu6 => ?_)
  obtain ⟨rfl, rfl⟩ := hu6
  refine jr_perm (ws' := (wC G h (uF (uF F 1 inp) 10 nm) V)) (st := [.int (iI (enc (nmC F s0 t 6 i)))]) [0, 1, 2, 3, 4, 5, 6, 7, 8, 9, 10, 11, 12, 13, 14, 15, 16, 17] rfl rfl ?_
  exact jr_iret (pc := 46) hh hret rfl ⟨rfl, (uF (uF F 1 inp) 10 nm), (scr_10 (scr_1 hoi)), rfl⟩ (by decide) (by decide) dX3_numberByHand_46
set_option maxHeartbeats 4000000 in
set_option maxRecDepth 100000 in
theorem t_X3_numberByHand (l : Launch) (G : jG) (h : Nat → Nat) (F : Nat → Nat → Int) (V : Nat → Int) (s0 i t : Int) (hrs0 : jR s0) (hri : jR i) (hrt : jR t) (hk : okC F V) (hcd : cdNumber (V 0) (V 2) s0 i t (enc (nmC F s0.toNat t.toNat 6 i.toNat)) ≠ 0) (hlt : l.stackTraces = false) : jThr l yX3_numberByHand wsX3_numberByHand { frames := 8, cells := 1, slots := 6, locals := 520 } G (wC G h F V) [.ref (h 0), .int (iI s0), .int (iI i), .int (iI t)] (fun E w1 => ((cdNumber (V 0) (V 2) s0 i t (enc (nmC F s0.toNat t.toNat 6 i.toNat)) = 1 ∧ E = "java/lang/IndexOutOfBoundsException") ∨ (cdNumber (V 0) (V 2) s0 i t (enc (nmC F s0.toNat t.toNat 6 i.toNat)) = 2 ∧ E = "java/lang/UnsupportedOperationException")) ∧ ∃ F' : Nat → Nat → Int, scr F F' ∧ w1 = wC G h F' V) := by
  refine jThr_of (cc := cX3_numberByHand) (maxL := 4) (ret := (some .int)) (by decide +kernel) rfl (Nat.le_of_ble_eq_true rfl) ?_
  intro p e s m args below meth c A hh htab
  refine jr_loc (lv' := [(0, .ref (h 0)), (1, .int (iI s0)), (2, .int (iI i)), (3, .int (iI t))]) [0, 1, 2, 3] rfl ?_
  obtain ⟨hV0, hV1, hV2, hV3, hV4, -⟩ := id hk
  have hrs01 := hrs0.1
  have hri1 := hri.1
  have hrt1 := hrt.1
  have hrs02 := hrs0.2
  have hri2 := hri.2
  have hrt2 := hrt.2
  refine jr_aload_n (pc := 0) hh 0 dX3_numberByHand_0 rfl rfl ?_
  refine jr_iload_n (pc := 1) hh 1 dX3_numberByHand_1 rfl rfl ?_
  by_cases q1 : 0 ≤ s0 ∧ s0 < V 0
  · skip
    obtain ⟨s0N, rfl⟩ : ∃ k : Nat, s0 = (k : Int) := ⟨s0.toNat, by omega⟩
    try simp only [Int.toNat_natCast] at hcd ⊢
    refine jr_callV (pc := 2) hh [.int (iI (s0N : Int))] [] (c_X3_requireScenario l G h F V (s0N : Int) (by omega) (by omega)) gX3_numberByHand_X3_requireScenario rfl (by decide) (by decide) [0, 1, 2, 3, 4, 5, 6, 7, 8, 9, 10, 11, 12, 13, 14, 15, 16, 17] [] rfl rfl rfl rfl (by decide) 0 rfl rfl 1 rfl rfl (Nat.le_of_ble_eq_true rfl) (by decide +kernel) dX3_numberByHand_2 (fun rvu2 wu2 hu2 => ?_)
    obtain ⟨rfl, rfl⟩ := hu2
    refine jr_perm (ws' := (wC G h F V)) (st := []) [0, 1, 2, 3, 4, 5, 6, 7, 8, 9, 10, 11, 12, 13, 14, 15, 16, 17] rfl rfl ?_
    refine jr_aload_n (pc := 5) hh 0 dX3_numberByHand_5 rfl rfl ?_
    refine jr_iload_n (pc := 6) hh 2 dX3_numberByHand_6 rfl rfl ?_
    by_cases q3 : 0 ≤ i ∧ i < V 2
    · skip
      obtain ⟨iN, rfl⟩ : ∃ k : Nat, i = (k : Int) := ⟨i.toNat, by omega⟩
      try simp only [Int.toNat_natCast] at hcd ⊢
      refine jr_callV (pc := 7) hh [.int (iI (iN : Int))] [] (c_X3_requireLine l G h F V (iN : Int) (by omega) (by omega)) gX3_numberByHand_X3_requireLine rfl (by decide) (by decide) [0, 1, 2, 3, 4, 5, 6, 7, 8, 9, 10, 11, 12, 13, 14, 15, 16, 17] [] rfl rfl rfl rfl (by decide) 0 rfl rfl 1 rfl rfl (Nat.le_of_ble_eq_true rfl) (by decide +kernel) dX3_numberByHand_7 (fun rvu4 wu4 hu4 => ?_)
      obtain ⟨rfl, rfl⟩ := hu4
      refine jr_perm (ws' := (wC G h F V)) (st := []) [0, 1, 2, 3, 4, 5, 6, 7, 8, 9, 10, 11, 12, 13, 14, 15, 16, 17] rfl rfl ?_
      refine jr_iload_n (pc := 10) hh 3 dX3_numberByHand_10 rfl rfl ?_
      by_cases q5 : 0 ≤ t ∧ t < 12
      · skip
        obtain ⟨tN, rfl⟩ : ∃ k : Nat, t = (k : Int) := ⟨t.toNat, by omega⟩
        try simp only [Int.toNat_natCast] at hcd ⊢
        refine jr_callS (pc := 11) hh [.int (iI (tN : Int))] [] (c_X3_requireMonth l G (tN : Int) (by omega)) gX3_numberByHand_X3_requireMonth rfl (by decide) (by decide) [] [0, 1, 2, 3, 4, 5, 6, 7, 8, 9, 10, 11, 12, 13, 14, 15, 16, 17] rfl rfl rfl rfl (by decide) 1 rfl rfl (Nat.le_of_ble_eq_true rfl) (by decide +kernel) dX3_numberByHand_11 (fun rvu6 wu6 hu6 => ?_)
        obtain ⟨rfl, rfl⟩ := hu6
        refine jr_perm (ws' := (wC G h F V)) (st := []) [0, 1, 2, 3, 4, 5, 6, 7, 8, 9, 10, 11, 12, 13, 14, 15, 16, 17] rfl rfl ?_
        refine jr_aload_n (pc := 14) hh 0 dX3_numberByHand_14 rfl rfl ?_
        refine jr_iload_n (pc := 15) hh 1 dX3_numberByHand_15 rfl rfl ?_
        refine jr_iload_n (pc := 16) hh 3 dX3_numberByHand_16 rfl rfl ?_
        refine jr_bipush (pc := 17) hh dX3_numberByHand_17 (by decide) ?_
        refine jr_callV (pc := 19) hh [.int (iI (s0N : Int)), .int (iI (tN : Int)), .int (iI 6)] [] (c_X3_fillInputs l G h F V s0N tN 6 hk (by omega) (by omega) (by omega)) gX3_numberByHand_X3_fillInputs rfl (by decide) (by decide) [0, 1, 2, 3, 4, 5, 6, 7, 8, 9, 10, 11, 12, 13, 14, 15, 16, 17] [] rfl rfl rfl rfl (by decide) 0 rfl rfl 3 rfl rfl (Nat.le_of_ble_eq_true rfl) (by decide +kernel) dX3_numberByHand_19 (fun rvu7 wu7 hu7 => ?_)
        obtain ⟨rfl, inp, hfi, hoi, rfl⟩ := hu7
        refine jr_perm (ws' := (wC G h (uF F 1 inp) V)) (st := []) [0, 1, 2, 3, 4, 5, 6, 7, 8, 9, 10, 11, 12, 13, 14, 15, 16, 17] rfl rfl ?_
        refine jr_aload_n (pc := 22) hh 0 dX3_numberByHand_22 rfl rfl ?_
        refine jr_get (v := .ref (h 7)) (pc := 23) hh in_X3_numberByHand_X3 0 rfl rfl 2 (by decide) (by decide +kernel : Cond.fieldLink RX3 23 (TX3 2).1 (TX3 2).2.1 (TX3 2).2.2.1 ∈ wsX3_numberByHand) rfl dX3_numberByHand_23 ?_
        refine jr_iload_n (pc := 26) hh 3 dX3_numberByHand_26 rfl rfl ?_
        refine jr_aload_n (pc := 27) hh 0 dX3_numberByHand_27 rfl rfl ?_
        refine jr_get (v := .ref (h 2)) (pc := 28) hh in_X3_numberByHand_X3 0 rfl rfl 4 (by decide) (by decide +kernel : Cond.fieldLink RX3 34 (TX3 4).1 (TX3 4).2.1 (TX3 4).2.2.1 ∈ wsX3_numberByHand) rfl dX3_numberByHand_28 ?_
        refine jr_callVN (pc := 31) hh [.int (iI (tN : Int)), .ref (h 2)] [] (c_X1_findAll l G (fun k => if k = 7 then h 2 else h (7 + k)) (fun k => if k = 6 then (uF F 1 inp) 1 else (uF F 1 inp) (5 + k)) (fun k => V (2 + k)) tN (by omega) hk.2.2.1 (okL_C (F := F) (V := V) hk) hk.2.2.2.2.2.2.2.2.2.1 hoi) gX3_numberByHand_X1_findAll_n102 rfl (by decide +kernel) (by decide +kernel) (by decide +kernel) (by decide +kernel) (by decide) (by decide) [7, 8, 9, 10, 11, 12, 13, 2] [0, 1, 3, 4, 5, 6, 14, 15, 16, 17] rfl rfl rfl rfl (by decide) 0 rfl rfl 2 rfl rfl (Nat.le_of_ble_eq_true rfl) (by decide +kernel) dX3_numberByHand_31 (fun rvu8 wu8 hu8 => ?_)
        obtain ⟨rfl, nm, hnm, rfl⟩ := hu8
        refine jr_perm (ws' := (wC G h (uF (uF F 1 inp) 10 nm) V)) (st := []) [0, 1, 17, 2, 3, 4, 5, 10, 11, 12, 13, 14, 15, 16, 6, 7, 8, 9] rfl rfl ?_
        have hnm2 : nm iN = enc (nmC F s0N tN 6 iN) := by rw [hnm iN (by show (_ : Int) < V 2; omega), lnC_nmC (F := F) (V := V) (s := s0N) (cd := 6) hk rfl rfl rfl rfl hfi (by omega)]
        have hnr := enc_range (nmC_B hk (s := s0N) (i := iN) (m := tN) (cd := 6) (by omega) (by omega) (by omega))
        refine jr_aload_n (pc := 34) hh 0 dX3_numberByHand_34 rfl rfl ?_
        refine jr_get (v := .ref (h 7)) (pc := 35) hh in_X3_numberByHand_X3 0 rfl rfl 2 (by decide) (by decide +kernel : Cond.fieldLink RX3 23 (TX3 2).1 (TX3 2).2.1 (TX3 2).2.2.1 ∈ wsX3_numberByHand) rfl dX3_numberByHand_35 ?_
        refine jr_getN (v := .ref (h 13)) (pc := 38) hh in_X3_numberByHand_X1 7 rfl rfl 5 (by decide) rfl (by decide +kernel) rfl dX3_numberByHand_38 ?_
        refine jr_iload_n (pc := 41) hh 2 dX3_numberByHand_41 rfl rfl ?_
        refine jr_iald (F := nm) (pc := 42) hh 13 rfl iN (by omega) (by omega) (by decide) dX3_numberByHand_42 ?_
        refine jr_topi (b := (enc (nmC F s0N tN 6 iN))) hnm2 ?_
        by_cases q9 : (enc (nmC F s0N tN 6 iN)) = -1000000000
        · skip
          refine jr_topi q9 ?_
          exact jr_tcallS (pc := 43) hh [.int (iI (-1000000000))] [] (t_X3_required l G hlt) gX3_numberByHand_X3_required rfl (by decide) (by decide) [] [0, 1, 2, 3, 4, 5, 6, 7, 8, 9, 10, 11, 12, 13, 14, 15, 16, 17] rfl rfl rfl rfl (by decide) 1 rfl rfl (Nat.le_of_ble_eq_true rfl) (by decide +kernel) (fun E w1 hx => by obtain ⟨rfl, rfl⟩ := hx; exact ⟨Or.inr (⟨by unfold cdNumber; omega, rfl⟩), (uF (uF F 1 inp) 10 nm), (scr_10 (scr_1 hoi)), rfl⟩) htab (by decide) (by decide) dX3_numberByHand_43
        · skip
          refine jr_callS (pc := 43) hh [.int (iI (enc (nmC F s0N tN 6 iN)))] [] (c_X3_required l G (enc (nmC F s0N tN 6 iN)) q9 ⟨by omega, by omega⟩) gX3_numberByHand_X3_required rfl (by decide) (by decide) [] [0, 1, 2, 3, 4, 5, 6, 7, 8, 9, 10, 11, 12, 13, 14, 15, 16, 17] rfl rfl rfl rfl (by decide) 1 rfl rfl (Nat.le_of_ble_eq_true rfl) (by decide +kernel) dX3_numberByHand_43 (fun rvu11 wu11 hu11 => ?_)
          obtain ⟨rfl, rfl⟩ := hu11
          refine jr_perm (ws' := (wC G h (uF (uF F 1 inp) 10 nm) V)) (st := [.int (iI (enc (nmC F s0N tN 6 iN)))]) [0, 1, 2, 3, 4, 5, 6, 7, 8, 9, 10, 11, 12, 13, 14, 15, 16, 17] rfl rfl ?_
          exfalso
          unfold cdNumber at hcd
          omega
      · skip
        exact jr_tcallS (pc := 11) hh [.int (iI t)] [] (t_X3_requireMonth l G t ⟨by omega, by omega⟩ (by omega) hlt) gX3_numberByHand_X3_requireMonth rfl (by decide) (by decide) [] [0, 1, 2, 3, 4, 5, 6, 7, 8, 9, 10, 11, 12, 13, 14, 15, 16, 17] rfl rfl rfl rfl (by decide) 1 rfl rfl (Nat.le_of_ble_eq_true rfl) (by decide +kernel) (fun E w1 hx => by obtain ⟨rfl, rfl⟩ := hx; exact ⟨Or.inl ⟨by unfold cdNumber; omega, rfl⟩, F, scr_rf hk, rfl⟩) htab (by decide) (by decide) dX3_numberByHand_11
    · skip
      exact jr_tcallV (pc := 7) hh [.int (iI i)] [] (t_X3_requireLine l G h F V i ⟨by omega, by omega⟩ q3 (by omega) hlt) gX3_numberByHand_X3_requireLine rfl (by decide) (by decide) [0, 1, 2, 3, 4, 5, 6, 7, 8, 9, 10, 11, 12, 13, 14, 15, 16, 17] [] rfl rfl rfl rfl (by decide) 0 rfl rfl 1 rfl rfl (Nat.le_of_ble_eq_true rfl) (by decide +kernel) (fun E w1 hx => by obtain ⟨rfl, rfl⟩ := hx; exact ⟨Or.inl ⟨by unfold cdNumber; omega, rfl⟩, F, scr_rf hk, rfl⟩) htab (by decide) (by decide) dX3_numberByHand_7
  · skip
    exact jr_tcallV (pc := 2) hh [.int (iI s0)] [] (t_X3_requireScenario l G h F V s0 ⟨by omega, by omega⟩ q1 (by omega) hlt) gX3_numberByHand_X3_requireScenario rfl (by decide) (by decide) [0, 1, 2, 3, 4, 5, 6, 7, 8, 9, 10, 11, 12, 13, 14, 15, 16, 17] [] rfl rfl rfl rfl (by decide) 0 rfl rfl 1 rfl rfl (Nat.le_of_ble_eq_true rfl) (by decide +kernel) (fun E w1 hx => by obtain ⟨rfl, rfl⟩ := hx; exact ⟨Or.inl ⟨by unfold cdNumber; omega, rfl⟩, F, scr_rf hk, rfl⟩) htab (by decide) (by decide) dX3_numberByHand_2
