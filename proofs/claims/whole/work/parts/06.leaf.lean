/-! leaves: Approvals, Scenarios -/
def drf (n kn tl : Int) : Int := if n = -1000000000 ∨ tl < ((n - kn).natAbs : Int) then 1 else 0
theorem drf_01 (n kn tl : Int) : drf n kn tl = 0 ∨ drf n kn tl = 1 := by unfold drf; split <;> simp
def ropB (f : Nat → Int) (k : Nat) (n kn tl : Int) : Int := if f k = 97 ∧ drf n kn tl = 1 then 1 else 0
def rop (f : Nat → Int) (k : Nat) (n kn tl : Int) : Nat → Int := if f k = 97 ∧ drf n kn tl = 1 then jU f k 111 else f
theorem ropB_01 (f : Nat → Int) (k : Nat) (n kn tl : Int) : ropB f k n kn tl = 0 ∨ ropB f k n kn tl = 1 := by unfold ropB; split <;> simp
set_option maxRecDepth 20000 in
theorem in_X0_keep_X0 : ∀ w ∈ u_ws RX0 TX0 3, w ∈ wsX0_keep := by decide +kernel
set_option maxHeartbeats 4000000 in
set_option maxRecDepth 100000 in
theorem c_X0_keep (l : Launch) (G : jG) (h : Nat → Nat) (F : Nat → Nat → Int) (k : Nat) (n t : Int) (hk : k < 120) : jMet l yX0_keep wsX0_keep { frames := 1, cells := 0, slots := 0, locals := 30 } G (wA G h F) [.ref (h 0), .int (iI (k : Int)), .int (iI n), .int (iI t)] (fun rv w1 => rv = none ∧ w1 = wA G h (uF (uF (uF F 0 (jU (F 0) k 97)) 1 (jU (F 1) k n)) 2 (jU (F 2) k t))) := by
  refine jMet_of (cc := cX0_keep) (maxL := 4) (ret := none) (by decide +kernel) rfl (Nat.le_of_ble_eq_true rfl) ?_
  intro p e s m args below meth c A hh hret hinit
  refine jr_loc (lv' := [(0, .ref (h 0)), (1, .int (iI (k : Int))), (2, .int (iI n)), (3, .int (iI t))]) [0, 1, 2, 3] rfl ?_
  refine jr_aload_n (pc := 0) hh 0 dX0_keep_0 rfl rfl ?_
  refine jr_get (v := .ref (h 1)) (pc := 1) hh in_X0_keep_X0 0 rfl rfl 0 (by decide) (by decide +kernel : Cond.fieldLink RX0 9 (TX0 0).1 (TX0 0).2.1 (TX0 0).2.2.1 ∈ wsX0_keep) rfl dX0_keep_1 ?_
  refine jr_iload_n (pc := 4) hh 1 dX0_keep_4 rfl rfl ?_
  refine jr_bipush (pc := 5) hh dX0_keep_5 (by decide) ?_
  refine jr_cast (F := (F 0)) (ws' := (wA G h (uF F 0 (jU (F 0) k 97)))) (pc := 7) hh 1 rfl k (by omega) (by omega) (by decide) ⟨by omega, by omega⟩ rfl dX0_keep_7 ?_
  refine jr_aload_n (pc := 8) hh 0 dX0_keep_8 rfl rfl ?_
  refine jr_get (v := .ref (h 2)) (pc := 9) hh in_X0_keep_X0 0 rfl rfl 1 (by decide) (by decide +kernel : Cond.fieldLink RX0 15 (TX0 1).1 (TX0 1).2.1 (TX0 1).2.2.1 ∈ wsX0_keep) rfl dX0_keep_9 ?_
  refine jr_iload_n (pc := 12) hh 1 dX0_keep_12 rfl rfl ?_
  refine jr_iload_n (pc := 13) hh 2 dX0_keep_13 rfl rfl ?_
  refine jr_iast (F := (F 1)) (ws' := (wA G h (uF (uF F 0 (jU (F 0) k 97)) 1 (jU (F 1) k n)))) (pc := 14) hh 2 rfl k (by omega) (by omega) (by decide) rfl dX0_keep_14 ?_
  refine jr_aload_n (pc := 15) hh 0 dX0_keep_15 rfl rfl ?_
  refine jr_get (v := .ref (h 3)) (pc := 16) hh in_X0_keep_X0 0 rfl rfl 2 (by decide) (by decide +kernel : Cond.fieldLink RX0 19 (TX0 2).1 (TX0 2).2.1 (TX0 2).2.2.1 ∈ wsX0_keep) rfl dX0_keep_16 ?_
  refine jr_iload_n (pc := 19) hh 1 dX0_keep_19 rfl rfl ?_
  refine jr_iload_n (pc := 20) hh 3 dX0_keep_20 rfl rfl ?_
  refine jr_iast (F := (F 2)) (ws' := (wA G h (uF (uF (uF F 0 (jU (F 0) k 97)) 1 (jU (F 1) k n)) 2 (jU (F 2) k t)))) (pc := 21) hh 3 rfl k (by omega) (by omega) (by decide) rfl dX0_keep_21 ?_
  exact jr_vret (pc := 22) hh hret ⟨rfl, rfl⟩ (by decide) (by decide) dX0_keep_22
set_option maxRecDepth 20000 in
theorem in_X0_isDrifted_X0 : ∀ w ∈ u_ws RX0 TX0 3, w ∈ wsX0_isDrifted := by decide +kernel
set_option maxHeartbeats 4000000 in
set_option maxRecDepth 100000 in
theorem c_X0_isDrifted (l : Launch) (G : jG) (h : Nat → Nat) (F : Nat → Nat → Int) (k : Nat) (n : Int) (hk : k < 120) (hn : -1000000000 ≤ n ∧ n ≤ 99999999) (hkn : -99999999 ≤ (F 1) k ∧ (F 1) k ≤ 99999999) (htl : 0 ≤ (F 2) k ∧ (F 2) k ≤ 9999) : jMet l yX0_isDrifted wsX0_isDrifted { frames := 2, cells := 0, slots := 0, locals := 60 } G (wA G h F) [.ref (h 0), .int (iI (k : Int)), .int (iI n)] (fun rv w1 => rv = some (.int (iI (drf n ((F 1) k) ((F 2) k)))) ∧ w1 = wA G h F) := by
  refine jMet_of (cc := cX0_isDrifted) (maxL := 3) (ret := (some .boolean)) (by decide +kernel) rfl (Nat.le_of_ble_eq_true rfl) ?_
  intro p e s m args below meth c A hh hret hinit
  refine jr_loc (lv' := [(0, .ref (h 0)), (1, .int (iI (k : Int))), (2, .int (iI n))]) [0, 1, 2] rfl ?_
  refine jr_iload_n (pc := 0) hh 2 dX0_isDrifted_0 rfl rfl ?_
  refine jr_ldc (z := (-1000000000)) (v := -1000000000) (pc := 1) hh (by decide) (by decide +kernel : Cond.constant RX0 26 (-1000000000) ∈ wsX0_isDrifted) dX0_isDrifted_1 ?_
  refine jr_icmp_eq (tgt := 26) (pc := 3) hh dX0_isDrifted_3 (by decide) ⟨by omega, by omega⟩ ⟨by omega, by omega⟩ (fun c1 => ?_) (fun c1 => ?_)
  · skip
    refine jr_iconst (pc := 26) hh dX0_isDrifted_26 ?_
    refine jr_goto (tgt := 31) (pc := 27) hh dX0_isDrifted_27 (by decide) ?_
    exact jr_iret (pc := 31) hh hret rfl ⟨jsi (by unfold drf; split <;> omega), rfl⟩ (by decide) (by decide) dX0_isDrifted_31
  · skip
    refine jr_iload_n (pc := 6) hh 2 dX0_isDrifted_6 rfl rfl ?_
    refine jr_aload_n (pc := 7) hh 0 dX0_isDrifted_7 rfl rfl ?_
    refine jr_get (v := .ref (h 2)) (pc := 8) hh in_X0_isDrifted_X0 0 rfl rfl 1 (by decide) (by decide +kernel : Cond.fieldLink RX0 15 (TX0 1).1 (TX0 1).2.1 (TX0 1).2.2.1 ∈ wsX0_isDrifted) rfl dX0_isDrifted_8 ?_
    refine jr_iload_n (pc := 11) hh 1 dX0_isDrifted_11 rfl rfl ?_
    refine jr_iald (F := (F 1)) (pc := 12) hh 2 rfl k (by omega) (by omega) (by decide) dX0_isDrifted_12 ?_
    refine jr_isub (pc := 13) hh dX0_isDrifted_13 ?_
    refine jr_abs (pc := 14) hh (by decide +kernel : Cond.methodLink RX0 27 Lib.Math.abs.name ∈ wsX0_isDrifted) (by decide +kernel : Cond.static Lib.Math.abs.name ∈ wsX0_isDrifted) (by decide +kernel : Cond.initialized "java/lang/Math" ∈ wsX0_isDrifted) (by decide +kernel : Cond.code Lib.Math.abs.name Lib.Math.abs.code 1 (some .int) ∈ wsX0_isDrifted) ⟨Nat.le_of_ble_eq_true rfl, Nat.le_of_ble_eq_true rfl, Nat.le_of_ble_eq_true rfl, Nat.le_of_ble_eq_true rfl⟩ ⟨by omega, by omega⟩ (by omega) dX0_isDrifted_14 ?_
    refine jr_aload_n (pc := 17) hh 0 dX0_isDrifted_17 rfl rfl ?_
    refine jr_get (v := .ref (h 3)) (pc := 18) hh in_X0_isDrifted_X0 0 rfl rfl 2 (by decide) (by decide +kernel : Cond.fieldLink RX0 19 (TX0 2).1 (TX0 2).2.1 (TX0 2).2.2.1 ∈ wsX0_isDrifted) rfl dX0_isDrifted_18 ?_
    refine jr_iload_n (pc := 21) hh 1 dX0_isDrifted_21 rfl rfl ?_
    refine jr_iald (F := (F 2)) (pc := 22) hh 3 rfl k (by omega) (by omega) (by decide) dX0_isDrifted_22 ?_
    refine jr_icmp_le (tgt := 30) (pc := 23) hh dX0_isDrifted_23 (by decide) ⟨by omega, by omega⟩ ⟨by omega, by omega⟩ (fun c2 => ?_) (fun c2 => ?_)
    · skip
      refine jr_iconst (pc := 30) hh dX0_isDrifted_30 ?_
      exact jr_iret (pc := 31) hh hret rfl ⟨jsi (by unfold drf; split <;> omega), rfl⟩ (by decide) (by decide) dX0_isDrifted_31
    · skip
      refine jr_iconst (pc := 26) hh dX0_isDrifted_26 ?_
      refine jr_goto (tgt := 31) (pc := 27) hh dX0_isDrifted_27 (by decide) ?_
      exact jr_iret (pc := 31) hh hret rfl ⟨jsi (by unfold drf; split <;> omega), rfl⟩ (by decide) (by decide) dX0_isDrifted_31
set_option maxRecDepth 20000 in
theorem in_X0_reopenIfDrifted_X0 : ∀ w ∈ u_ws RX0 TX0 3, w ∈ wsX0_reopenIfDrifted := by decide +kernel
set_option maxHeartbeats 4000000 in
set_option maxRecDepth 100000 in
theorem c_X0_reopenIfDrifted (l : Launch) (G : jG) (h : Nat → Nat) (F : Nat → Nat → Int) (k : Nat) (n : Int) (hk : k < 120) (hn : -1000000000 ≤ n ∧ n ≤ 99999999) (hst : 0 ≤ (F 0) k ∧ (F 0) k ≤ 65535) (hkn : -99999999 ≤ (F 1) k ∧ (F 1) k ≤ 99999999) (htl : 0 ≤ (F 2) k ∧ (F 2) k ≤ 9999) : jMet l yX0_reopenIfDrifted wsX0_reopenIfDrifted { frames := 3, cells := 0, slots := 0, locals := 120 } G (wA G h F) [.ref (h 0), .int (iI (k : Int)), .int (iI n)] (fun rv w1 => rv = some (.int (iI (ropB (F 0) k n ((F 1) k) ((F 2) k)))) ∧ w1 = wA G h (uF F 0 (rop (F 0) k n ((F 1) k) ((F 2) k)))) := by
  refine jMet_of (cc := cX0_reopenIfDrifted) (maxL := 3) (ret := (some .boolean)) (by decide +kernel) rfl (Nat.le_of_ble_eq_true rfl) ?_
  intro p e s m args below meth c A hh hret hinit
  refine jr_loc (lv' := [(0, .ref (h 0)), (1, .int (iI (k : Int))), (2, .int (iI n))]) [0, 1, 2] rfl ?_
  refine jr_aload_n (pc := 0) hh 0 dX0_reopenIfDrifted_0 rfl rfl ?_
  refine jr_get (v := .ref (h 1)) (pc := 1) hh in_X0_reopenIfDrifted_X0 0 rfl rfl 0 (by decide) (by decide +kernel : Cond.fieldLink RX0 9 (TX0 0).1 (TX0 0).2.1 (TX0 0).2.2.1 ∈ wsX0_reopenIfDrifted) rfl dX0_reopenIfDrifted_1 ?_
  refine jr_iload_n (pc := 4) hh 1 dX0_reopenIfDrifted_4 rfl rfl ?_
  refine jr_cald (F := (F 0)) (pc := 5) hh 1 rfl k (by omega) (by omega) (by decide) dX0_reopenIfDrifted_5 ?_
  refine jr_bipush (pc := 6) hh dX0_reopenIfDrifted_6 (by decide) ?_
  refine jr_icmp_ne (tgt := 20) (pc := 8) hh dX0_reopenIfDrifted_8 (by decide) ⟨by omega, by omega⟩ ⟨by omega, by omega⟩ (fun c1 => ?_) (fun c1 => ?_)
  · skip
    refine jr_iconst (pc := 20) hh dX0_reopenIfDrifted_20 ?_
    exact jr_iret (pc := 21) hh hret rfl ⟨jsi (by unfold ropB; rw [if_neg (by omega)]), by unfold rop; rw [if_neg (by omega)]; rfl⟩ (by decide) (by decide) dX0_reopenIfDrifted_21
  · skip
    refine jr_aload_n (pc := 11) hh 0 dX0_reopenIfDrifted_11 rfl rfl ?_
    refine jr_iload_n (pc := 12) hh 1 dX0_reopenIfDrifted_12 rfl rfl ?_
    refine jr_iload_n (pc := 13) hh 2 dX0_reopenIfDrifted_13 rfl rfl ?_
    refine jr_callV (pc := 14) hh [.int (iI (k : Int)), .int (iI n)] [] (c_X0_isDrifted l G h F k n hk hn hkn htl) gX0_reopenIfDrifted_X0_isDrifted rfl (by decide) (by decide) [0, 1, 2, 3] [] rfl rfl rfl rfl (by decide) 0 rfl rfl 2 rfl rfl (Nat.le_of_ble_eq_true rfl) (by decide +kernel) dX0_reopenIfDrifted_14 (fun rvu2 wu2 hu2 => ?_)
    obtain ⟨rfl, rfl⟩ := hu2
    refine jr_perm (ws' := (wA G h F)) (st := [.int (iI (drf n ((F 1) k) ((F 2) k)))]) [0, 1, 2, 3] rfl rfl ?_
    have hdr := drf_01 n ((F 1) k) ((F 2) k)
    refine jr_if_ne (tgt := 22) (pc := 17) hh dX0_reopenIfDrifted_17 (by decide) ⟨by omega, by omega⟩ (fun c3 => ?_) (fun c3 => ?_)
    · skip
      refine jr_aload_n (pc := 22) hh 0 dX0_reopenIfDrifted_22 rfl rfl ?_
      refine jr_get (v := .ref (h 1)) (pc := 23) hh in_X0_reopenIfDrifted_X0 0 rfl rfl 0 (by decide) (by decide +kernel : Cond.fieldLink RX0 9 (TX0 0).1 (TX0 0).2.1 (TX0 0).2.2.1 ∈ wsX0_reopenIfDrifted) rfl dX0_reopenIfDrifted_23 ?_
      refine jr_iload_n (pc := 26) hh 1 dX0_reopenIfDrifted_26 rfl rfl ?_
      refine jr_bipush (pc := 27) hh dX0_reopenIfDrifted_27 (by decide) ?_
      refine jr_cast (F := (F 0)) (ws' := (wA G h (uF F 0 (jU (F 0) k 111)))) (pc := 29) hh 1 rfl k (by omega) (by omega) (by decide) ⟨by omega, by omega⟩ rfl dX0_reopenIfDrifted_29 ?_
      refine jr_iconst (pc := 30) hh dX0_reopenIfDrifted_30 ?_
      exact jr_iret (pc := 31) hh hret rfl ⟨jsi (by unfold ropB; rw [if_pos ⟨by omega, by omega⟩]), by unfold rop; rw [if_pos ⟨by omega, by omega⟩]⟩ (by decide) (by decide) dX0_reopenIfDrifted_31
    · skip
      refine jr_iconst (pc := 20) hh dX0_reopenIfDrifted_20 ?_
      exact jr_iret (pc := 21) hh hret rfl ⟨jsi (by unfold ropB; rw [if_neg (by omega)]), by unfold rop; rw [if_neg (by omega)]; rfl⟩ (by decide) (by decide) dX0_reopenIfDrifted_21
set_option maxRecDepth 20000 in
theorem in_X0_countIn_X0 : ∀ w ∈ u_ws RX0 TX0 3, w ∈ wsX0_countIn := by decide +kernel
set_option maxHeartbeats 4000000 in
set_option maxRecDepth 100000 in
theorem c_X0_countIn (l : Launch) (G : jG) (h : Nat → Nat) (F : Nat → Nat → Int) (w : Int) (hw : 0 ≤ w ∧ w ≤ 65535) (h0 : ∀ k, k < 120 → 0 ≤ (F 0) k ∧ (F 0) k ≤ 65535) : jMet l yX0_countIn wsX0_countIn { frames := 1, cells := 0, slots := 0, locals := 30 } G (wA G h F) [.ref (h 0), .int (iI w)] (fun rv w1 => rv = some (.int (iI (cntTo (F 0) w 120))) ∧ w1 = wA G h F) := by
  refine jMet_of (cc := cX0_countIn) (maxL := 4) (ret := (some .int)) (by decide +kernel) rfl (Nat.le_of_ble_eq_true rfl) ?_
  intro p e s m args below meth c A hh hret hinit
  refine jr_loc (lv' := [(0, .ref (h 0)), (1, .int (iI w))]) [0, 1] rfl ?_
  refine jr_iconst (pc := 0) hh dX0_countIn_0 ?_
  refine jr_istore_n (lv' := [(2, .int (iI 0)), (0, .ref (h 0)), (1, .int (iI w))]) (pc := 1) hh dX0_countIn_1 rfl (by decide) rfl ?_
  refine jr_iconst (pc := 2) hh dX0_countIn_2 ?_
  refine jr_istore_n (lv' := [(3, .int (iI 0)), (2, .int (iI 0)), (0, .ref (h 0)), (1, .int (iI w))]) (pc := 3) hh dX0_countIn_3 rfl (by decide) rfl ?_
  refine jr_loc (lv' := [(0, .ref (h 0)), (1, .int (iI w)), (2, .int (iI 0)), (3, .int (iI 0))]) [2, 3, 1, 0] rfl ?_
  refine jr_lvset (a := 0) (b := (cntTo (F 0) w 0)) (lv' := [(0, .ref (h 0)), (1, .int (iI w)), (2, .int (iI (cntTo (F 0) w 0))), (3, .int (iI 0))]) 2 rfl (by first | rfl | (rw [cntTo_s]; split <;> omega)) rfl ?_
  refine jr_lvset (a := 0) (b := ((0 : Nat) : Int)) (lv' := [(0, .ref (h 0)), (1, .int (iI w)), (2, .int (iI (cntTo (F 0) w 0))), (3, .int (iI ((0 : Nat) : Int)))]) 3 rfl (by first | rfl | omega) rfl ?_
  refine jr_loop (σ := Nat) (fun (i : Nat) => (i ≤ 120)) (fun (i : Nat) => 120 - i) (fun (i : Nat) => (wA G h F)) (fun (i : Nat) => [(0, .ref (h 0)), (1, .int (iI w)), (2, .int (iI (cntTo (F 0) w i))), (3, .int (iI (i : Int)))]) (fun (i : Nat) => []) ?_ (0) (by decide)
  rintro i hi ih1
  dsimp only at ih1 ⊢
  try dsimp only at hi
  have hcb := cntTo_bound (F 0) w i
  refine jr_iload_n (pc := 4) hh 3 dX0_countIn_4 rfl rfl ?_
  refine jr_bipush (pc := 5) hh dX0_countIn_5 (by decide) ?_
  refine jr_icmp_ge (tgt := 29) (pc := 7) hh dX0_countIn_7 (by decide) ⟨by omega, by omega⟩ ⟨by omega, by omega⟩ (fun c2 => ?_) (fun c2 => ?_)
  · skip
    refine jr_iload_n (pc := 29) hh 2 dX0_countIn_29 rfl rfl ?_
    exact jr_iret (pc := 30) hh hret rfl ⟨jsi (by rw [show i = 120 by omega]), rfl⟩ (by decide) (by decide) dX0_countIn_30
  · skip
    have hF := h0 i (by omega)
    refine jr_aload_n (pc := 10) hh 0 dX0_countIn_10 rfl rfl ?_
    refine jr_get (v := .ref (h 1)) (pc := 11) hh in_X0_countIn_X0 0 rfl rfl 0 (by decide) (by decide +kernel : Cond.fieldLink RX0 9 (TX0 0).1 (TX0 0).2.1 (TX0 0).2.2.1 ∈ wsX0_countIn) rfl dX0_countIn_11 ?_
    refine jr_iload_n (pc := 14) hh 3 dX0_countIn_14 rfl rfl ?_
    refine jr_cald (F := (F 0)) (pc := 15) hh 1 rfl i (by omega) (by omega) (by decide) dX0_countIn_15 ?_
    refine jr_iload_n (pc := 16) hh 1 dX0_countIn_16 rfl rfl ?_
    refine jr_icmp_ne (tgt := 23) (pc := 17) hh dX0_countIn_17 (by decide) ⟨by omega, by omega⟩ ⟨by omega, by omega⟩ (fun c3 => ?_) (fun c3 => ?_)
    · skip
      refine jr_iinc (a := (i : Int)) (b := (((i + 1) : Nat) : Int)) (lv' := [(3, .int (iI (((i + 1) : Nat) : Int))), (0, .ref (h 0)), (1, .int (iI w)), (2, .int (iI (cntTo (F 0) w i)))]) (pc := 23) hh 3 dX0_countIn_23 rfl (by omega) (by decide) rfl ?_
      refine jr_goto (tgt := 4) (pc := 26) hh dX0_countIn_26 (by decide) ?_
      refine jr_loc (lv' := [(0, .ref (h 0)), (1, .int (iI w)), (2, .int (iI (cntTo (F 0) w i))), (3, .int (iI (((i + 1) : Nat) : Int)))]) [1, 2, 3, 0] rfl ?_
      refine jr_lvset (a := (cntTo (F 0) w i)) (b := (cntTo (F 0) w (i + 1))) (lv' := [(0, .ref (h 0)), (1, .int (iI w)), (2, .int (iI (cntTo (F 0) w (i + 1)))), (3, .int (iI (((i + 1) : Nat) : Int)))]) 2 rfl (by first | rfl | (rw [cntTo_s]; split <;> omega)) rfl ?_
      exact ih1 ((i + 1)) (by (try dsimp only); omega) (by (try dsimp only); omega)
    · skip
      refine jr_iinc (a := (cntTo (F 0) w i)) (b := ((cntTo (F 0) w i) + 1)) (lv' := [(2, .int (iI ((cntTo (F 0) w i) + 1))), (0, .ref (h 0)), (1, .int (iI w)), (3, .int (iI (i : Int)))]) (pc := 20) hh 2 dX0_countIn_20 rfl (by omega) (by decide) rfl ?_
      refine jr_iinc (a := (i : Int)) (b := (((i + 1) : Nat) : Int)) (lv' := [(3, .int (iI (((i + 1) : Nat) : Int))), (2, .int (iI ((cntTo (F 0) w i) + 1))), (0, .ref (h 0)), (1, .int (iI w))]) (pc := 23) hh 3 dX0_countIn_23 rfl (by omega) (by decide) rfl ?_
      refine jr_goto (tgt := 4) (pc := 26) hh dX0_countIn_26 (by decide) ?_
      refine jr_loc (lv' := [(0, .ref (h 0)), (1, .int (iI w)), (2, .int (iI ((cntTo (F 0) w i) + 1))), (3, .int (iI (((i + 1) : Nat) : Int)))]) [2, 3, 1, 0] rfl ?_
      refine jr_lvset (a := ((cntTo (F 0) w i) + 1)) (b := (cntTo (F 0) w (i + 1))) (lv' := [(0, .ref (h 0)), (1, .int (iI w)), (2, .int (iI (cntTo (F 0) w (i + 1)))), (3, .int (iI (((i + 1) : Nat) : Int)))]) 2 rfl (by first | rfl | (rw [cntTo_s]; split <;> omega)) rfl ?_
      exact ih1 ((i + 1)) (by (try dsimp only); omega) (by (try dsimp only); omega)
set_option maxRecDepth 20000 in
theorem in_X0_sumOfTolerances_X0 : ∀ w ∈ u_ws RX0 TX0 3, w ∈ wsX0_sumOfTolerances := by decide +kernel
set_option maxHeartbeats 4000000 in
set_option maxRecDepth 100000 in
theorem c_X0_sumOfTolerances (l : Launch) (G : jG) (h : Nat → Nat) (F : Nat → Nat → Int) (h0 : ∀ k, k < 120 → 0 ≤ (F 2) k ∧ (F 2) k ≤ 9999) : jMet l yX0_sumOfTolerances wsX0_sumOfTolerances { frames := 1, cells := 0, slots := 0, locals := 30 } G (wA G h F) [.ref (h 0)] (fun rv w1 => rv = some (.int (iI (sumTo (F 2) 120))) ∧ w1 = wA G h F) := by
  refine jMet_of (cc := cX0_sumOfTolerances) (maxL := 3) (ret := (some .int)) (by decide +kernel) rfl (Nat.le_of_ble_eq_true rfl) ?_
  intro p e s m args below meth c A hh hret hinit
  refine jr_loc (lv' := [(0, .ref (h 0))]) [0] rfl ?_
  refine jr_iconst (pc := 0) hh dX0_sumOfTolerances_0 ?_
  refine jr_istore_n (lv' := [(1, .int (iI 0)), (0, .ref (h 0))]) (pc := 1) hh dX0_sumOfTolerances_1 rfl (by decide) rfl ?_
  refine jr_iconst (pc := 2) hh dX0_sumOfTolerances_2 ?_
  refine jr_istore_n (lv' := [(2, .int (iI 0)), (1, .int (iI 0)), (0, .ref (h 0))]) (pc := 3) hh dX0_sumOfTolerances_3 rfl (by decide) rfl ?_
  refine jr_loc (lv' := [(0, .ref (h 0)), (1, .int (iI 0)), (2, .int (iI 0))]) [2, 1, 0] rfl ?_
  refine jr_lvset (a := 0) (b := (sumTo (F 2) 0)) (lv' := [(0, .ref (h 0)), (1, .int (iI (sumTo (F 2) 0))), (2, .int (iI 0))]) 1 rfl (by first | rfl | exact (sumTo_s _ _).symm) rfl ?_
  refine jr_lvset (a := 0) (b := ((0 : Nat) : Int)) (lv' := [(0, .ref (h 0)), (1, .int (iI (sumTo (F 2) 0))), (2, .int (iI ((0 : Nat) : Int)))]) 2 rfl (by first | rfl | omega) rfl ?_
  refine jr_loop (σ := Nat) (fun (i : Nat) => (i ≤ 120)) (fun (i : Nat) => 120 - i) (fun (i : Nat) => (wA G h F)) (fun (i : Nat) => [(0, .ref (h 0)), (1, .int (iI (sumTo (F 2) i))), (2, .int (iI (i : Int)))]) (fun (i : Nat) => []) ?_ (0) (by decide)
  rintro i hi ih1
  dsimp only at ih1 ⊢
  try dsimp only at hi
  refine jr_iload_n (pc := 4) hh 2 dX0_sumOfTolerances_4 rfl rfl ?_
  refine jr_bipush (pc := 5) hh dX0_sumOfTolerances_5 (by decide) ?_
  refine jr_icmp_ge (tgt := 25) (pc := 7) hh dX0_sumOfTolerances_7 (by decide) ⟨by omega, by omega⟩ ⟨by omega, by omega⟩ (fun c2 => ?_) (fun c2 => ?_)
  · skip
    refine jr_iload_n (pc := 25) hh 1 dX0_sumOfTolerances_25 rfl rfl ?_
    exact jr_iret (pc := 26) hh hret rfl ⟨jsi (by rw [show i = 120 by omega]), rfl⟩ (by decide) (by decide) dX0_sumOfTolerances_26
  · skip
    refine jr_iload_n (pc := 10) hh 1 dX0_sumOfTolerances_10 rfl rfl ?_
    refine jr_aload_n (pc := 11) hh 0 dX0_sumOfTolerances_11 rfl rfl ?_
    refine jr_get (v := .ref (h 3)) (pc := 12) hh in_X0_sumOfTolerances_X0 0 rfl rfl 2 (by decide) (by decide +kernel : Cond.fieldLink RX0 19 (TX0 2).1 (TX0 2).2.1 (TX0 2).2.2.1 ∈ wsX0_sumOfTolerances) rfl dX0_sumOfTolerances_12 ?_
    refine jr_iload_n (pc := 15) hh 2 dX0_sumOfTolerances_15 rfl rfl ?_
    refine jr_iald (F := (F 2)) (pc := 16) hh 3 rfl i (by omega) (by omega) (by decide) dX0_sumOfTolerances_16 ?_
    refine jr_iadd (pc := 17) hh dX0_sumOfTolerances_17 ?_
    refine jr_istore_n (lv' := [(1, .int (iI ((sumTo (F 2) i) + ((F 2) i)))), (0, .ref (h 0)), (2, .int (iI (i : Int)))]) (pc := 18) hh dX0_sumOfTolerances_18 rfl (by decide) rfl ?_
    refine jr_iinc (a := (i : Int)) (b := (((i + 1) : Nat) : Int)) (lv' := [(2, .int (iI (((i + 1) : Nat) : Int))), (1, .int (iI ((sumTo (F 2) i) + ((F 2) i)))), (0, .ref (h 0))]) (pc := 19) hh 2 dX0_sumOfTolerances_19 rfl (by omega) (by decide) rfl ?_
    refine jr_goto (tgt := 4) (pc := 22) hh dX0_sumOfTolerances_22 (by decide) ?_
    refine jr_loc (lv' := [(0, .ref (h 0)), (1, .int (iI ((sumTo (F 2) i) + ((F 2) i)))), (2, .int (iI (((i + 1) : Nat) : Int)))]) [2, 1, 0] rfl ?_
    refine jr_lvset (a := ((sumTo (F 2) i) + ((F 2) i))) (b := (sumTo (F 2) (i + 1))) (lv' := [(0, .ref (h 0)), (1, .int (iI (sumTo (F 2) (i + 1)))), (2, .int (iI (((i + 1) : Nat) : Int)))]) 1 rfl (by first | rfl | exact (sumTo_s _ _).symm) rfl ?_
    exact ih1 ((i + 1)) (by (try dsimp only); omega) (by (try dsimp only); omega)
set_option maxRecDepth 20000 in
theorem in_X2_add_X2 : ∀ w ∈ u_ws RX2 TX2 5, w ∈ wsX2_add := by decide +kernel
set_option maxHeartbeats 4000000 in
set_option maxRecDepth 100000 in
theorem c_X2_add (l : Launch) (G : jG) (h : Nat → Nat) (F : Nat → Nat → Int) (V : Nat → Int) (pr : Int) (hc : 0 ≤ V 0 ∧ V 0 < 4) : jMet l yX2_add wsX2_add { frames := 1, cells := 0, slots := 0, locals := 30 } G (wS G h F V) [.ref (h 0), .int (iI pr)] (fun rv w1 => rv = some (.int (iI (V 0))) ∧ w1 = wS G h (uF F 0 (jU (F 0) (V 0).toNat pr)) (jU V 0 (V 0 + 1))) := by
  refine jMet_of (cc := cX2_add) (maxL := 2) (ret := (some .int)) (by decide +kernel) rfl (Nat.le_of_ble_eq_true rfl) ?_
  intro p e s m args below meth c A hh hret hinit
  refine jr_loc (lv' := [(0, .ref (h 0)), (1, .int (iI pr))]) [0, 1] rfl ?_
  refine jr_aload_n (pc := 0) hh 0 dX2_add_0 rfl rfl ?_
  refine jr_get (v := .ref (h 1)) (pc := 1) hh in_X2_add_X2 0 rfl rfl 0 (by decide) (by decide +kernel : Cond.fieldLink RX2 9 (TX2 0).1 (TX2 0).2.1 (TX2 0).2.2.1 ∈ wsX2_add) rfl dX2_add_1 ?_
  refine jr_aload_n (pc := 4) hh 0 dX2_add_4 rfl rfl ?_
  refine jr_get (v := .int (iI (V 0))) (pc := 5) hh in_X2_add_X2 0 rfl rfl 3 (by decide) (by decide +kernel : Cond.fieldLink RX2 21 (TX2 3).1 (TX2 3).2.1 (TX2 3).2.2.1 ∈ wsX2_add) rfl dX2_add_5 ?_
  refine jr_iload_n (pc := 8) hh 1 dX2_add_8 rfl rfl ?_
  refine jr_iast (F := (F 0)) (ws' := (wS G h (uF F 0 (jU (F 0) ((V 0).toNat) pr)) V)) (pc := 9) hh 1 rfl ((V 0).toNat) (by omega) (by omega) (by decide) rfl dX2_add_9 ?_
  refine jr_aload_n (pc := 10) hh 0 dX2_add_10 rfl rfl ?_
  refine jr_dup (pc := 11) hh dX2_add_11 rfl ?_
  refine jr_get (v := .int (iI (V 0))) (pc := 12) hh in_X2_add_X2 0 rfl rfl 3 (by decide) (by decide +kernel : Cond.fieldLink RX2 21 (TX2 3).1 (TX2 3).2.1 (TX2 3).2.2.1 ∈ wsX2_add) rfl dX2_add_12 ?_
  refine jr_iconst (pc := 15) hh dX2_add_15 ?_
  refine jr_iadd (pc := 16) hh dX2_add_16 ?_
  refine jr_put (ws' := (wS G h (uF F 0 (jU (F 0) ((V 0).toNat) pr)) (jU V 0 ((V 0) + 1)))) (pc := 17) hh in_X2_add_X2 tyX2_ok nmX2 0 rfl rfl 3 (by decide) (by decide +kernel : Cond.fieldLink RX2 21 (TX2 3).1 (TX2 3).2.1 (TX2 3).2.2.1 ∈ wsX2_add) rfl rfl (Nat.le_of_ble_eq_true rfl) rfl dX2_add_17 ?_
  refine jr_aload_n (pc := 20) hh 0 dX2_add_20 rfl rfl ?_
  refine jr_get (v := .int (iI ((V 0) + 1))) (pc := 21) hh in_X2_add_X2 0 rfl rfl 3 (by decide) (by decide +kernel : Cond.fieldLink RX2 21 (TX2 3).1 (TX2 3).2.1 (TX2 3).2.2.1 ∈ wsX2_add) rfl dX2_add_21 ?_
  refine jr_iconst (pc := 24) hh dX2_add_24 ?_
  refine jr_isub (pc := 25) hh dX2_add_25 ?_
  exact jr_iret (pc := 26) hh hret rfl ⟨jsi (by omega), rfl⟩ (by decide) (by decide) dX2_add_26
set_option maxHeartbeats 4000000 in
set_option maxRecDepth 100000 in
theorem c_X2_place (l : Launch) (G : jG) (s0 d0 t0 : Nat) : jMet l yX2_place wsX2_place { frames := 1, cells := 0, slots := 0, locals := 30 } G ([] : va_W) [.int (iI (s0 : Int)), .int (iI (d0 : Int)), .int (iI (t0 : Int))] (fun rv w1 => rv = some (.int (iI (((s0 * 6 + d0) * 12 + t0 : Nat) : Int))) ∧ w1 = []) := by
  refine jMet_of (cc := cX2_place) (maxL := 3) (ret := (some .int)) (by decide +kernel) rfl (Nat.le_of_ble_eq_true rfl) ?_
  intro p e s m args below meth c A hh hret hinit
  refine jr_loc (lv' := [(0, .int (iI (s0 : Int))), (1, .int (iI (d0 : Int))), (2, .int (iI (t0 : Int)))]) [0, 1, 2] rfl ?_
  refine jr_iload_n (pc := 0) hh 0 dX2_place_0 rfl rfl ?_
  refine jr_bipush (pc := 1) hh dX2_place_1 (by decide) ?_
  refine jr_imul (pc := 3) hh dX2_place_3 ?_
  refine jr_iload_n (pc := 4) hh 1 dX2_place_4 rfl rfl ?_
  refine jr_iadd (pc := 5) hh dX2_place_5 ?_
  refine jr_bipush (pc := 6) hh dX2_place_6 (by decide) ?_
  refine jr_imul (pc := 8) hh dX2_place_8 ?_
  refine jr_iload_n (pc := 9) hh 2 dX2_place_9 rfl rfl ?_
  refine jr_iadd (pc := 10) hh dX2_place_10 ?_
  exact jr_iret (pc := 11) hh hret rfl ⟨jsi (by omega), rfl⟩ (by decide) (by decide) dX2_place_11
set_option maxHeartbeats 4000000 in
set_option maxRecDepth 100000 in
theorem c_X3_cell (l : Launch) (G : jG) (i0 t0 : Nat) : jMet l yX3_cell wsX3_cell { frames := 1, cells := 0, slots := 0, locals := 30 } G ([] : va_W) [.int (iI (i0 : Int)), .int (iI (t0 : Int))] (fun rv w1 => rv = some (.int (iI ((i0 * 12 + t0 : Nat) : Int))) ∧ w1 = []) := by
  refine jMet_of (cc := cX3_cell) (maxL := 2) (ret := (some .int)) (by decide +kernel) rfl (Nat.le_of_ble_eq_true rfl) ?_
  intro p e s m args below meth c A hh hret hinit
  refine jr_loc (lv' := [(0, .int (iI (i0 : Int))), (1, .int (iI (t0 : Int)))]) [0, 1] rfl ?_
  refine jr_iload_n (pc := 0) hh 0 dX3_cell_0 rfl rfl ?_
  refine jr_bipush (pc := 1) hh dX3_cell_1 (by decide) ?_
  refine jr_imul (pc := 3) hh dX3_cell_3 ?_
  refine jr_iload_n (pc := 4) hh 1 dX3_cell_4 rfl rfl ?_
  refine jr_iadd (pc := 5) hh dX3_cell_5 ?_
  exact jr_iret (pc := 6) hh hret rfl ⟨jsi (by omega), rfl⟩ (by decide) (by decide) dX3_cell_6
set_option maxRecDepth 20000 in
theorem in_X2_addDifference_X2 : ∀ w ∈ u_ws RX2 TX2 5, w ∈ wsX2_addDifference := by decide +kernel
set_option maxHeartbeats 4000000 in
set_option maxRecDepth 100000 in
theorem c_X2_addDifference (l : Launch) (G : jG) (h : Nat → Nat) (F : Nat → Nat → Int) (V : Nat → Int) (sc dr fr : Nat) (x : Int) (hsc : sc < 4) (hdr : dr < 6) (hfr : fr < 12) : jMet l yX2_addDifference wsX2_addDifference { frames := 2, cells := 0, slots := 0, locals := 60 } G (wS G h F V) [.ref (h 0), .int (iI (sc : Int)), .int (iI (dr : Int)), .int (iI (fr : Int)), .int (iI x)] (fun rv w1 => rv = some (.int (iI (F 1 sc + 1))) ∧ w1 = wS G h (uF (uF F 1 (jU (F 1) sc (F 1 sc + 1))) 2 (adU (F 2) (sc * 6 + dr) fr 12 x)) (jU V 1 (V 1 + 1))) := by
  refine jMet_of (cc := cX2_addDifference) (maxL := 6) (ret := (some .int)) (by decide +kernel) rfl (Nat.le_of_ble_eq_true rfl) ?_
  intro p e s m args below meth c A hh hret hinit
  refine jr_loc (lv' := [(0, .ref (h 0)), (1, .int (iI (sc : Int))), (2, .int (iI (dr : Int))), (3, .int (iI (fr : Int))), (4, .int (iI x))]) [0, 1, 2, 3, 4] rfl ?_
  refine jr_iload_n (pc := 0) hh 3 dX2_addDifference_0 rfl rfl ?_
  refine jr_istore (lv' := [(5, .int (iI (fr : Int))), (0, .ref (h 0)), (1, .int (iI (sc : Int))), (2, .int (iI (dr : Int))), (3, .int (iI (fr : Int))), (4, .int (iI x))]) (pc := 1) hh dX2_addDifference_1 (by decide) rfl ?_
  refine jr_loc (lv' := [(0, .ref (h 0)), (1, .int (iI (sc : Int))), (2, .int (iI (dr : Int))), (3, .int (iI (fr : Int))), (4, .int (iI x)), (5, .int (iI (fr : Int)))]) [1, 2, 3, 4, 5, 0] rfl ?_
  refine jr_ws (ws' := (wS G h (uF F 2 (adU (F 2) (sc * 6 + dr) fr fr x)) V)) (by rw [adU_0]; rfl) ?_
  refine jr_loop (σ := Nat) (fun (t : Nat) => (fr ≤ t ∧ t ≤ 12)) (fun (t : Nat) => 12 - t) (fun (t : Nat) => (wS G h (uF F 2 (adU (F 2) (sc * 6 + dr) fr t x)) V)) (fun (t : Nat) => [(0, .ref (h 0)), (1, .int (iI (sc : Int))), (2, .int (iI (dr : Int))), (3, .int (iI (fr : Int))), (4, .int (iI x)), (5, .int (iI (t : Int)))]) (fun (t : Nat) => []) ?_ (fr) (by (try dsimp only); omega)
  rintro t ht ih1
  dsimp only at ih1 ⊢
  try dsimp only at ht
  refine jr_iload (pc := 3) hh 5 dX2_addDifference_3 rfl ?_
  refine jr_bipush (pc := 5) hh dX2_addDifference_5 (by decide) ?_
  refine jr_icmp_ge (tgt := 33) (pc := 7) hh dX2_addDifference_7 (by decide) ⟨by omega, by omega⟩ ⟨by omega, by omega⟩ (fun c2 => ?_) (fun c2 => ?_)
  · skip
    refine jr_aload_n (pc := 33) hh 0 dX2_addDifference_33 rfl rfl ?_
    refine jr_dup (pc := 34) hh dX2_addDifference_34 rfl ?_
    refine jr_get (v := .int (iI (V 1))) (pc := 35) hh in_X2_addDifference_X2 0 rfl rfl 4 (by decide) (by decide +kernel : Cond.fieldLink RX2 29 (TX2 4).1 (TX2 4).2.1 (TX2 4).2.2.1 ∈ wsX2_addDifference) rfl dX2_addDifference_35 ?_
    refine jr_iconst (pc := 38) hh dX2_addDifference_38 ?_
    refine jr_iadd (pc := 39) hh dX2_addDifference_39 ?_
    refine jr_put (ws' := (wS G h (uF F 2 (adU (F 2) (sc * 6 + dr) fr t x)) (jU V 1 ((V 1) + 1)))) (pc := 40) hh in_X2_addDifference_X2 tyX2_ok nmX2 0 rfl rfl 4 (by decide) (by decide +kernel : Cond.fieldLink RX2 29 (TX2 4).1 (TX2 4).2.1 (TX2 4).2.2.1 ∈ wsX2_addDifference) rfl rfl (Nat.le_of_ble_eq_true rfl) rfl dX2_addDifference_40 ?_
    refine jr_aload_n (pc := 43) hh 0 dX2_addDifference_43 rfl rfl ?_
    refine jr_get (v := .ref (h 2)) (pc := 44) hh in_X2_addDifference_X2 0 rfl rfl 1 (by decide) (by decide +kernel : Cond.fieldLink RX2 15 (TX2 1).1 (TX2 1).2.1 (TX2 1).2.2.1 ∈ wsX2_addDifference) rfl dX2_addDifference_44 ?_
    refine jr_iload_n (pc := 47) hh 1 dX2_addDifference_47 rfl rfl ?_
    refine jr_dup2_11 (pc := 48) hh dX2_addDifference_48 rfl rfl ?_
    refine jr_iald (F := (F 1)) (pc := 49) hh 2 rfl sc (by omega) (by omega) (by decide) dX2_addDifference_49 ?_
    refine jr_iconst (pc := 50) hh dX2_addDifference_50 ?_
    refine jr_iadd (pc := 51) hh dX2_addDifference_51 ?_
    refine jr_iast (F := (F 1)) (ws' := (wS G h (uF (uF F 1 (jU (F 1) sc (((F 1) sc) + 1))) 2 (adU (F 2) (sc * 6 + dr) fr t x)) (jU V 1 ((V 1) + 1)))) (pc := 52) hh 2 rfl sc (by omega) (by omega) (by decide) rfl dX2_addDifference_52 ?_
    refine jr_aload_n (pc := 53) hh 0 dX2_addDifference_53 rfl rfl ?_
    refine jr_get (v := .ref (h 2)) (pc := 54) hh in_X2_addDifference_X2 0 rfl rfl 1 (by decide) (by decide +kernel : Cond.fieldLink RX2 15 (TX2 1).1 (TX2 1).2.1 (TX2 1).2.2.1 ∈ wsX2_addDifference) rfl dX2_addDifference_54 ?_
    refine jr_iload_n (pc := 57) hh 1 dX2_addDifference_57 rfl rfl ?_
    refine jr_iald (F := (jU (F 1) sc (((F 1) sc) + 1))) (pc := 58) hh 2 rfl sc (by omega) (by omega) (by decide) dX2_addDifference_58 ?_
    exact jr_iret (pc := 59) hh hret rfl ⟨jsi (by rw [jU_s]), by rw [show t = 12 by omega]⟩ (by decide) (by decide) dX2_addDifference_59
  · skip
    refine jr_aload_n (pc := 10) hh 0 dX2_addDifference_10 rfl rfl ?_
    refine jr_get (v := .ref (h 3)) (pc := 11) hh in_X2_addDifference_X2 0 rfl rfl 2 (by decide) (by decide +kernel : Cond.fieldLink RX2 18 (TX2 2).1 (TX2 2).2.1 (TX2 2).2.2.1 ∈ wsX2_addDifference) rfl dX2_addDifference_11 ?_
    refine jr_iload_n (pc := 14) hh 1 dX2_addDifference_14 rfl rfl ?_
    refine jr_iload_n (pc := 15) hh 2 dX2_addDifference_15 rfl rfl ?_
    refine jr_iload (pc := 16) hh 5 dX2_addDifference_16 rfl ?_
    refine jr_callS (pc := 18) hh [.int (iI (sc : Int)), .int (iI (dr : Int)), .int (iI (t : Int))] [.ref (h 3)] (c_X2_place l G sc dr t) gX2_addDifference_X2_place rfl (by decide) (by decide) [] [0, 1, 2, 3] rfl rfl rfl rfl (by decide) 3 rfl rfl (Nat.le_of_ble_eq_true rfl) (by decide +kernel) dX2_addDifference_18 (fun rvu3 wu3 hu3 => ?_)
    obtain ⟨rfl, rfl⟩ := hu3
    refine jr_perm (ws' := (wS G h (uF F 2 (adU (F 2) (sc * 6 + dr) fr t x)) V)) (st := [.int (iI (((sc * 6 + dr) * 12 + t : Nat) : Int)), .ref (h 3)]) [0, 1, 2, 3] rfl rfl ?_
    refine jr_dup2_11 (pc := 21) hh dX2_addDifference_21 rfl rfl ?_
    refine jr_iald (F := (adU (F 2) (sc * 6 + dr) fr t x)) (pc := 22) hh 3 rfl ((sc * 6 + dr) * 12 + t) (by omega) (by omega) (by decide) dX2_addDifference_22 ?_
    refine jr_iload (pc := 23) hh 4 dX2_addDifference_23 rfl ?_
    refine jr_iadd (pc := 25) hh dX2_addDifference_25 ?_
    refine jr_iast (F := (adU (F 2) (sc * 6 + dr) fr t x)) (ws' := (wS G h (uF F 2 (jU (adU (F 2) (sc * 6 + dr) fr t x) ((sc * 6 + dr) * 12 + t) (((adU (F 2) (sc * 6 + dr) fr t x) ((sc * 6 + dr) * 12 + t)) + x))) V)) (pc := 26) hh 3 rfl ((sc * 6 + dr) * 12 + t) (by omega) (by omega) (by decide) rfl dX2_addDifference_26 ?_
    refine jr_iinc (a := (t : Int)) (b := (((t + 1) : Nat) : Int)) (lv' := [(5, .int (iI (((t + 1) : Nat) : Int))), (0, .ref (h 0)), (1, .int (iI (sc : Int))), (2, .int (iI (dr : Int))), (3, .int (iI (fr : Int))), (4, .int (iI x))]) (pc := 27) hh 5 dX2_addDifference_27 rfl (by omega) (by decide) rfl ?_
    refine jr_goto (tgt := 3) (pc := 30) hh dX2_addDifference_30 (by decide) ?_
    refine jr_loc (lv' := [(0, .ref (h 0)), (1, .int (iI (sc : Int))), (2, .int (iI (dr : Int))), (3, .int (iI (fr : Int))), (4, .int (iI x)), (5, .int (iI (((t + 1) : Nat) : Int)))]) [1, 2, 3, 4, 5, 0] rfl ?_
    refine jr_ws (ws' := (wS G h (uF F 2 (adU (F 2) (sc * 6 + dr) fr (t + 1) x)) V)) (by rw [← adU_s (F 2) (sc * 6 + dr) fr t x (by omega) (by omega)]) ?_
    exact ih1 ((t + 1)) (by (try dsimp only); omega) (by (try dsimp only); omega)
set_option maxRecDepth 20000 in
theorem in_X2_addedTo_X2 : ∀ w ∈ u_ws RX2 TX2 5, w ∈ wsX2_addedTo := by decide +kernel
set_option maxHeartbeats 4000000 in
set_option maxRecDepth 100000 in
theorem c_X2_addedTo (l : Launch) (G : jG) (h : Nat → Nat) (F : Nat → Nat → Int) (V : Nat → Int) (sc dr t : Nat) (hsc : sc < 4) (hdr : dr < 6) (ht : t < 12) (hp : ∀ k, 1 ≤ k → k ≤ sc → 0 ≤ F 0 k ∧ F 0 k < k) : jMet l yX2_addedTo wsX2_addedTo { frames := 2, cells := 0, slots := 0, locals := 60 } G (wS G h F V) [.ref (h 0), .int (iI (sc : Int)), .int (iI (dr : Int)), .int (iI (t : Int))] (fun rv w1 => rv = some (.int (iI (chS (F 0) (fun k => F 2 ((k * 6 + dr) * 12 + t)) sc (sc : Int)))) ∧ w1 = wS G h F V) := by
  refine jMet_of (cc := cX2_addedTo) (maxL := 7) (ret := (some .int)) (by decide +kernel) rfl (Nat.le_of_ble_eq_true rfl) ?_
  intro p e s m args below meth c A hh hret hinit
  refine jr_loc (lv' := [(0, .ref (h 0)), (1, .int (iI (sc : Int))), (2, .int (iI (dr : Int))), (3, .int (iI (t : Int)))]) [0, 1, 2, 3] rfl ?_
  refine jr_iconst (pc := 0) hh dX2_addedTo_0 ?_
  refine jr_istore (lv' := [(4, .int (iI 0)), (0, .ref (h 0)), (1, .int (iI (sc : Int))), (2, .int (iI (dr : Int))), (3, .int (iI (t : Int)))]) (pc := 1) hh dX2_addedTo_1 (by decide) rfl ?_
  refine jr_iload_n (pc := 3) hh 2 dX2_addedTo_3 rfl rfl ?_
  refine jr_istore (lv' := [(5, .int (iI (sc : Int))), (4, .int (iI 0)), (0, .ref (h 0)), (1, .int (iI (sc : Int))), (2, .int (iI (dr : Int))), (3, .int (iI (t : Int)))]) (pc := 4) hh dX2_addedTo_4 (by decide) rfl ?_
  refine jr_iload_n (pc := 6) hh 3 dX2_addedTo_6 rfl rfl ?_
  refine jr_istore (lv' := [(6, .int (iI (sc : Int))), (5, .int (iI (sc : Int))), (4, .int (iI 0)), (0, .ref (h 0)), (1, .int (iI (sc : Int))), (2, .int (iI (dr : Int))), (3, .int (iI (t : Int)))]) (pc := 7) hh dX2_addedTo_7 (by decide) rfl ?_
  refine jr_loc (lv' := [(0, .ref (h 0)), (1, .int (iI (sc : Int))), (2, .int (iI (dr : Int))), (3, .int (iI (t : Int))), (4, .int (iI 0)), (5, .int (iI (sc : Int))), (6, .int (iI (sc : Int)))]) [3, 4, 5, 6, 2, 1, 0] rfl ?_
  refine jr_loop (σ := Nat × Int × Int) (fun (x : Nat × Int × Int) => match x with | (cu, nx, sm) => (cu ≤ sc) ∧ (0 ≤ nx ∧ nx ≤ cu) ∧ (sm + chS (F 0) (fun k => F 2 ((k * 6 + dr) * 12 + t)) cu nx = chS (F 0) (fun k => F 2 ((k * 6 + dr) * 12 + t)) sc (sc : Int))) (fun (x : Nat × Int × Int) => match x with | (cu, nx, sm) => cu) (fun (x : Nat × Int × Int) => match x with | (cu, nx, sm) => (wS G h F V)) (fun (x : Nat × Int × Int) => match x with | (cu, nx, sm) => [(0, .ref (h 0)), (1, .int (iI (sc : Int))), (2, .int (iI (dr : Int))), (3, .int (iI (t : Int))), (4, .int (iI sm)), (5, .int (iI nx)), (6, .int (iI (cu : Int)))]) (fun (x : Nat × Int × Int) => match x with | (cu, nx, sm) => []) ?_ (sc, (sc : Int), 0) ⟨by (try dsimp only); omega, by (try dsimp only); omega, by (try dsimp only); omega⟩
  rintro ⟨cu, nx, sm⟩ ⟨hcu, hnx, hsm⟩ ih1
  dsimp only at ih1 ⊢
  try dsimp only at hcu hnx hsm
  refine jr_iload (pc := 9) hh 6 dX2_addedTo_9 rfl ?_
  refine jr_if_le (tgt := 53) (pc := 11) hh dX2_addedTo_11 (by decide) ⟨by omega, by omega⟩ (fun c2 => ?_) (fun c2 => ?_)
  · skip
    refine jr_iload (pc := 53) hh 4 dX2_addedTo_53 rfl ?_
    exact jr_iret (pc := 55) hh hret rfl ⟨jsi (by rw [← hsm, chS_0 (by omega), Int.add_zero]), rfl⟩ (by decide) (by decide) dX2_addedTo_55
  · skip
    refine jr_iload (pc := 14) hh 6 dX2_addedTo_14 rfl ?_
    refine jr_iload (pc := 16) hh 5 dX2_addedTo_16 rfl ?_
    refine jr_icmp_ne (tgt := 47) (pc := 18) hh dX2_addedTo_18 (by decide) ⟨by omega, by omega⟩ ⟨by omega, by omega⟩ (fun c3 => ?_) (fun c3 => ?_)
    · skip
      refine jr_iinc (a := (cu : Int)) (b := ((cu : Int) + (-1))) (lv' := [(6, .int (iI ((cu : Int) + (-1)))), (0, .ref (h 0)), (1, .int (iI (sc : Int))), (2, .int (iI (dr : Int))), (3, .int (iI (t : Int))), (4, .int (iI sm)), (5, .int (iI nx))]) (pc := 47) hh 6 dX2_addedTo_47 rfl (by omega) (by decide) rfl ?_
      refine jr_goto (tgt := 9) (pc := 50) hh dX2_addedTo_50 (by decide) ?_
      have hnew : sm + chS (F 0) (fun k => F 2 ((k * 6 + dr) * 12 + t)) (cu - 1) nx = chS (F 0) (fun k => F 2 ((k * 6 + dr) * 12 + t)) sc (sc : Int) := by
        rw [← hsm]
        rw [chS_fuel (c := sc + 1) (fun k h1 h2 => (hp k h1 (by omega)).2) (cu - 1) cu nx (by omega) (by omega) (by omega)]
      refine jr_loc (lv' := [(0, .ref (h 0)), (1, .int (iI (sc : Int))), (2, .int (iI (dr : Int))), (3, .int (iI (t : Int))), (4, .int (iI sm)), (5, .int (iI nx)), (6, .int (iI ((cu : Int) + (-1))))]) [1, 2, 3, 4, 5, 6, 0] rfl ?_
      refine jr_lvset (a := ((cu : Int) + (-1))) (b := (((cu - 1) : Nat) : Int)) (lv' := [(0, .ref (h 0)), (1, .int (iI (sc : Int))), (2, .int (iI (dr : Int))), (3, .int (iI (t : Int))), (4, .int (iI sm)), (5, .int (iI nx)), (6, .int (iI (((cu - 1) : Nat) : Int)))]) 6 rfl (by first | rfl | omega) rfl ?_
      exact ih1 ((cu - 1), nx, sm) ⟨by (try dsimp only); omega, by (try dsimp only); omega, hnew⟩ (by (try dsimp only); omega)
    · skip
      refine jr_iload (pc := 21) hh 4 dX2_addedTo_21 rfl ?_
      refine jr_aload_n (pc := 23) hh 0 dX2_addedTo_23 rfl rfl ?_
      refine jr_get (v := .ref (h 3)) (pc := 24) hh in_X2_addedTo_X2 0 rfl rfl 2 (by decide) (by decide +kernel : Cond.fieldLink RX2 18 (TX2 2).1 (TX2 2).2.1 (TX2 2).2.2.1 ∈ wsX2_addedTo) rfl dX2_addedTo_24 ?_
      refine jr_iload (pc := 27) hh 6 dX2_addedTo_27 rfl ?_
      refine jr_iload_n (pc := 29) hh 2 dX2_addedTo_29 rfl rfl ?_
      refine jr_iload_n (pc := 30) hh 3 dX2_addedTo_30 rfl rfl ?_
      refine jr_callS (pc := 31) hh [.int (iI (cu : Int)), .int (iI (dr : Int)), .int (iI (t : Int))] [.ref (h 3), .int (iI sm)] (c_X2_place l G cu dr t) gX2_addedTo_X2_place rfl (by decide) (by decide) [] [0, 1, 2, 3] rfl rfl rfl rfl (by decide) 3 rfl rfl (Nat.le_of_ble_eq_true rfl) (by decide +kernel) dX2_addedTo_31 (fun rvu4 wu4 hu4 => ?_)
      obtain ⟨rfl, rfl⟩ := hu4
      refine jr_perm (ws' := (wS G h F V)) (st := [.int (iI (((cu * 6 + dr) * 12 + t : Nat) : Int)), .ref (h 3), .int (iI sm)]) [0, 1, 2, 3] rfl rfl ?_
      refine jr_iald (F := (F 2)) (pc := 34) hh 3 rfl ((cu * 6 + dr) * 12 + t) (by omega) (by omega) (by decide) dX2_addedTo_34 ?_
      refine jr_iadd (pc := 35) hh dX2_addedTo_35 ?_
      refine jr_istore (lv' := [(4, .int (iI (sm + ((F 2) ((cu * 6 + dr) * 12 + t))))), (0, .ref (h 0)), (1, .int (iI (sc : Int))), (2, .int (iI (dr : Int))), (3, .int (iI (t : Int))), (5, .int (iI nx)), (6, .int (iI (cu : Int)))]) (pc := 36) hh dX2_addedTo_36 (by decide) rfl ?_
      have hpc := hp cu (by omega) (by omega)
      refine jr_aload_n (pc := 38) hh 1 dX2_addedTo_38 rfl rfl ?_
      refine jr_get (v := .ref (h 1)) (pc := 39) hh in_X2_addedTo_X2 0 rfl rfl 0 (by decide) (by decide +kernel : Cond.fieldLink RX2 9 (TX2 0).1 (TX2 0).2.1 (TX2 0).2.2.1 ∈ wsX2_addedTo) rfl dX2_addedTo_39 ?_
      refine jr_iload (pc := 42) hh 6 dX2_addedTo_42 rfl ?_
      refine jr_iald (F := (F 0)) (pc := 44) hh 1 rfl cu (by omega) (by omega) (by decide) dX2_addedTo_44 ?_
      refine jr_istore (lv' := [(5, .int (iI ((F 0) cu))), (4, .int (iI (sm + ((F 2) ((cu * 6 + dr) * 12 + t))))), (0, .ref (h 0)), (1, .int (iI (sc : Int))), (2, .int (iI (dr : Int))), (3, .int (iI (t : Int))), (6, .int (iI (cu : Int)))]) (pc := 45) hh dX2_addedTo_45 (by decide) rfl ?_
      refine jr_iinc (a := (cu : Int)) (b := ((cu : Int) + (-1))) (lv' := [(6, .int (iI ((cu : Int) + (-1)))), (5, .int (iI ((F 0) cu))), (4, .int (iI (sm + ((F 2) ((cu * 6 + dr) * 12 + t))))), (0, .ref (h 0)), (1, .int (iI (sc : Int))), (2, .int (iI (dr : Int))), (3, .int (iI (t : Int)))]) (pc := 47) hh 6 dX2_addedTo_47 rfl (by omega) (by decide) rfl ?_
      refine jr_goto (tgt := 9) (pc := 50) hh dX2_addedTo_50 (by decide) ?_
      have hnew : (sm + F 2 ((cu * 6 + dr) * 12 + t)) + chS (F 0) (fun k => F 2 ((k * 6 + dr) * 12 + t)) (cu - 1) (F 0 cu) = chS (F 0) (fun k => F 2 ((k * 6 + dr) * 12 + t)) sc (sc : Int) := by
        rw [← hsm]
        obtain ⟨c0, rfl⟩ : ∃ c0, cu = c0 + 1 := ⟨cu - 1, by omega⟩
        rw [show nx = ((c0 + 1 : Nat) : Int) by omega, chS_s (by omega), Int.toNat_natCast, Nat.add_sub_cancel]
        omega
      refine jr_loc (lv' := [(0, .ref (h 0)), (1, .int (iI (sc : Int))), (2, .int (iI (dr : Int))), (3, .int (iI (t : Int))), (4, .int (iI (sm + ((F 2) ((cu * 6 + dr) * 12 + t))))), (5, .int (iI ((F 0) cu))), (6, .int (iI ((cu : Int) + (-1))))]) [3, 4, 5, 6, 2, 1, 0] rfl ?_
      refine jr_lvset (a := ((cu : Int) + (-1))) (b := (((cu - 1) : Nat) : Int)) (lv' := [(0, .ref (h 0)), (1, .int (iI (sc : Int))), (2, .int (iI (dr : Int))), (3, .int (iI (t : Int))), (4, .int (iI (sm + ((F 2) ((cu * 6 + dr) * 12 + t))))), (5, .int (iI ((F 0) cu))), (6, .int (iI (((cu - 1) : Nat) : Int)))]) 6 rfl (by first | rfl | omega) rfl ?_
      exact ih1 ((cu - 1), ((F 0) cu), (sm + ((F 2) ((cu * 6 + dr) * 12 + t)))) ⟨by (try dsimp only); omega, by (try dsimp only); omega, hnew⟩ (by (try dsimp only); omega)
