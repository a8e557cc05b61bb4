/-! leaves: Approvals, Scenarios -/
def drf (n kn tl : Int) : Int := if n = -1000000000 ∨ tl < ((n - kn).natAbs : Int) then 1 else 0
theorem drf_01 (n kn tl : Int) : drf n kn tl = 0 ∨ drf n kn tl = 1 := by unfold drf; split <;> simp
def ropB (f : Nat → Int) (k : Nat) (n kn tl : Int) : Int := if f k = 97 ∧ drf n kn tl = 1 then 1 else 0
def rop (f : Nat → Int) (k : Nat) (n kn tl : Int) : Nat → Int := if f k = 97 ∧ drf n kn tl = 1 then jU f k 111 else f
theorem ropB_01 (f : Nat → Int) (k : Nat) (n kn tl : Int) : ropB f k n kn tl = 0 ∨ ropB f k n kn tl = 1 := by unfold ropB; split <;> simp
set_option maxRecDepth 20000 in
theorem in_X0_keep_X0 : ∀ w ∈ u_ws RX0 TX0 3, w ∈ wsX0_keep := by decide +kernel
set_option maxHeartbeats 4000000 in
set_option maxRecDepth 100000 in
theorem c_X0_keep (l : Launch) (G : jG) (h : Nat → Nat) (F : Nat → Nat → Int) (k : Nat) (n t : Int) (hk : k < 120) : jMet l yX0_keep wsX0_keep { frames := 1, cells := 0, slots := 0, locals := 30 } G (wA G h F) [.ref (h 0), .int (iI (k : Int)), .int (iI n), .int (iI t)] (fun rv w1 => rv = none ∧ w1 = wA G h (uF (uF (uF F 0 (jU (F 0) k 97)) 1 (jU (F 1) k n)) 2 (jU (F 2) k t))) := by
  refine jMet_of (cc := cX0_keep) (maxL := 4) (ret := none) (by decide +kernel) rfl (Nat.le_of_ble_eq_true rfl) ?_
  intro p e s m args below meth c A hh hret hinit
  refine jr_loc (lv' := [(0, .ref (h 0)), (1, .int (iI (k : Int))), (2, .int (iI n)), (3, .int (iI t))]) [0, 1, 2, 3] rfl ?_
  refine jr_aload_n (pc := 0) hh 0 dX0_keep_0 rfl rfl ?_
  refine jr_get (v := .ref (h 1)) (pc := 1) hh in_X0_keep_X0 0 rfl rfl 0 (by decide) (by decide +kernel : Cond.fieldLink RX0 9 (TX0 0).1 (TX0 0).2.1 (TX0 0).2.2.1 ∈ wsX0_keep) rfl dX0_keep_1 ?_
  refine jr_iload_n (pc := 4) hh 1 dX0_keep_4 rfl rfl ?_
  refine jr_bipush (pc := 5) hh dX0_keep_5 (by decide) ?_
  refine jr_cast (F := (F 0)) (ws' := (wA G h (uF F 0 (jU (F 0) k 97)))) (pc := 7) hh 1 rfl k (by omega) (by omega) (by decide) ⟨by omega, by omega⟩ rfl dX0_keep_7 ?_
  refine jr_aload_n (pc := 8) hh 0 dX0_keep_8 rfl rfl ?_
  refine jr_get (v := .ref (h 2)) (pc := 9) hh in_X0_keep_X0 0 rfl rfl 1 (by decide) (by decide +kernel : Cond.fieldLink RX0 15 (TX0 1).1 (TX0 1).2.1 (TX0 1).2.2.1 ∈ wsX0_keep) rfl dX0_keep_9 ?_
  refine jr_iload_n (pc := 12) hh 1 dX0_keep_12 rfl rfl ?_
  refine jr_iload_n (pc := 13) hh 2 dX0_keep_13 rfl rfl ?_
  refine jr_iast (F := (F 1)) (ws' := (wA G h (uF (uF F 0 (jU (F 0) k 97)) 1 (jU (F 1) k n)))) (pc := 14) hh 2 rfl k (by omega) (by omega) (by decide) rfl dX0_keep_14 ?_
  refine jr_aload_n (pc := 15) hh 0 dX0_keep_15 rfl rfl ?_
  refine jr_get (v := .ref (h 3)) (pc := 16) hh in_X0_keep_X0 0 rfl rfl 2 (by decide) (by decide +kernel : Cond.fieldLink RX0 19 (TX0 2).1 (TX0 2).2.1 (TX0 2).2.2.1 ∈ wsX0_keep) rfl dX0_keep_16 ?_
  refine jr_iload_n (pc := 19) hh 1 dX0_keep_19 rfl rfl ?_
  refine jr_iload_n (pc := 20) hh 3 dX0_keep_20 rfl rfl ?_
  refine jr_iast (F := (F 2)) (ws' := (wA G h (uF (uF (uF F 0 (jU (F 0) k 97)) 1 (jU (F 1) k n)) 2 (jU (F 2) k t)))) (pc := 21) hh 3 rfl k (by omega) (by omega) (by decide) rfl dX0_keep_21 ?_
  exact jr_vret (pc := 22) hh hret ⟨rfl, rfl⟩ (by decide) (by decide) dX0_keep_22
set_option maxRecDepth 20000 in
theorem in_X0_isDrifted_X0 : ∀ w ∈ u_ws RX0 TX0 3, w ∈ wsX0_isDrifted := by decide +kernel
set_option maxHeartbeats 4000000 in
set_option maxRecDepth 100000 in
theorem c_X0_isDrifted (l : Launch) (G : jG) (h : Nat → Nat) (F : Nat → Nat → Int) (k : Nat) (n : Int) (hk : k < 120) (hn : -1000000000 ≤ n ∧ n ≤ 99999999) (hkn : -99999999 ≤ (F 1) k ∧ (F 1) k ≤ 99999999) (htl : 0 ≤ (F 2) k ∧ (F 2) k ≤ 9999) : jMet l yX0_isDrifted wsX0_isDrifted { frames := 2, cells := 0, slots := 0, locals := 60 } G (wA G h F) [.ref (h 0), .int (iI (k : Int)), .int (iI n)] (fun rv w1 => rv = some (.int (iI (drf n ((F 1) k) ((F 2) k)))) ∧ w1 = wA G h F) := by
  refine jMet_of (cc := cX0_isDrifted) (maxL := 3) (ret := (some .boolean)) (by decide +kernel) rfl (Nat.le_of_ble_eq_true rfl) ?_
  intro p e s m args below meth c A hh hret hinit
  refine jr_loc (lv' := [(0, .ref (h 0)), (1, .int (iI (k : Int))), (2, .int (iI n))]) [0, 1, 2] rfl ?_
  refine jr_iload_n (pc := 0) hh 2 dX0_isDrifted_0 rfl rfl ?_
  refine jr_ldc (z := (-1000000000)) (v := -1000000000) (pc := 1) hh (by decide) (by decide +kernel : Cond.constant RX0 26 (-1000000000) ∈ wsX0_isDrifted) dX0_isDrifted_1 ?_
  refine jr_icmp_eq (tgt := 26) (pc := 3) hh dX0_isDrifted_3 (by decide) ⟨by omega, by omega⟩ ⟨by omega, by omega⟩ (fun c1 => ?_) (fun c1 => ?_)
  · skip
    refine jr_iconst (pc := 26) hh dX0_isDrifted_26 ?_
    refine jr_goto (tgt := 31) (pc := 27) hh dX0_isDrifted_27 (by decide) ?_
    exact jr_iret (pc := 31) hh hret rfl ⟨jsi (by unfold drf; split <;> omega), rfl⟩ (by decide) (by decide) dX0_isDrifted_31
  · skip
    refine jr_iload_n (pc := 6) hh 2 dX0_isDrifted_6 rfl rfl ?_
    refine jr_aload_n (pc := 7) hh 0 dX0_isDrifted_7 rfl rfl ?_
    refine jr_get (v := .ref (h 2)) (pc := 8) hh in_X0_isDrifted_X0 0 rfl rfl 1 (by decide) (by decide +kernel : Cond.fieldLink RX0 15 (TX0 1).1 (TX0 1).2.1 (TX0 1).2.2.1 ∈ wsX0_isDrifted) rfl dX0_isDrifted_8 ?_
    refine jr_iload_n (pc := 11) hh 1 dX0_isDrifted_11 rfl rfl ?_
    refine jr_iald (F := (F 1)) (pc := 12) hh 2 rfl k (by omega) (by omega) (by decide) dX0_isDrifted_12 ?_
    refine jr_isub (pc := 13) hh dX0_isDrifted_13 ?_
    refine jr_abs (pc := 14) hh (by decide +kernel : Cond.methodLink RX0 27 Lib.Math.abs.name ∈ wsX0_isDrifted) (by decide +kernel : Cond.static Lib.Math.abs.name ∈ wsX0_isDrifted) (by decide +kernel : Cond.initialized "java/lang/Math" ∈ wsX0_isDrifted) (by decide +kernel : Cond.code Lib.Math.abs.name Lib.Math.abs.code 1 (some .int) ∈ wsX0_isDrifted) ⟨Nat.le_of_ble_eq_true rfl, Nat.le_of_ble_eq_true rfl, Nat.le_of_ble_eq_true rfl, Nat.le_of_ble_eq_true rfl⟩ ⟨by omega, by omega⟩ (by omega) dX0_isDrifted_14 ?_
    refine jr_aload_n (pc := 17) hh 0 dX0_isDrifted_17 rfl rfl ?_
    refine jr_get (v := .ref (h 3)) (pc := 18) hh in_X0_isDrifted_X0 0 rfl rfl 2 (by decide) (by decide +kernel : Cond.fieldLink RX0 19 (TX0 2).1 (TX0 2).2.1 (TX0 2).2.2.1 ∈ wsX0_isDrifted) rfl dX0_isDrifted_18 ?_
    refine jr_iload_n (pc := 21) hh 1 dX0_isDrifted_21 rfl rfl ?_
    refine jr_iald (F := (F 2)) (pc := 22) hh 3 rfl k (by omega) (by omega) (by decide) dX0_isDrifted_22 ?_
    refine jr_icmp_le (tgt := 30) (pc := 23) hh dX0_isDrifted_23 (by decide) ⟨by omega, by omega⟩ ⟨by omega, by omega⟩ (fun c2 => ?_) (fun c2 => ?_)
    · skip
      refine jr_iconst (pc := 30) hh dX0_isDrifted_30 ?_
      exact jr_iret (pc := 31) hh hret rfl ⟨jsi (by unfold drf; split <;> omega), rfl⟩ (by decide) (by decide) dX0_isDrifted_31
    · skip
      refine jr_iconst (pc := 26) hh dX0_isDrifted_26 ?_
      refine jr_goto (tgt := 31) (pc := 27) hh dX0_isDrifted_27 (by decide) ?_
      exact jr_iret (pc := 31) hh hret rfl ⟨jsi (by unfold drf; split <;> omega), rfl⟩ (by decide) (by decide) dX0_isDrifted_31
set_option maxRecDepth 20000 in
theorem in_X0_reopenIfDrifted_X0 : ∀ w ∈ u_ws RX0 TX0 3, w ∈ wsX0_reopenIfDrifted := by decide +kernel
set_option maxHeartbeats 4000000 in
set_option maxRecDepth 100000 in
theorem c_X0_reopenIfDrifted (l : Launch) (G : jG) (h : Nat → Nat) (F : Nat → Nat → Int) (k : Nat) (n : Int) (hk : k < 120) (hn : -1000000000 ≤ n ∧ n ≤ 99999999) (hst : 0 ≤ (F 0) k ∧ (F 0) k ≤ 65535) (hkn : -99999999 ≤ (F 1) k ∧ (F 1) k ≤ 99999999) (htl : 0 ≤ (F 2) k ∧ (F 2) k ≤ 9999) : jMet l yX0_reopenIfDrifted wsX0_reopenIfDrifted { frames := 3, cells := 0, slots := 0, locals := 120 } G (wA G h F) [.ref (h 0), .int (iI (k : Int)), .int (iI n)] (fun rv w1 => rv = some (.int (iI (ropB (F 0) k n ((F 1) k) ((F 2) k)))) ∧ w1 = wA G h (uF F 0 (rop (F 0) k n ((F 1) k) ((F 2) k)))) := by
  refine jMet_of (cc := cX0_reopenIfDrifted) (maxL := 3) (ret := (some .boolean)) (by decide +kernel) rfl (Nat.le_of_ble_eq_true rfl) ?_
  intro p e s m args below meth c A hh hret hinit
  refine jr_loc (lv' := [(0, .ref (h 0)), (1, .int (iI (k : Int))), (2, .int (iI n))]) [0, 1, 2] rfl ?_
  refine jr_aload_n (pc := 0) hh 0 dX0_reopenIfDrifted_0 rfl rfl ?_
  refine jr_get (v := .ref (h 1)) (pc := 1) hh in_X0_reopenIfDrifted_X0 0 rfl rfl 0 (by decide) (by decide +kernel : Cond.fieldLink RX0 9 (TX0 0).1 (TX0 0).2.1 (TX0 0).2.2.1 ∈ wsX0_reopenIfDrifted) rfl dX0_reopenIfDrifted_1 ?_
  refine jr_iload_n (pc := 4) hh 1 dX0_reopenIfDrifted_4 rfl rfl ?_
  refine jr_cald (F := (F 0)) (pc := 5) hh 1 rfl k (by omega) (by omega) (by decide) dX0_reopenIfDrifted_5 ?_
  refine jr_bipush (pc := 6) hh dX0_reopenIfDrifted_6 (by decide) ?_
  refine jr_icmp_ne (tgt := 20) (pc := 8) hh dX0_reopenIfDrifted_8 (by decide) ⟨by omega, by omega⟩ ⟨by omega, by omega⟩ (fun c1 => ?_) (fun c1 => ?_)
  · skip
    refine jr_iconst (pc := 20) hh dX0_reopenIfDrifted_20 ?_
    exact jr_iret (pc := 21) hh hret rfl ⟨jsi (by unfold ropB; rw [if_neg (by omega)]), by unfold rop; rw [if_neg (by omega)]; rfl⟩ (by decide) (by decide) dX0_reopenIfDrifted_21
  · skip
    refine jr_aload_n (pc := 11) hh 0 dX0_reopenIfDrifted_11 rfl rfl ?_
    refine jr_iload_n (pc := 12) hh 1 dX0_reopenIfDrifted_12 rfl rfl ?_
    refine jr_iload_n (pc := 13) hh 2 dX0_reopenIfDrifted_13 rfl rfl ?_
    refine jr_callV (pc := 14) hh [.int (iI (k : Int)), .int (iI n)] [] (c_X0_isDrifted l G h F k n hk hn hkn htl) gX0_reopenIfDrifted_X0_isDrifted rfl (by decide) (by decide) [0, 1, 2, 3] [] rfl rfl rfl rfl (by decide) 0 rfl rfl 2 rfl rfl (Nat.le_of_ble_eq_true rfl) (by decide +kernel) dX0_reopenIfDrifted_14 (fun rvu2 wu2 hu2 => ?_)
    obtain ⟨rfl, rfl⟩ := hu2
    refine jr_perm (ws' := (wA G h F)) (st := [.int (iI (drf n ((F 1) k) ((F 2) k)))]) [0, 1, 2, 3] rfl rfl ?_
    have hdr := drf_01 n ((F 1) k) ((F 2) k)
    refine jr_if_ne (tgt := 22) (pc := 17) hh dX0_reopenIfDrifted_17 (by decide) ⟨by omega, by omega⟩ (fun c3 => ?_) (fun c3 => ?_)
    · skip
      refine jr_aload_n (pc := 22) hh 0 dX0_reopenIfDrifted_22 rfl rfl ?_
      refine jr_get (v := .ref (h 1)) (pc := 23) hh in_X0_reopenIfDrifted_X0 0 rfl rfl 0 (by decide) (by decide +kernel : Cond.fieldLink RX0 9 (TX0 0).1 (TX0 0).2.1 (TX0 0).2.2.1 ∈ wsX0_reopenIfDrifted) rfl dX0_reopenIfDrifted_23 ?_
      refine jr_iload_n (pc := 26) hh 1 dX0_reopenIfDrifted_26 rfl rfl ?_
      refine jr_bipush (pc := 27) hh dX0_reopenIfDrifted_27 (by decide) ?_
      refine jr_cast (F := (F 0)) (ws' := (wA G h (uF F 0 (jU (F 0) k 111)))) (pc := 29) hh 1 rfl k (by omega) (by omega) (by decide) ⟨by omega, by omega⟩ rfl dX0_reopenIfDrifted_29 ?_
      refine jr_iconst (pc := 30) hh dX0_reopenIfDrifted_30 ?_
      exact jr_iret (pc := 31) hh hret rfl ⟨jsi (by unfold ropB; rw [if_pos ⟨by omega, by omega⟩]), by unfold rop; rw [if_pos ⟨by omega, by omega⟩]⟩ (by decide) (by decide) dX0_reopenIfDrifted_31
    · skip
      refine jr_iconst (pc := 20) hh dX0_reopenIfDrifted_20 ?_
      exact jr_iret (pc := 21) hh hret rfl ⟨jsi (by unfold ropB; rw [if_neg (by omega)]), by unfold rop; rw [if_neg (by omega)]; rfl⟩ (by decide) (by decide) dX0_reopenIfDrifted_21
set_option maxRecDepth 20000 in
theorem in_X0_countIn_X0 : ∀ w ∈ u_ws RX0 TX0 3, w ∈ wsX0_countIn := by decide +kernel
set_option maxHeartbeats 4000000 in
set_option maxRecDepth 100000 in
theorem c_X0_countIn (l : Launch) (G : jG) (h : Nat → Nat) (F : Nat → Nat → Int) (w : Int) (hw : 0 ≤ w ∧ w ≤ 65535) (h0 : ∀ k, k < 120 → 0 ≤ (F 0) k ∧ (F 0) k ≤ 65535) : jMet l yX0_countIn wsX0_countIn { frames := 1, cells := 0, slots := 0, locals := 30 } G (wA G h F) [.ref (h 0), .int (iI w)] (fun rv w1 => rv = some (.int (iI (cntTo (F 0) w 120))) ∧ w1 = wA G h F) := by
  refine jMet_of (cc := cX0_countIn) (maxL := 4) (ret := (some .int)) (by decide +kernel) rfl (Nat.le_of_ble_eq_true rfl) ?_
  intro p e s m args below meth c A hh hret hinit
  refine jr_loc (lv' := [(0, .ref (h 0)), (1, .int (iI w))]) [0, 1] rfl ?_
  refine jr_iconst (pc := 0) hh dX0_countIn_0 ?_
  refine jr_istore_n (lv' := [(2, .int (iI 0)), (0, .ref (h 0)), (1, .int (iI w))]) (pc := 1) hh dX0_countIn_1 rfl (by decide) rfl ?_
  refine jr_iconst (pc := 2) hh dX0_countIn_2 ?_
  refine jr_istore_n (lv' := [(3, .int (iI 0)), (2, .int (iI 0)), (0, .ref (h 0)), (1, .int (iI w))]) (pc := 3) hh dX0_countIn_3 rfl (by decide) rfl ?_
  refine jr_loc (lv' := [(0, .ref (h 0)), (1, .int (iI w)), (2, .int (iI 0)), (3, .int (iI 0))]) [2, 3, 1, 0] rfl ?_
  refine jr_lvset (a := 0) (b := (cntTo (F 0) w 0)) (lv' := [(0, .ref (h 0)), (1, .int (iI w)), (2, .int (iI (cntTo (F 0) w 0))), (3, .int (iI 0))]) 2 rfl (by first | rfl | (rw [cntTo_s]; split <;> omega)) rfl ?_
  refine jr_lvset (a := 0) (b := ((0 : Nat) : Int)) (lv' := [(0, .ref (h 0)), (1, .int (iI w)), (2, .int (iI (cntTo (F 0) w 0))), (3, .int (iI ((0 : Nat) : Int)))]) 3 rfl (by first | rfl | omega) rfl ?_
  refine jr_loop (σ := Nat) (fun (i : Nat) => (i ≤ 120)) (fun (i : Nat) => 120 - i) (fun (i : Nat) => (wA G h F)) (fun (i : Nat) => [(0, .ref (h 0)), (1, .int (iI w)), (2, .int (iI (cntTo (F 0) w i))), (3, .int (iI (i : Int)))]) (fun (i : Nat) => []) ?_ (0) (by decide)
  rintro i hi ih1
  dsimp only at ih1 ⊢
  try dsimp only at hi
  have hcb := cntTo_bound (F 0) w i
  refine jr_iload_n (pc := 4) hh 3 dX0_countIn_4 rfl rfl ?_
  refine jr_bipush (pc := 5) hh dX0_countIn_5 (by decide) ?_
  refine jr_icmp_ge (tgt := 29) (pc := 7) hh dX0_countIn_7 (by decide) ⟨by omega, by omega⟩ ⟨by omega, by omega⟩ (fun c2 => ?_) (fun c2 => ?_)
  · skip
    refine jr_iload_n (pc := 29) hh 2 dX0_countIn_29 rfl rfl ?_
    exact jr_iret (pc := 30) hh hret rfl ⟨jsi (by rw [show i = 120 by omega]), rfl⟩ (by decide) (by decide) dX0_countIn_30
  · skip
    have hF := h0 i (by omega)
    refine jr_aload_n (pc := 10) hh 0 dX0_countIn_10 rfl rfl ?_
    refine jr_get (v := .ref (h 1)) (pc := 11) hh in_X0_countIn_X0 0 rfl rfl 0 (by decide) (by decide +kernel : Cond.fieldLink RX0 9 (TX0 0).1 (TX0 0).2.1 (TX0 0).2.2.1 ∈ wsX0_countIn) rfl dX0_countIn_11 ?_
    refine jr_iload_n (pc := 14) hh 3 dX0_countIn_14 rfl rfl ?_
    refine jr_cald (F := (F 0)) (pc := 15) hh 1 rfl i (by omega) (by omega) (by decide) dX0_countIn_15 ?_
    refine jr_iload_n (pc := 16) hh 1 dX0_countIn_16 rfl rfl ?_
    refine jr_icmp_ne (tgt := 23) (pc := 17) hh dX0_countIn_17 (by decide) ⟨by omega, by omega⟩ ⟨by omega, by omega⟩ (fun c3 => ?_) (fun c3 => ?_)
    · skip
      refine jr_iinc (a := (i : Int)) (b := (((i + 1) : Nat) : Int)) (lv' := [(3, .int (iI (((i + 1) : Nat) : Int))), (0, .ref (h 0)), (1, .int (iI w)), (2, .int (iI (cntTo (F 0) w i)))]) (pc := 23) hh 3 dX0_countIn_23 rfl (by omega) (by decide) rfl ?_
      refine jr_goto (tgt := 4) (pc := 26) hh dX0_countIn_26 (by decide) ?_
      refine jr_loc (lv' := [(0, .ref (h 0)), (1, .int (iI w)), (2, .int (iI (cntTo (F 0) w i))), (3, .int (iI (((i + 1) : Nat) : Int)))]) [1, 2, 3, 0] rfl ?_
      refine jr_lvset (a := (cntTo (F 0) w i)) (b := (cntTo (F 0) w (i + 1))) (lv' := [(0, .ref (h 0)), (1, .int (iI w)), (2, .int (iI (cntTo (F 0) w (i + 1)))), (3, .int (iI (((i + 1) : Nat) : Int)))]) 2 rfl (by first | rfl | (rw [cntTo_s]; split <;> omega)) rfl ?_
      exact ih1 ((i + 1)) (by omega) (by (try dsimp only); omega)
    · skip
      refine jr_iinc (a := (cntTo (F 0) w i)) (b := ((cntTo (F 0) w i) + 1)) (lv' := [(2, .int (iI ((cntTo (F 0) w i) + 1))), (0, .ref (h 0)), (1, .int (iI w)), (3, .int (iI (i : Int)))]) (pc := 20) hh 2 dX0_countIn_20 rfl (by omega) (by decide) rfl ?_
      refine jr_iinc (a := (i : Int)) (b := (((i + 1) : Nat) : Int)) (lv' := [(3, .int (iI (((i + 1) : Nat) : Int))), (2, .int (iI ((cntTo (F 0) w i) + 1))), (0, .ref (h 0)), (1, .int (iI w))]) (pc := 23) hh 3 dX0_countIn_23 rfl (by omega) (by decide) rfl ?_
      refine jr_goto (tgt := 4) (pc := 26) hh dX0_countIn_26 (by decide) ?_
      refine jr_loc (lv' := [(0, .ref (h 0)), (1, .int (iI w)), (2, .int (iI ((cntTo (F 0) w i) + 1))), (3, .int (iI (((i + 1) : Nat) : Int)))]) [2, 3, 1, 0] rfl ?_
      refine jr_lvset (a := ((cntTo (F 0) w i) + 1)) (b := (cntTo (F 0) w (i + 1))) (lv' := [(0, .ref (h 0)), (1, .int (iI w)), (2, .int (iI (cntTo (F 0) w (i + 1)))), (3, .int (iI (((i + 1) : Nat) : Int)))]) 2 rfl (by first | rfl | (rw [cntTo_s]; split <;> omega)) rfl ?_
      exact ih1 ((i + 1)) (by omega) (by (try dsimp only); omega)
set_option maxRecDepth 20000 in
theorem in_X0_sumOfTolerances_X0 : ∀ w ∈ u_ws RX0 TX0 3, w ∈ wsX0_sumOfTolerances := by decide +kernel
set_option maxHeartbeats 4000000 in
set_option maxRecDepth 100000 in
theorem c_X0_sumOfTolerances (l : Launch) (G : jG) (h : Nat → Nat) (F : Nat → Nat → Int) (h0 : ∀ k, k < 120 → 0 ≤ (F 2) k ∧ (F 2) k ≤ 9999) : jMet l yX0_sumOfTolerances wsX0_sumOfTolerances { frames := 1, cells := 0, slots := 0, locals := 30 } G (wA G h F) [.ref (h 0)] (fun rv w1 => rv = some (.int (iI (sumTo (F 2) 120))) ∧ w1 = wA G h F) := by
  refine jMet_of (cc := cX0_sumOfTolerances) (maxL := 3) (ret := (some .int)) (by decide +kernel) rfl (Nat.le_of_ble_eq_true rfl) ?_
  intro p e s m args below meth c A hh hret hinit
  refine jr_loc (lv' := [(0, .ref (h 0))]) [0] rfl ?_
  refine jr_iconst (pc := 0) hh dX0_sumOfTolerances_0 ?_
  refine jr_istore_n (lv' := [(1, .int (iI 0)), (0, .ref (h 0))]) (pc := 1) hh dX0_sumOfTolerances_1 rfl (by decide) rfl ?_
  refine jr_iconst (pc := 2) hh dX0_sumOfTolerances_2 ?_
  refine jr_istore_n (lv' := [(2, .int (iI 0)), (1, .int (iI 0)), (0, .ref (h 0))]) (pc := 3) hh dX0_sumOfTolerances_3 rfl (by decide) rfl ?_
  refine jr_loc (lv' := [(0, .ref (h 0)), (1, .int (iI 0)), (2, .int (iI 0))]) [2, 1, 0] rfl ?_
  refine jr_lvset (a := 0) (b := (sumTo (F 2) 0)) (lv' := [(0, .ref (h 0)), (1, .int (iI (sumTo (F 2) 0))), (2, .int (iI 0))]) 1 rfl (by first | rfl | exact (sumTo_s _ _).symm) rfl ?_
  refine jr_lvset (a := 0) (b := ((0 : Nat) : Int)) (lv' := [(0, .ref (h 0)), (1, .int (iI (sumTo (F 2) 0))), (2, .int (iI ((0 : Nat) : Int)))]) 2 rfl (by first | rfl | omega) rfl ?_
  refine jr_loop (σ := Nat) (fun (i : Nat) => (i ≤ 120)) (fun (i : Nat) => 120 - i) (fun (i : Nat) => (wA G h F)) (fun (i : Nat) => [(0, .ref (h 0)), (1, .int (iI (sumTo (F 2) i))), (2, .int (iI (i : Int)))]) (fun (i : Nat) => []) ?_ (0) (by decide)
  rintro i hi ih1
  dsimp only at ih1 ⊢
  try dsimp only at hi
  refine jr_iload_n (pc := 4) hh 2 dX0_sumOfTolerances_4 rfl rfl ?_
  refine jr_bipush (pc := 5) hh dX0_sumOfTolerances_5 (by decide) ?_
  refine jr_icmp_ge (tgt := 25) (pc := 7) hh dX0_sumOfTolerances_7 (by decide) ⟨by omega, by omega⟩ ⟨by omega, by omega⟩ (fun c2 => ?_) (fun c2 => ?_)
  · skip
    refine jr_iload_n (pc := 25) hh 1 dX0_sumOfTolerances_25 rfl rfl ?_
    exact jr_iret (pc := 26) hh hret rfl ⟨jsi (by rw [show i = 120 by omega]), rfl⟩ (by decide) (by decide) dX0_sumOfTolerances_26
  · skip
    refine jr_iload_n (pc := 10) hh 1 dX0_sumOfTolerances_10 rfl rfl ?_
    refine jr_aload_n (pc := 11) hh 0 dX0_sumOfTolerances_11 rfl rfl ?_
    refine jr_get (v := .ref (h 3)) (pc := 12) hh in_X0_sumOfTolerances_X0 0 rfl rfl 2 (by decide) (by decide +kernel : Cond.fieldLink RX0 19 (TX0 2).1 (TX0 2).2.1 (TX0 2).2.2.1 ∈ wsX0_sumOfTolerances) rfl dX0_sumOfTolerances_12 ?_
    refine jr_iload_n (pc := 15) hh 2 dX0_sumOfTolerances_15 rfl rfl ?_
    refine jr_iald (F := (F 2)) (pc := 16) hh 3 rfl i (by omega) (by omega) (by decide) dX0_sumOfTolerances_16 ?_
    refine jr_iadd (pc := 17) hh dX0_sumOfTolerances_17 ?_
    refine jr_istore_n (lv' := [(1, .int (iI ((sumTo (F 2) i) + ((F 2) i)))), (0, .ref (h 0)), (2, .int (iI (i : Int)))]) (pc := 18) hh dX0_sumOfTolerances_18 rfl (by decide) rfl ?_
    refine jr_iinc (a := (i : Int)) (b := (((i + 1) : Nat) : Int)) (lv' := [(2, .int (iI (((i + 1) : Nat) : Int))), (1, .int (iI ((sumTo (F 2) i) + ((F 2) i)))), (0, .ref (h 0))]) (pc := 19) hh 2 dX0_sumOfTolerances_19 rfl (by omega) (by decide) rfl ?_
    refine jr_goto (tgt := 4) (pc := 22) hh dX0_sumOfTolerances_22 (by decide) ?_
    refine jr_loc (lv' := [(0, .ref (h 0)), (1, .int (iI ((sumTo (F 2) i) + ((F 2) i)))), (2, .int (iI (((i + 1) : Nat) : Int)))]) [2, 1, 0] rfl ?_
    refine jr_lvset (a := ((sumTo (F 2) i) + ((F 2) i))) (b := (sumTo (F 2) (i + 1))) (lv' := [(0, .ref (h 0)), (1, .int (iI (sumTo (F 2) (i + 1)))), (2, .int (iI (((i + 1) : Nat) : Int)))]) 1 rfl (by first | rfl | exact (sumTo_s _ _).symm) rfl ?_
    exact ih1 ((i + 1)) (by omega) (by (try dsimp only); omega)
