/-! leaves: Lines -/
def actC (f : Nat → Int) (t : Nat) : Nat → Option Int := fun i => if f (i * 12 + t) = -1000000000 then none else some (f (i * 12 + t))
def lnC (F : Nat → Nat → Int) (t i : Nat) : Option Int := lnum (actC (F 3) t) (F 0) (F 1) (F 2) (F 6) i
def okL (F : Nat → Nat → Int) (n : Int) : Prop := ∀ i : Nat, (i : Int) < n → (0 ≤ F 0 i ∧ F 0 i ≤ 65535) ∧ (F 0 i = 100 → 0 ≤ F 1 i ∧ F 1 i < 6) ∧ (F 0 i ≠ 100 → (0 ≤ F 1 i ∧ F 1 i < i) ∧ (0 ≤ F 2 i ∧ F 2 i < i))
def okAc (f : Nat → Int) : Prop := ∀ c : Nat, c < 120 → f c = -1000000000 ∨ (-9999999 ≤ f c ∧ f c ≤ 9999999)
def okIn (f : Nat → Int) : Prop := ∀ d : Nat, d < 6 → -99999999 ≤ f d ∧ f d ≤ 99999999
def fndI (F : Nat → Nat → Int) (i t : Nat) : Int := if F 3 (i * 12 + t) = -1000000000 then (if F 0 i = 100 then F 6 (F 1 i).toNat else cmbI (F 0 i) (F 5 (F 1 i).toNat) (F 5 (F 2 i).toNat)) else F 3 (i * 12 + t)
theorem lnC_B {F : Nat → Nat → Int} {n : Int} {t i : Nat} (hL : okL F n) (hA : okAc (F 3)) (hI : okIn (F 6)) (ht : t < 12) (hi : (i : Int) < n) (hn : n ≤ 10) : inB (lnC F t i) := by
  have h1 := hL i hi
  refine lnum_B h1.2.2 ?_ (fun hk => ?_)
  · intro v hv
    unfold actC at hv
    split at hv
    · cases hv
    · cases hv
      have := hA (i * 12 + t) (by omega)
      omega
  · have := h1.2.1 hk
    exact hI _ (by omega)
theorem fnd_enc {F : Nat → Nat → Int} {n : Int} {t i : Nat} {nm : Nat → Int} (hL : okL F n) (hA : okAc (F 3)) (hI : okIn (F 6)) (ht : t < 12) (hi : (i : Int) < n) (hn : n ≤ 10) (hnm : F 3 (i * 12 + t) = -1000000000 → F 0 i ≠ 100 → nm (F 1 i).toNat = enc (lnC F t (F 1 i).toNat) ∧ nm (F 2 i).toNat = enc (lnC F t (F 2 i).toNat)) : fndI (uF F 5 nm) i t = enc (lnC F t i) := by
  have h1 := hL i hi
  show (if F 3 (i * 12 + t) = -1000000000 then (if F 0 i = 100 then F 6 (F 1 i).toNat else cmbI (F 0 i) (nm (F 1 i).toNat) (nm (F 2 i).toNat)) else F 3 (i * 12 + t)) = _
  unfold lnC
  rw [lnum_eq h1.2.2]
  unfold lcalc actC
  by_cases ha : F 3 (i * 12 + t) = -1000000000
  · rw [if_pos ha, if_pos ha]
    dsimp only
    by_cases hk : F 0 i = 100
    · rw [if_pos hk, if_pos hk]; rfl
    · have h2 := h1.2.2 hk
      have h3 := hnm ha hk
      rw [if_neg hk, if_neg hk, h3.1, h3.2]
      exact cmbI_enc (lnC_B hL hA hI ht (by omega) hn) (lnC_B hL hA hI ht (by omega) hn)
  · rw [if_neg ha, if_neg ha]; rfl
set_option maxRecDepth 20000 in
theorem in_X1_add_X1 : ∀ w ∈ u_ws RX1 TX1 7, w ∈ wsX1_add := by decide +kernel
set_option maxHeartbeats 4000000 in
set_option maxRecDepth 100000 in
theorem c_X1_add (l : Launch) (G : jG) (h : Nat → Nat) (F : Nat → Nat → Int) (V : Nat → Int) (kd on ot : Int) (hkd : 0 ≤ kd ∧ kd ≤ 65535) (hc : 0 ≤ V 0 ∧ V 0 < 10) : jMet l yX1_add wsX1_add { frames := 1, cells := 0, slots := 0, locals := 30 } G (wL G h F V) [.ref (h 0), .int (iI kd), .int (iI on), .int (iI ot)] (fun rv w1 => rv = some (.int (iI (V 0))) ∧ w1 = wL G h (uF (uF (uF F 0 (jU (F 0) (V 0).toNat kd)) 1 (jU (F 1) (V 0).toNat on)) 2 (jU (F 2) (V 0).toNat ot)) (jU V 0 (V 0 + 1))) := by
  refine jMet_of (cc := cX1_add) (maxL := 4) (ret := (some .int)) (by decide +kernel) rfl (Nat.le_of_ble_eq_true rfl) ?_
  intro p e s m args below meth c A hh hret hinit
  refine jr_loc (lv' := [(0, .ref (h 0)), (1, .int (iI kd)), (2, .int (iI on)), (3, .int (iI ot))]) [0, 1, 2, 3] rfl ?_
  refine jr_aload_n (pc := 0) hh 0 dX1_add_0 rfl rfl ?_
  refine jr_get (v := .ref (h 1)) (pc := 1) hh in_X1_add_X1 0 rfl rfl 0 (by decide) (by decide +kernel : Cond.fieldLink RX1 9 (TX1 0).1 (TX1 0).2.1 (TX1 0).2.2.1 ∈ wsX1_add) rfl dX1_add_1 ?_
  refine jr_aload_n (pc := 4) hh 0 dX1_add_4 rfl rfl ?_
  refine jr_get (v := .int (iI (V 0))) (pc := 5) hh in_X1_add_X1 0 rfl rfl 6 (by decide) (by decide +kernel : Cond.fieldLink RX1 33 (TX1 6).1 (TX1 6).2.1 (TX1 6).2.2.1 ∈ wsX1_add) rfl dX1_add_5 ?_
  refine jr_iload_n (pc := 8) hh 1 dX1_add_8 rfl rfl ?_
  refine jr_cast (F := (F 0)) (ws' := (wL G h (uF F 0 (jU (F 0) ((V 0).toNat) kd)) V)) (pc := 9) hh 1 rfl ((V 0).toNat) (by omega) (by omega) (by decide) ⟨by omega, by omega⟩ rfl dX1_add_9 ?_
  refine jr_aload_n (pc := 10) hh 0 dX1_add_10 rfl rfl ?_
  refine jr_get (v := .ref (h 2)) (pc := 11) hh in_X1_add_X1 0 rfl rfl 1 (by decide) (by decide +kernel : Cond.fieldLink RX1 15 (TX1 1).1 (TX1 1).2.1 (TX1 1).2.2.1 ∈ wsX1_add) rfl dX1_add_11 ?_
  refine jr_aload_n (pc := 14) hh 0 dX1_add_14 rfl rfl ?_
  refine jr_get (v := .int (iI (V 0))) (pc := 15) hh in_X1_add_X1 0 rfl rfl 6 (by decide) (by decide +kernel : Cond.fieldLink RX1 33 (TX1 6).1 (TX1 6).2.1 (TX1 6).2.2.1 ∈ wsX1_add) rfl dX1_add_15 ?_
  refine jr_iload_n (pc := 18) hh 2 dX1_add_18 rfl rfl ?_
  refine jr_iast (F := (F 1)) (ws' := (wL G h (uF (uF F 0 (jU (F 0) ((V 0).toNat) kd)) 1 (jU (F 1) ((V 0).toNat) on)) V)) (pc := 19) hh 2 rfl ((V 0).toNat) (by omega) (by omega) (by decide) rfl dX1_add_19 ?_
  refine jr_aload_n (pc := 20) hh 0 dX1_add_20 rfl rfl ?_
  refine jr_get (v := .ref (h 3)) (pc := 21) hh in_X1_add_X1 0 rfl rfl 2 (by decide) (by decide +kernel : Cond.fieldLink RX1 19 (TX1 2).1 (TX1 2).2.1 (TX1 2).2.2.1 ∈ wsX1_add) rfl dX1_add_21 ?_
  refine jr_aload_n (pc := 24) hh 0 dX1_add_24 rfl rfl ?_
  refine jr_get (v := .int (iI (V 0))) (pc := 25) hh in_X1_add_X1 0 rfl rfl 6 (by decide) (by decide +kernel : Cond.fieldLink RX1 33 (TX1 6).1 (TX1 6).2.1 (TX1 6).2.2.1 ∈ wsX1_add) rfl dX1_add_25 ?_
  refine jr_iload_n (pc := 28) hh 3 dX1_add_28 rfl rfl ?_
  refine jr_iast (F := (F 2)) (ws' := (wL G h (uF (uF (uF F 0 (jU (F 0) ((V 0).toNat) kd)) 1 (jU (F 1) ((V 0).toNat) on)) 2 (jU (F 2) ((V 0).toNat) ot)) V)) (pc := 29) hh 3 rfl ((V 0).toNat) (by omega) (by omega) (by decide) rfl dX1_add_29 ?_
  refine jr_aload_n (pc := 30) hh 0 dX1_add_30 rfl rfl ?_
  refine jr_dup (pc := 31) hh dX1_add_31 rfl ?_
  refine jr_get (v := .int (iI (V 0))) (pc := 32) hh in_X1_add_X1 0 rfl rfl 6 (by decide) (by decide +kernel : Cond.fieldLink RX1 33 (TX1 6).1 (TX1 6).2.1 (TX1 6).2.2.1 ∈ wsX1_add) rfl dX1_add_32 ?_
  refine jr_iconst (pc := 35) hh dX1_add_35 ?_
  refine jr_iadd (pc := 36) hh dX1_add_36 ?_
  refine jr_put (ws' := (wL G h (uF (uF (uF F 0 (jU (F 0) ((V 0).toNat) kd)) 1 (jU (F 1) ((V 0).toNat) on)) 2 (jU (F 2) ((V 0).toNat) ot)) (jU V 0 ((V 0) + 1)))) (pc := 37) hh in_X1_add_X1 tyX1_ok nmX1 0 rfl rfl 6 (by decide) (by decide +kernel : Cond.fieldLink RX1 33 (TX1 6).1 (TX1 6).2.1 (TX1 6).2.2.1 ∈ wsX1_add) rfl rfl (Nat.le_of_ble_eq_true rfl) rfl dX1_add_37 ?_
  refine jr_aload_n (pc := 40) hh 0 dX1_add_40 rfl rfl ?_
  refine jr_get (v := .int (iI ((V 0) + 1))) (pc := 41) hh in_X1_add_X1 0 rfl rfl 6 (by decide) (by decide +kernel : Cond.fieldLink RX1 33 (TX1 6).1 (TX1 6).2.1 (TX1 6).2.2.1 ∈ wsX1_add) rfl dX1_add_41 ?_
  refine jr_iconst (pc := 44) hh dX1_add_44 ?_
  refine jr_isub (pc := 45) hh dX1_add_45 ?_
  exact jr_iret (pc := 46) hh hret rfl ⟨jsi (by omega), rfl⟩ (by decide) (by decide) dX1_add_46
set_option maxHeartbeats 4000000 in
set_option maxRecDepth 100000 in
theorem c_X1_combined (l : Launch) (G : jG) (kd a b : Int) (hkd : 0 ≤ kd ∧ kd ≤ 65535) (ha : -1000000000 ≤ a ∧ a ≤ 99999999) (hb : -1000000000 ≤ b ∧ b ≤ 99999999) : jMet l yX1_combined wsX1_combined { frames := 1, cells := 0, slots := 0, locals := 30 } G ([] : va_W) [.int (iI kd), .int (iI a), .int (iI b)] (fun rv w1 => rv = some (.int (iI (cmbI kd a b))) ∧ w1 = []) := by
  refine jMet_of (cc := cX1_combined) (maxL := 5) (ret := (some .int)) (by decide +kernel) rfl (Nat.le_of_ble_eq_true rfl) ?_
  intro p e s m args below meth c A hh hret hinit
  refine jr_loc (lv' := [(0, .int (iI kd)), (1, .int (iI a)), (2, .int (iI b))]) [0, 1, 2] rfl ?_
  refine jr_iload_n (pc := 0) hh 1 dX1_combined_0 rfl rfl ?_
  refine jr_ldc (z := (-1000000000)) (v := -1000000000) (pc := 1) hh (by decide) (by decide +kernel : Cond.constant RX1 32 (-1000000000) ∈ wsX1_combined) dX1_combined_1 ?_
  refine jr_icmp_eq (tgt := 12) (pc := 3) hh dX1_combined_3 (by decide) ⟨by omega, by omega⟩ ⟨by omega, by omega⟩ (fun c1 => ?_) (fun c1 => ?_)
  · skip
    refine jr_ldc (z := (-1000000000)) (v := -1000000000) (pc := 12) hh (by decide) (by decide +kernel : Cond.constant RX1 32 (-1000000000) ∈ wsX1_combined) dX1_combined_12 ?_
    exact jr_iret (pc := 14) hh hret rfl ⟨jsi (by unfold cmbI opC; (repeat' split) <;> omega), rfl⟩ (by decide) (by decide) dX1_combined_14
  · skip
    refine jr_iload_n (pc := 6) hh 2 dX1_combined_6 rfl rfl ?_
    refine jr_ldc (z := (-1000000000)) (v := -1000000000) (pc := 7) hh (by decide) (by decide +kernel : Cond.constant RX1 32 (-1000000000) ∈ wsX1_combined) dX1_combined_7 ?_
    refine jr_icmp_ne (tgt := 15) (pc := 9) hh dX1_combined_9 (by decide) ⟨by omega, by omega⟩ ⟨by omega, by omega⟩ (fun c2 => ?_) (fun c2 => ?_)
    · skip
      refine jr_iload_n (pc := 15) hh 0 dX1_combined_15 rfl rfl ?_
      refine jr_bipush (pc := 16) hh dX1_combined_16 (by decide) ?_
      refine jr_icmp_ne (tgt := 30) (pc := 18) hh dX1_combined_18 (by decide) ⟨by omega, by omega⟩ ⟨by omega, by omega⟩ (fun c3 => ?_) (fun c3 => ?_)
      · skip
        refine jr_iload_n (pc := 30) hh 0 dX1_combined_30 rfl rfl ?_
        refine jr_bipush (pc := 31) hh dX1_combined_31 (by decide) ?_
        refine jr_icmp_ne (tgt := 45) (pc := 33) hh dX1_combined_33 (by decide) ⟨by omega, by omega⟩ ⟨by omega, by omega⟩ (fun c4 => ?_) (fun c4 => ?_)
        · skip
          have hmb := mul_b (a := a) (b := b) (by omega) (by omega)
          have htb := tdiv_b (x := a * b) (M := 10000000000000000) (by omega)
          refine jr_iload_n (pc := 45) hh 1 dX1_combined_45 rfl rfl ?_
          refine jr_i2l (pc := 46) hh dX1_combined_46 ⟨by omega, by omega⟩ ?_
          refine jr_iload_n (pc := 47) hh 2 dX1_combined_47 rfl rfl ?_
          refine jr_i2l (pc := 48) hh dX1_combined_48 ⟨by omega, by omega⟩ ?_
          refine jr_lmul (pc := 49) hh dX1_combined_49 ?_
          refine jr_ldc2 (z := 100) (v := 100) (pc := 50) hh (by decide) (by decide +kernel : Cond.constantLong RX1 49 (100) ∈ wsX1_combined) dX1_combined_50 ?_
          refine jr_ldiv (pc := 53) hh dX1_combined_53 ⟨by omega, by omega⟩ ⟨by omega, by omega⟩ (by omega) ?_
          refine jr_lstore_n (lv' := [(3, .long (lI ((a * b).tdiv 100))), (0, .int (iI kd)), (1, .int (iI a)), (2, .int (iI b))]) (pc := 54) hh dX1_combined_54 rfl (by decide) rfl ?_
          refine jr_lload_n (pc := 55) hh 0 dX1_combined_55 rfl rfl ?_
          refine jr_ldc2 (z := (-99999999)) (v := -99999999) (pc := 56) hh (by decide) (by decide +kernel : Cond.constantLong RX1 51 (-99999999) ∈ wsX1_combined) dX1_combined_56 ?_
          refine jr_lcmp_lt (tgt := 71) (pc := 59) hh dX1_combined_59 dX1_combined_60 (by decide) ⟨by omega, by omega⟩ ⟨by omega, by omega⟩ (fun c5 => ?_) (fun c5 => ?_)
          · skip
            refine jr_ldc (z := (-1000000000)) (v := -1000000000) (pc := 71) hh (by decide) (by decide +kernel : Cond.constant RX1 32 (-1000000000) ∈ wsX1_combined) dX1_combined_71 ?_
            refine jr_goto (tgt := 78) (pc := 73) hh dX1_combined_73 (by decide) ?_
            exact jr_iret (pc := 78) hh hret rfl ⟨jsi (by unfold cmbI opC; (repeat' split) <;> omega), rfl⟩ (by decide) (by decide) dX1_combined_78
          · skip
            refine jr_lload_n (pc := 63) hh 0 dX1_combined_63 rfl rfl ?_
            refine jr_ldc2 (z := 99999999) (v := 99999999) (pc := 64) hh (by decide) (by decide +kernel : Cond.constantLong RX1 53 (99999999) ∈ wsX1_combined) dX1_combined_64 ?_
            refine jr_lcmp_le (tgt := 76) (pc := 67) hh dX1_combined_67 dX1_combined_68 (by decide) ⟨by omega, by omega⟩ ⟨by omega, by omega⟩ (fun c6 => ?_) (fun c6 => ?_)
            · skip
              refine jr_lload_n (pc := 76) hh 0 dX1_combined_76 rfl rfl ?_
              refine jr_l2i (pc := 77) hh dX1_combined_77 ?_
              exact jr_iret (pc := 78) hh hret rfl ⟨jsi (by unfold cmbI opC; (repeat' split) <;> omega), rfl⟩ (by decide) (by decide) dX1_combined_78
            · skip
              refine jr_ldc (z := (-1000000000)) (v := -1000000000) (pc := 71) hh (by decide) (by decide +kernel : Cond.constant RX1 32 (-1000000000) ∈ wsX1_combined) dX1_combined_71 ?_
              refine jr_goto (tgt := 78) (pc := 73) hh dX1_combined_73 (by decide) ?_
              exact jr_iret (pc := 78) hh hret rfl ⟨jsi (by unfold cmbI opC; (repeat' split) <;> omega), rfl⟩ (by decide) (by decide) dX1_combined_78
        · skip
          refine jr_iload_n (pc := 36) hh 1 dX1_combined_36 rfl rfl ?_
          refine jr_i2l (pc := 37) hh dX1_combined_37 ⟨by omega, by omega⟩ ?_
          refine jr_iload_n (pc := 38) hh 2 dX1_combined_38 rfl rfl ?_
          refine jr_i2l (pc := 39) hh dX1_combined_39 ⟨by omega, by omega⟩ ?_
          refine jr_lsub (pc := 40) hh dX1_combined_40 ?_
          refine jr_lstore_n (lv' := [(3, .long (lI (a - b))), (0, .int (iI kd)), (1, .int (iI a)), (2, .int (iI b))]) (pc := 41) hh dX1_combined_41 rfl (by decide) rfl ?_
          refine jr_goto (tgt := 55) (pc := 42) hh dX1_combined_42 (by decide) ?_
          refine jr_lload_n (pc := 55) hh 0 dX1_combined_55 rfl rfl ?_
          refine jr_ldc2 (z := (-99999999)) (v := -99999999) (pc := 56) hh (by decide) (by decide +kernel : Cond.constantLong RX1 51 (-99999999) ∈ wsX1_combined) dX1_combined_56 ?_
          refine jr_lcmp_lt (tgt := 71) (pc := 59) hh dX1_combined_59 dX1_combined_60 (by decide) ⟨by omega, by omega⟩ ⟨by omega, by omega⟩ (fun c7 => ?_) (fun c7 => ?_)
          · skip
            refine jr_ldc (z := (-1000000000)) (v := -1000000000) (pc := 71) hh (by decide) (by decide +kernel : Cond.constant RX1 32 (-1000000000) ∈ wsX1_combined) dX1_combined_71 ?_
            refine jr_goto (tgt := 78) (pc := 73) hh dX1_combined_73 (by decide) ?_
            exact jr_iret (pc := 78) hh hret rfl ⟨jsi (by unfold cmbI opC; (repeat' split) <;> omega), rfl⟩ (by decide) (by decide) dX1_combined_78
          · skip
            refine jr_lload_n (pc := 63) hh 0 dX1_combined_63 rfl rfl ?_
            refine jr_ldc2 (z := 99999999) (v := 99999999) (pc := 64) hh (by decide) (by decide +kernel : Cond.constantLong RX1 53 (99999999) ∈ wsX1_combined) dX1_combined_64 ?_
            refine jr_lcmp_le (tgt := 76) (pc := 67) hh dX1_combined_67 dX1_combined_68 (by decide) ⟨by omega, by omega⟩ ⟨by omega, by omega⟩ (fun c8 => ?_) (fun c8 => ?_)
            · skip
              refine jr_lload_n (pc := 76) hh 0 dX1_combined_76 rfl rfl ?_
              refine jr_l2i (pc := 77) hh dX1_combined_77 ?_
              exact jr_iret (pc := 78) hh hret rfl ⟨jsi (by unfold cmbI opC; (repeat' split) <;> omega), rfl⟩ (by decide) (by decide) dX1_combined_78
            · skip
              refine jr_ldc (z := (-1000000000)) (v := -1000000000) (pc := 71) hh (by decide) (by decide +kernel : Cond.constant RX1 32 (-1000000000) ∈ wsX1_combined) dX1_combined_71 ?_
              refine jr_goto (tgt := 78) (pc := 73) hh dX1_combined_73 (by decide) ?_
              exact jr_iret (pc := 78) hh hret rfl ⟨jsi (by unfold cmbI opC; (repeat' split) <;> omega), rfl⟩ (by decide) (by decide) dX1_combined_78
      · skip
        refine jr_iload_n (pc := 21) hh 1 dX1_combined_21 rfl rfl ?_
        refine jr_i2l (pc := 22) hh dX1_combined_22 ⟨by omega, by omega⟩ ?_
        refine jr_iload_n (pc := 23) hh 2 dX1_combined_23 rfl rfl ?_
        refine jr_i2l (pc := 24) hh dX1_combined_24 ⟨by omega, by omega⟩ ?_
        refine jr_ladd (pc := 25) hh dX1_combined_25 ?_
        refine jr_lstore_n (lv' := [(3, .long (lI (a + b))), (0, .int (iI kd)), (1, .int (iI a)), (2, .int (iI b))]) (pc := 26) hh dX1_combined_26 rfl (by decide) rfl ?_
        refine jr_goto (tgt := 55) (pc := 27) hh dX1_combined_27 (by decide) ?_
        refine jr_lload_n (pc := 55) hh 0 dX1_combined_55 rfl rfl ?_
        refine jr_ldc2 (z := (-99999999)) (v := -99999999) (pc := 56) hh (by decide) (by decide +kernel : Cond.constantLong RX1 51 (-99999999) ∈ wsX1_combined) dX1_combined_56 ?_
        refine jr_lcmp_lt (tgt := 71) (pc := 59) hh dX1_combined_59 dX1_combined_60 (by decide) ⟨by omega, by omega⟩ ⟨by omega, by omega⟩ (fun c9 => ?_) (fun c9 => ?_)
        · skip
          refine jr_ldc (z := (-1000000000)) (v := -1000000000) (pc := 71) hh (by decide) (by decide +kernel : Cond.constant RX1 32 (-1000000000) ∈ wsX1_combined) dX1_combined_71 ?_
          refine jr_goto (tgt := 78) (pc := 73) hh dX1_combined_73 (by decide) ?_
          exact jr_iret (pc := 78) hh hret rfl ⟨jsi (by unfold cmbI opC; (repeat' split) <;> omega), rfl⟩ (by decide) (by decide) dX1_combined_78
        · skip
          refine jr_lload_n (pc := 63) hh 0 dX1_combined_63 rfl rfl ?_
          refine jr_ldc2 (z := 99999999) (v := 99999999) (pc := 64) hh (by decide) (by decide +kernel : Cond.constantLong RX1 53 (99999999) ∈ wsX1_combined) dX1_combined_64 ?_
          refine jr_lcmp_le (tgt := 76) (pc := 67) hh dX1_combined_67 dX1_combined_68 (by decide) ⟨by omega, by omega⟩ ⟨by omega, by omega⟩ (fun c10 => ?_) (fun c10 => ?_)
          · skip
            refine jr_lload_n (pc := 76) hh 0 dX1_combined_76 rfl rfl ?_
            refine jr_l2i (pc := 77) hh dX1_combined_77 ?_
            exact jr_iret (pc := 78) hh hret rfl ⟨jsi (by unfold cmbI opC; (repeat' split) <;> omega), rfl⟩ (by decide) (by decide) dX1_combined_78
          · skip
            refine jr_ldc (z := (-1000000000)) (v := -1000000000) (pc := 71) hh (by decide) (by decide +kernel : Cond.constant RX1 32 (-1000000000) ∈ wsX1_combined) dX1_combined_71 ?_
            refine jr_goto (tgt := 78) (pc := 73) hh dX1_combined_73 (by decide) ?_
            exact jr_iret (pc := 78) hh hret rfl ⟨jsi (by unfold cmbI opC; (repeat' split) <;> omega), rfl⟩ (by decide) (by decide) dX1_combined_78
    · skip
      refine jr_ldc (z := (-1000000000)) (v := -1000000000) (pc := 12) hh (by decide) (by decide +kernel : Cond.constant RX1 32 (-1000000000) ∈ wsX1_combined) dX1_combined_12 ?_
      exact jr_iret (pc := 14) hh hret rfl ⟨jsi (by unfold cmbI opC; (repeat' split) <;> omega), rfl⟩ (by decide) (by decide) dX1_combined_14
set_option maxRecDepth 20000 in
theorem in_X1_found_X1 : ∀ w ∈ u_ws RX1 TX1 7, w ∈ wsX1_found := by decide +kernel
set_option maxHeartbeats 4000000 in
set_option maxRecDepth 100000 in
theorem c_X1_found (l : Launch) (G : jG) (h : Nat → Nat) (F : Nat → Nat → Int) (V : Nat → Int) (i t : Nat) (hi : i < 10) (ht : t < 12) (hkd : 0 ≤ F 0 i ∧ F 0 i ≤ 65535) (h1 : F 0 i = 100 → 0 ≤ F 1 i ∧ F 1 i < 6) (h2 : F 0 i ≠ 100 → (0 ≤ F 1 i ∧ F 1 i < 10) ∧ (0 ≤ F 2 i ∧ F 2 i < 10)) (h3 : -1000000000 ≤ F 3 (i * 12 + t) ∧ F 3 (i * 12 + t) ≤ 99999999) (h4 : F 3 (i * 12 + t) = -1000000000 → F 0 i ≠ 100 → (-1000000000 ≤ F 5 (F 1 i).toNat ∧ F 5 (F 1 i).toNat ≤ 99999999) ∧ (-1000000000 ≤ F 5 (F 2 i).toNat ∧ F 5 (F 2 i).toNat ≤ 99999999)) : jMet l yX1_found wsX1_found { frames := 2, cells := 0, slots := 0, locals := 60 } G (wLI G h F V) [.ref (h 0), .int (iI (i : Int)), .int (iI (t : Int)), .ref (h 7)] (fun rv w1 => rv = some (.int (iI (fndI F i t))) ∧ w1 = wLI G h F V) := by
  refine jMet_of (cc := cX1_found) (maxL := 5) (ret := (some .int)) (by decide +kernel) rfl (Nat.le_of_ble_eq_true rfl) ?_
  intro p e s m args below meth c A hh hret hinit
  refine jr_loc (lv' := [(0, .ref (h 0)), (1, .int (iI (i : Int))), (2, .int (iI (t : Int))), (3, .ref (h 7))]) [0, 1, 2, 3] rfl ?_
  refine jr_aload_n (pc := 0) hh 0 dX1_found_0 rfl rfl ?_
  refine jr_get (v := .ref (h 4)) (pc := 1) hh in_X1_found_X1 0 rfl rfl 3 (by decide) (by decide +kernel : Cond.fieldLink RX1 22 (TX1 3).1 (TX1 3).2.1 (TX1 3).2.2.1 ∈ wsX1_found) rfl dX1_found_1 ?_
  refine jr_iload_n (pc := 4) hh 1 dX1_found_4 rfl rfl ?_
  refine jr_iload_n (pc := 5) hh 2 dX1_found_5 rfl rfl ?_
  refine jr_callSN (pc := 6) hh [.int (iI (i : Int)), .int (iI (t : Int))] [.ref (h 4)] (c_X3_cell l G i t) gX1_found_X3_cell_n37 rfl (by decide +kernel) (by decide +kernel) (by decide +kernel) (by decide) (by decide) [] [0, 1, 2, 3, 4, 5, 6, 7] rfl rfl rfl rfl (by decide) 2 rfl rfl (Nat.le_of_ble_eq_true rfl) (by decide +kernel) dX1_found_6 (fun rvu1 wu1 hu1 => ?_)
  obtain ⟨rfl, rfl⟩ := hu1
  refine jr_perm (ws' := (wLI G h F V)) (st := [.int (iI ((i * 12 + t : Nat) : Int)), .ref (h 4)]) [0, 1, 2, 3, 4, 5, 6, 7] rfl rfl ?_
  refine jr_iald (F := (F 3)) (pc := 9) hh 4 rfl (i * 12 + t) (by omega) (by omega) (by decide) dX1_found_9 ?_
  refine jr_istore (lv' := [(4, .int (iI ((F 3) (i * 12 + t)))), (0, .ref (h 0)), (1, .int (iI (i : Int))), (2, .int (iI (t : Int))), (3, .ref (h 7))]) (pc := 10) hh dX1_found_10 (by decide) rfl ?_
  refine jr_iload (pc := 12) hh 0 dX1_found_12 rfl ?_
  refine jr_ldc (z := (-1000000000)) (v := -1000000000) (pc := 14) hh (by decide) (by decide +kernel : Cond.constant RX1 32 (-1000000000) ∈ wsX1_found) dX1_found_14 ?_
  refine jr_icmp_eq (tgt := 22) (pc := 16) hh dX1_found_16 (by decide) ⟨by omega, by omega⟩ ⟨by omega, by omega⟩ (fun c2 => ?_) (fun c2 => ?_)
  · skip
    refine jr_aload_n (pc := 22) hh 1 dX1_found_22 rfl rfl ?_
    refine jr_get (v := .ref (h 1)) (pc := 23) hh in_X1_found_X1 0 rfl rfl 0 (by decide) (by decide +kernel : Cond.fieldLink RX1 9 (TX1 0).1 (TX1 0).2.1 (TX1 0).2.2.1 ∈ wsX1_found) rfl dX1_found_23 ?_
    refine jr_iload_n (pc := 26) hh 2 dX1_found_26 rfl rfl ?_
    refine jr_cald (F := (F 0)) (pc := 27) hh 1 rfl i (by omega) (by omega) (by decide) dX1_found_27 ?_
    refine jr_bipush (pc := 28) hh dX1_found_28 (by decide) ?_
    refine jr_icmp_ne (tgt := 42) (pc := 30) hh dX1_found_30 (by decide) ⟨by omega, by omega⟩ ⟨by omega, by omega⟩ (fun c3 => ?_) (fun c3 => ?_)
    · skip
      have hon := h2 (by omega)
      have hof := h4 (by omega) (by omega)
      refine jr_aload_n (pc := 42) hh 1 dX1_found_42 rfl rfl ?_
      refine jr_get (v := .ref (h 1)) (pc := 43) hh in_X1_found_X1 0 rfl rfl 0 (by decide) (by decide +kernel : Cond.fieldLink RX1 9 (TX1 0).1 (TX1 0).2.1 (TX1 0).2.2.1 ∈ wsX1_found) rfl dX1_found_43 ?_
      refine jr_iload_n (pc := 46) hh 2 dX1_found_46 rfl rfl ?_
      refine jr_cald (F := (F 0)) (pc := 47) hh 1 rfl i (by omega) (by omega) (by decide) dX1_found_47 ?_
      refine jr_aload_n (pc := 48) hh 1 dX1_found_48 rfl rfl ?_
      refine jr_get (v := .ref (h 6)) (pc := 49) hh in_X1_found_X1 0 rfl rfl 5 (by decide) (by decide +kernel : Cond.fieldLink RX1 29 (TX1 5).1 (TX1 5).2.1 (TX1 5).2.2.1 ∈ wsX1_found) rfl dX1_found_49 ?_
      refine jr_aload_n (pc := 52) hh 1 dX1_found_52 rfl rfl ?_
      refine jr_get (v := .ref (h 2)) (pc := 53) hh in_X1_found_X1 0 rfl rfl 1 (by decide) (by decide +kernel : Cond.fieldLink RX1 15 (TX1 1).1 (TX1 1).2.1 (TX1 1).2.2.1 ∈ wsX1_found) rfl dX1_found_53 ?_
      refine jr_iload_n (pc := 56) hh 2 dX1_found_56 rfl rfl ?_
      refine jr_iald (F := (F 1)) (pc := 57) hh 2 rfl i (by omega) (by omega) (by decide) dX1_found_57 ?_
      refine jr_iald (F := (F 5)) (pc := 58) hh 6 rfl (((F 1) i).toNat) (by omega) (by omega) (by decide) dX1_found_58 ?_
      refine jr_aload_n (pc := 59) hh 1 dX1_found_59 rfl rfl ?_
      refine jr_get (v := .ref (h 6)) (pc := 60) hh in_X1_found_X1 0 rfl rfl 5 (by decide) (by decide +kernel : Cond.fieldLink RX1 29 (TX1 5).1 (TX1 5).2.1 (TX1 5).2.2.1 ∈ wsX1_found) rfl dX1_found_60 ?_
      refine jr_aload_n (pc := 63) hh 1 dX1_found_63 rfl rfl ?_
      refine jr_get (v := .ref (h 3)) (pc := 64) hh in_X1_found_X1 0 rfl rfl 2 (by decide) (by decide +kernel : Cond.fieldLink RX1 19 (TX1 2).1 (TX1 2).2.1 (TX1 2).2.2.1 ∈ wsX1_found) rfl dX1_found_64 ?_
      refine jr_iload_n (pc := 67) hh 2 dX1_found_67 rfl rfl ?_
      refine jr_iald (F := (F 2)) (pc := 68) hh 3 rfl i (by omega) (by omega) (by decide) dX1_found_68 ?_
      refine jr_iald (F := (F 5)) (pc := 69) hh 6 rfl (((F 2) i).toNat) (by omega) (by omega) (by decide) dX1_found_69 ?_
      refine jr_callS (pc := 70) hh [.int (iI ((F 0) i)), .int (iI ((F 5) (((F 1) i).toNat))), .int (iI ((F 5) (((F 2) i).toNat)))] [] (c_X1_combined l G ((F 0) i) ((F 5) (((F 1) i).toNat)) ((F 5) (((F 2) i).toNat)) (by omega) (by omega) (by omega)) gX1_found_X1_combined rfl (by decide) (by decide) [] [0, 1, 2, 3, 4, 5, 6, 7] rfl rfl rfl rfl (by decide) 3 rfl rfl (Nat.le_of_ble_eq_true rfl) (by decide +kernel) dX1_found_70 (fun rvu4 wu4 hu4 => ?_)
      obtain ⟨rfl, rfl⟩ := hu4
      refine jr_perm (ws' := (wLI G h F V)) (st := [.int (iI (cmbI ((F 0) i) ((F 5) (((F 1) i).toNat)) ((F 5) (((F 2) i).toNat))))]) [0, 1, 2, 3, 4, 5, 6, 7] rfl rfl ?_
      exact jr_iret (pc := 73) hh hret rfl ⟨jsi (by unfold fndI; (repeat' split) <;> first | rfl | omega), rfl⟩ (by decide) (by decide) dX1_found_73
    · skip
      have hon := h1 (by omega)
      refine jr_aload_n (pc := 33) hh 4 dX1_found_33 rfl rfl ?_
      refine jr_aload_n (pc := 34) hh 1 dX1_found_34 rfl rfl ?_
      refine jr_get (v := .ref (h 2)) (pc := 35) hh in_X1_found_X1 0 rfl rfl 1 (by decide) (by decide +kernel : Cond.fieldLink RX1 15 (TX1 1).1 (TX1 1).2.1 (TX1 1).2.2.1 ∈ wsX1_found) rfl dX1_found_35 ?_
      refine jr_iload_n (pc := 38) hh 2 dX1_found_38 rfl rfl ?_
      refine jr_iald (F := (F 1)) (pc := 39) hh 2 rfl i (by omega) (by omega) (by decide) dX1_found_39 ?_
      refine jr_iald (F := (F 6)) (pc := 40) hh 7 rfl (((F 1) i).toNat) (by omega) (by omega) (by decide) dX1_found_40 ?_
      exact jr_iret (pc := 41) hh hret rfl ⟨jsi (by unfold fndI; (repeat' split) <;> first | rfl | omega), rfl⟩ (by decide) (by decide) dX1_found_41
  · skip
    refine jr_iload (pc := 19) hh 0 dX1_found_19 rfl ?_
    exact jr_iret (pc := 21) hh hret rfl ⟨jsi (by unfold fndI; (repeat' split) <;> first | rfl | omega), rfl⟩ (by decide) (by decide) dX1_found_21
set_option maxRecDepth 20000 in
theorem in_X1_findAll_X1 : ∀ w ∈ u_ws RX1 TX1 7, w ∈ wsX1_findAll := by decide +kernel
set_option maxHeartbeats 4000000 in
set_option maxRecDepth 100000 in
theorem c_X1_findAll (l : Launch) (G : jG) (h : Nat → Nat) (F : Nat → Nat → Int) (V : Nat → Int) (t : Nat) (ht : t < 12) (hV : 0 ≤ V 0 ∧ V 0 ≤ 10) (hL : okL F (V 0)) (hA : okAc (F 3)) (hI : okIn (F 6)) : jMet l yX1_findAll wsX1_findAll { frames := 3, cells := 0, slots := 0, locals := 120 } G (wLI G h F V) [.ref (h 0), .int (iI (t : Int)), .ref (h 7)] (fun rv w1 => rv = none ∧ ∃ nm : Nat → Int, (∀ j : Nat, (j : Int) < V 0 → nm j = enc (lnC F t j)) ∧ w1 = wLI G h (uF F 5 nm) V) := by
  refine jMet_of (cc := cX1_findAll) (maxL := 4) (ret := none) (by decide +kernel) rfl (Nat.le_of_ble_eq_true rfl) ?_
  intro p e s m args below meth c A hh hret hinit
  refine jr_loc (lv' := [(0, .ref (h 0)), (1, .int (iI (t : Int))), (2, .ref (h 7))]) [0, 1, 2] rfl ?_
  refine jr_iconst (pc := 0) hh dX1_findAll_0 ?_
  refine jr_istore_n (lv' := [(3, .int (iI 0)), (0, .ref (h 0)), (1, .int (iI (t : Int))), (2, .ref (h 7))]) (pc := 1) hh dX1_findAll_1 rfl (by decide) rfl ?_
  refine jr_loc (lv' := [(0, .ref (h 0)), (1, .int (iI (t : Int))), (2, .ref (h 7)), (3, .int (iI 0))]) [1, 2, 3, 0] rfl ?_
  refine jr_lvset (a := 0) (b := (0 : Int)) (lv' := [(0, .ref (h 0)), (1, .int (iI (t : Int))), (2, .ref (h 7)), (3, .int (iI (0 : Int)))]) 3 rfl (by first | rfl | omega) rfl ?_
  refine jr_ws (ws' := (wLI G h (uF F 5 (F 5)) V)) rfl ?_
  refine jr_loop (σ := Nat × (Nat → Int)) (fun (x : Nat × (Nat → Int)) => match x with | (i, nm) => ((i : Int) ≤ V 0) ∧ (∀ j : Nat, j < i → nm j = enc (lnC F t j))) (fun (x : Nat × (Nat → Int)) => match x with | (i, nm) => (V 0).toNat - i) (fun (x : Nat × (Nat → Int)) => match x with | (i, nm) => (wLI G h (uF F 5 nm) V)) (fun (x : Nat × (Nat → Int)) => match x with | (i, nm) => [(0, .ref (h 0)), (1, .int (iI (t : Int))), (2, .ref (h 7)), (3, .int (iI (i : Int)))]) (fun (x : Nat × (Nat → Int)) => match x with | (i, nm) => []) ?_ (0, (F 5)) ⟨by (try dsimp only); omega, fun j hj => absurd hj (Nat.not_lt_zero _)⟩
  rintro ⟨i, nm⟩ ⟨hi, hnm⟩ ih1
  dsimp only at ih1 ⊢
  try dsimp only at hi hnm
  refine jr_iload_n (pc := 2) hh 3 dX1_findAll_2 rfl rfl ?_
  refine jr_aload_n (pc := 3) hh 0 dX1_findAll_3 rfl rfl ?_
  refine jr_get (v := .int (iI (V 0))) (pc := 4) hh in_X1_findAll_X1 0 rfl rfl 6 (by decide) (by decide +kernel : Cond.fieldLink RX1 33 (TX1 6).1 (TX1 6).2.1 (TX1 6).2.2.1 ∈ wsX1_findAll) rfl dX1_findAll_4 ?_
  refine jr_icmp_ge (tgt := 29) (pc := 7) hh dX1_findAll_7 (by decide) ⟨by omega, by omega⟩ ⟨by omega, by omega⟩ (fun c2 => ?_) (fun c2 => ?_)
  · skip
    exact jr_vret (pc := 29) hh hret ⟨rfl, nm, fun j hj => hnm j (by omega), rfl⟩ (by decide) (by decide) dX1_findAll_29
  · skip
    have hLi := hL i (by omega)
    have hAi := hA (i * 12 + t) (by omega)
    have hrg : ∀ j : Nat, j < i → -1000000000 ≤ nm j ∧ nm j ≤ 99999999 := fun j hj => by rw [hnm j hj]; exact enc_range (lnC_B hL hA hI ht (by omega) hV.2)
    have hfe : fndI (uF F 5 nm) i t = enc (lnC F t i) := fnd_enc hL hA hI ht (by omega) hV.2 (fun _ hk => ⟨hnm _ (by have := hLi.2.2 hk; omega), hnm _ (by have := hLi.2.2 hk; omega)⟩)
    refine jr_aload_n (pc := 10) hh 0 dX1_findAll_10 rfl rfl ?_
    refine jr_get (v := .ref (h 6)) (pc := 11) hh in_X1_findAll_X1 0 rfl rfl 5 (by decide) (by decide +kernel : Cond.fieldLink RX1 29 (TX1 5).1 (TX1 5).2.1 (TX1 5).2.2.1 ∈ wsX1_findAll) rfl dX1_findAll_11 ?_
    refine jr_iload_n (pc := 14) hh 3 dX1_findAll_14 rfl rfl ?_
    refine jr_aload_n (pc := 15) hh 0 dX1_findAll_15 rfl rfl ?_
    refine jr_iload_n (pc := 16) hh 3 dX1_findAll_16 rfl rfl ?_
    refine jr_iload_n (pc := 17) hh 1 dX1_findAll_17 rfl rfl ?_
    refine jr_aload_n (pc := 18) hh 2 dX1_findAll_18 rfl rfl ?_
    refine jr_callV (pc := 19) hh [.int (iI (i : Int)), .int (iI (t : Int)), .ref (h 7)] [.int (iI (i : Int)), .ref (h 6)] (c_X1_found l G h (uF F 5 nm) V i t (by omega) (by omega) hLi.1 hLi.2.1 (fun hk => by have := hLi.2.2 hk; show (0 ≤ F 1 i ∧ F 1 i < 10) ∧ (0 ≤ F 2 i ∧ F 2 i < 10); omega) (by show -1000000000 ≤ F 3 (i * 12 + t) ∧ F 3 (i * 12 + t) ≤ 99999999; omega) (fun _ hk => ⟨hrg _ (by have := hLi.2.2 hk; show (F 1 i).toNat < i; omega), hrg _ (by have := hLi.2.2 hk; show (F 2 i).toNat < i; omega)⟩)) gX1_findAll_X1_found rfl (by decide) (by decide) [0, 1, 2, 3, 4, 5, 6, 7] [] rfl rfl rfl rfl (by decide) 0 rfl rfl 3 rfl rfl (Nat.le_of_ble_eq_true rfl) (by decide +kernel) dX1_findAll_19 (fun rvu3 wu3 hu3 => ?_)
    obtain ⟨rfl, rfl⟩ := hu3
    refine jr_perm (ws' := (wLI G h (uF F 5 nm) V)) (st := [.int (iI (fndI (uF F 5 nm) i t)), .int (iI (i : Int)), .ref (h 6)]) [0, 1, 2, 3, 4, 5, 6, 7] rfl rfl ?_
    refine jr_iast (F := nm) (ws' := (wLI G h (uF F 5 (jU nm i (fndI (uF F 5 nm) i t))) V)) (pc := 22) hh 6 rfl i (by omega) (by omega) (by decide) rfl dX1_findAll_22 ?_
    refine jr_iinc (a := (i : Int)) (b := (((i + 1) : Nat) : Int)) (lv' := [(3, .int (iI (((i + 1) : Nat) : Int))), (0, .ref (h 0)), (1, .int (iI (t : Int))), (2, .ref (h 7))]) (pc := 23) hh 3 dX1_findAll_23 rfl (by omega) (by decide) rfl ?_
    refine jr_goto (tgt := 2) (pc := 26) hh dX1_findAll_26 (by decide) ?_
    have hnew : ∀ j : Nat, j < i + 1 → (jU nm i (fndI (uF F 5 nm) i t)) j = enc (lnC F t j) := by
      intro j hj
      by_cases hq : j = i
      · subst hq; rw [jU_s]; exact hfe
      · rw [jU_n hq]; exact hnm j (by omega)
    refine jr_loc (lv' := [(0, .ref (h 0)), (1, .int (iI (t : Int))), (2, .ref (h 7)), (3, .int (iI (((i + 1) : Nat) : Int)))]) [1, 2, 3, 0] rfl ?_
    exact ih1 ((i + 1), (jU nm i (fndI (uF F 5 nm) i t))) ⟨by (try dsimp only); omega, hnew⟩ (by (try dsimp only); omega)
def clN (F : Nat → Nat → Int) (t i : Nat) (nd : Nat → Int) : Prop := (∀ j : Nat, j ≤ i → nd j = 0 ∨ nd j = 1) ∧ nd i = 1 ∧ (∀ j : Nat, j ≤ i → nd j = 1 → F 0 j ≠ 100 → F 3 (j * 12 + t) = -1000000000 → nd (F 1 j).toNat = 1 ∧ nd (F 2 j).toNat = 1)
set_option maxRecDepth 20000 in
theorem in_X1_findNeeded_X1 : ∀ w ∈ u_ws RX1 TX1 7, w ∈ wsX1_findNeeded := by decide +kernel
set_option maxHeartbeats 4000000 in
set_option maxRecDepth 100000 in
theorem c_X1_findNeeded (l : Launch) (G : jG) (h : Nat → Nat) (F : Nat → Nat → Int) (V : Nat → Int) (ln t : Nat) (ht : t < 12) (hV : 0 ≤ V 0 ∧ V 0 ≤ 10) (hL : okL F (V 0)) (hA : okAc (F 3)) (hI : okIn (F 6)) (hln : (ln : Int) < V 0) (hN : clN F t ln (F 4)) : jMet l yX1_findNeeded wsX1_findNeeded { frames := 3, cells := 0, slots := 0, locals := 120 } G (wLI G h F V) [.ref (h 0), .int (iI (ln : Int)), .int (iI (t : Int)), .ref (h 7)] (fun rv w1 => rv = some (.int (iI (enc (lnC F t ln)))) ∧ ∃ nm : Nat → Int, w1 = wLI G h (uF F 5 nm) V) := by
  refine jMet_of (cc := cX1_findNeeded) (maxL := 5) (ret := (some .int)) (by decide +kernel) rfl (Nat.le_of_ble_eq_true rfl) ?_
  intro p e s m args below meth c A hh hret hinit
  refine jr_loc (lv' := [(0, .ref (h 0)), (1, .int (iI (ln : Int))), (2, .int (iI (t : Int))), (3, .ref (h 7))]) [0, 1, 2, 3] rfl ?_
  refine jr_iconst (pc := 0) hh dX1_findNeeded_0 ?_
  refine jr_istore (lv' := [(4, .int (iI 0)), (0, .ref (h 0)), (1, .int (iI (ln : Int))), (2, .int (iI (t : Int))), (3, .ref (h 7))]) (pc := 1) hh dX1_findNeeded_1 (by decide) rfl ?_
  refine jr_loc (lv' := [(0, .ref (h 0)), (1, .int (iI (ln : Int))), (2, .int (iI (t : Int))), (3, .ref (h 7)), (4, .int (iI 0))]) [1, 2, 3, 4, 0] rfl ?_
  refine jr_lvset (a := 0) (b := (0 : Int)) (lv' := [(0, .ref (h 0)), (1, .int (iI (ln : Int))), (2, .int (iI (t : Int))), (3, .ref (h 7)), (4, .int (iI (0 : Int)))]) 4 rfl (by first | rfl | omega) rfl ?_
  refine jr_ws (ws' := (wLI G h (uF F 5 (F 5)) V)) rfl ?_
  refine jr_loop (σ := Nat × (Nat → Int)) (fun (x : Nat × (Nat → Int)) => match x with | (i, nm) => (i ≤ ln + 1) ∧ (∀ j : Nat, j < i → F 4 j = 1 → nm j = enc (lnC F t j))) (fun (x : Nat × (Nat → Int)) => match x with | (i, nm) => ln + 1 - i) (fun (x : Nat × (Nat → Int)) => match x with | (i, nm) => (wLI G h (uF F 5 nm) V)) (fun (x : Nat × (Nat → Int)) => match x with | (i, nm) => [(0, .ref (h 0)), (1, .int (iI (ln : Int))), (2, .int (iI (t : Int))), (3, .ref (h 7)), (4, .int (iI (i : Int)))]) (fun (x : Nat × (Nat → Int)) => match x with | (i, nm) => []) ?_ (0, (F 5)) ⟨by (try dsimp only); omega, fun j hj => absurd hj (Nat.not_lt_zero _)⟩
  rintro ⟨i, nm⟩ ⟨hi, hnm⟩ ih1
  dsimp only at ih1 ⊢
  try dsimp only at hi hnm
  refine jr_iload (pc := 3) hh 4 dX1_findNeeded_3 rfl ?_
  refine jr_iload_n (pc := 5) hh 1 dX1_findNeeded_5 rfl rfl ?_
  refine jr_icmp_gt (tgt := 40) (pc := 6) hh dX1_findNeeded_6 (by decide) ⟨by omega, by omega⟩ ⟨by omega, by omega⟩ (fun c2 => ?_) (fun c2 => ?_)
  · skip
    have hN1 := hnm ln (by omega) hN.2.1
    have hBl := enc_range (lnC_B hL hA hI ht (i := ln) (by omega) hV.2)
    refine jr_aload_n (pc := 40) hh 0 dX1_findNeeded_40 rfl rfl ?_
    refine jr_get (v := .ref (h 6)) (pc := 41) hh in_X1_findNeeded_X1 0 rfl rfl 5 (by decide) (by decide +kernel : Cond.fieldLink RX1 29 (TX1 5).1 (TX1 5).2.1 (TX1 5).2.2.1 ∈ wsX1_findNeeded) rfl dX1_findNeeded_41 ?_
    refine jr_iload_n (pc := 44) hh 1 dX1_findNeeded_44 rfl rfl ?_
    refine jr_iald (F := nm) (pc := 45) hh 6 rfl ln (by omega) (by omega) (by decide) dX1_findNeeded_45 ?_
    exact jr_iret (pc := 46) hh hret rfl ⟨jsi hN1, nm, rfl⟩ (by decide) (by decide) dX1_findNeeded_46
  · skip
    have hb := hN.1 i (by omega)
    refine jr_aload_n (pc := 9) hh 0 dX1_findNeeded_9 rfl rfl ?_
    refine jr_get (v := .ref (h 5)) (pc := 10) hh in_X1_findNeeded_X1 0 rfl rfl 4 (by decide) (by decide +kernel : Cond.fieldLink RX1 25 (TX1 4).1 (TX1 4).2.1 (TX1 4).2.2.1 ∈ wsX1_findNeeded) rfl dX1_findNeeded_10 ?_
    refine jr_iload (pc := 13) hh 4 dX1_findNeeded_13 rfl ?_
    refine jr_zald (F := (F 4)) (pc := 15) hh 5 rfl i (by omega) (by omega) (by decide) dX1_findNeeded_15 ?_
    refine jr_if_eq (tgt := 34) (pc := 16) hh dX1_findNeeded_16 (by decide) ⟨by omega, by omega⟩ (fun c3 => ?_) (fun c3 => ?_)
    · skip
      refine jr_iinc (a := (i : Int)) (b := (((i + 1) : Nat) : Int)) (lv' := [(4, .int (iI (((i + 1) : Nat) : Int))), (0, .ref (h 0)), (1, .int (iI (ln : Int))), (2, .int (iI (t : Int))), (3, .ref (h 7))]) (pc := 34) hh 4 dX1_findNeeded_34 rfl (by omega) (by decide) rfl ?_
      refine jr_goto (tgt := 3) (pc := 37) hh dX1_findNeeded_37 (by decide) ?_
      have hnew : ∀ j : Nat, j < i + 1 → F 4 j = 1 → nm j = enc (lnC F t j) := by
        intro j hj hd
        by_cases hq : j = i
        · subst hq; omega
        · exact hnm j (by omega) hd
      refine jr_loc (lv' := [(0, .ref (h 0)), (1, .int (iI (ln : Int))), (2, .int (iI (t : Int))), (3, .ref (h 7)), (4, .int (iI (((i + 1) : Nat) : Int)))]) [1, 2, 3, 4, 0] rfl ?_
      exact ih1 ((i + 1), nm) ⟨by (try dsimp only); omega, hnew⟩ (by (try dsimp only); omega)
    · skip
      have hLi := hL i (by omega)
      have hAi := hA (i * 12 + t) (by omega)
      have hcl := hN.2.2 i (by omega) (by omega)
      have hrg : ∀ j : Nat, j < i → F 4 j = 1 → -1000000000 ≤ nm j ∧ nm j ≤ 99999999 := fun j hj hd => by rw [hnm j hj hd]; exact enc_range (lnC_B hL hA hI ht (by omega) hV.2)
      have hfe : fndI (uF F 5 nm) i t = enc (lnC F t i) := fnd_enc hL hA hI ht (by omega) hV.2 (fun ha hk => ⟨hnm _ (by have := hLi.2.2 hk; omega) (hcl hk ha).1, hnm _ (by have := hLi.2.2 hk; omega) (hcl hk ha).2⟩)
      refine jr_aload_n (pc := 19) hh 0 dX1_findNeeded_19 rfl rfl ?_
      refine jr_get (v := .ref (h 6)) (pc := 20) hh in_X1_findNeeded_X1 0 rfl rfl 5 (by decide) (by decide +kernel : Cond.fieldLink RX1 29 (TX1 5).1 (TX1 5).2.1 (TX1 5).2.2.1 ∈ wsX1_findNeeded) rfl dX1_findNeeded_20 ?_
      refine jr_iload (pc := 23) hh 4 dX1_findNeeded_23 rfl ?_
      refine jr_aload_n (pc := 25) hh 0 dX1_findNeeded_25 rfl rfl ?_
      refine jr_iload (pc := 26) hh 4 dX1_findNeeded_26 rfl ?_
      refine jr_iload_n (pc := 28) hh 2 dX1_findNeeded_28 rfl rfl ?_
      refine jr_aload_n (pc := 29) hh 3 dX1_findNeeded_29 rfl rfl ?_
      refine jr_callV (pc := 30) hh [.int (iI (i : Int)), .int (iI (t : Int)), .ref (h 7)] [.int (iI (i : Int)), .ref (h 6)] (c_X1_found l G h (uF F 5 nm) V i t (by omega) (by omega) hLi.1 hLi.2.1 (fun hk => by have := hLi.2.2 hk; show (0 ≤ F 1 i ∧ F 1 i < 10) ∧ (0 ≤ F 2 i ∧ F 2 i < 10); omega) (by show -1000000000 ≤ F 3 (i * 12 + t) ∧ F 3 (i * 12 + t) ≤ 99999999; omega) (fun ha hk => ⟨hrg _ (by have := hLi.2.2 hk; show (F 1 i).toNat < i; omega) (hcl hk ha).1, hrg _ (by have := hLi.2.2 hk; show (F 2 i).toNat < i; omega) (hcl hk ha).2⟩)) gX1_findNeeded_X1_found rfl (by decide) (by decide) [0, 1, 2, 3, 4, 5, 6, 7] [] rfl rfl rfl rfl (by decide) 0 rfl rfl 3 rfl rfl (Nat.le_of_ble_eq_true rfl) (by decide +kernel) dX1_findNeeded_30 (fun rvu4 wu4 hu4 => ?_)
      obtain ⟨rfl, rfl⟩ := hu4
      refine jr_perm (ws' := (wLI G h (uF F 5 nm) V)) (st := [.int (iI (fndI (uF F 5 nm) i t)), .int (iI (i : Int)), .ref (h 6)]) [0, 1, 2, 3, 4, 5, 6, 7] rfl rfl ?_
      refine jr_iast (F := nm) (ws' := (wLI G h (uF F 5 (jU nm i (fndI (uF F 5 nm) i t))) V)) (pc := 33) hh 6 rfl i (by omega) (by omega) (by decide) rfl dX1_findNeeded_33 ?_
      refine jr_iinc (a := (i : Int)) (b := (((i + 1) : Nat) : Int)) (lv' := [(4, .int (iI (((i + 1) : Nat) : Int))), (0, .ref (h 0)), (1, .int (iI (ln : Int))), (2, .int (iI (t : Int))), (3, .ref (h 7))]) (pc := 34) hh 4 dX1_findNeeded_34 rfl (by omega) (by decide) rfl ?_
      refine jr_goto (tgt := 3) (pc := 37) hh dX1_findNeeded_37 (by decide) ?_
      have hnew : ∀ j : Nat, j < i + 1 → F 4 j = 1 → (jU nm i (fndI (uF F 5 nm) i t)) j = enc (lnC F t j) := by
        intro j hj hd
        by_cases hq : j = i
        · subst hq; rw [jU_s]; exact hfe
        · rw [jU_n hq]; exact hnm j (by omega) hd
      refine jr_loc (lv' := [(0, .ref (h 0)), (1, .int (iI (ln : Int))), (2, .int (iI (t : Int))), (3, .ref (h 7)), (4, .int (iI (((i + 1) : Nat) : Int)))]) [1, 2, 3, 4, 0] rfl ?_
      exact ih1 ((i + 1), (jU nm i (fndI (uF F 5 nm) i t))) ⟨by (try dsimp only); omega, hnew⟩ (by (try dsimp only); omega)
/-- what is marked, with the lines above i seen to -/
def clM (F : Nat → Nat → Int) (t ln i : Nat) (nd : Nat → Int) : Prop := (∀ j : Nat, j ≤ ln → nd j = 0 ∨ nd j = 1) ∧ nd ln = 1 ∧ (∀ j : Nat, i < j → j ≤ ln → nd j = 1 → F 0 j ≠ 100 → F 3 (j * 12 + t) = -1000000000 → nd (F 1 j).toNat = 1 ∧ nd (F 2 j).toNat = 1)
theorem clM_skip {F : Nat → Nat → Int} {t ln i : Nat} {nd : Nat → Int} (h : clM F t ln i nd) (h0 : 0 < i) (hs : nd i = 1 → F 0 i ≠ 100 → ¬ F 3 (i * 12 + t) = -1000000000) : clM F t ln (i - 1) nd := by
  refine ⟨h.1, h.2.1, fun j h1 h2 h3 h4 h5 => ?_⟩
  by_cases hj : j = i
  · subst hj; exact absurd h5 (hs h3 h4)
  · exact h.2.2 j (by omega) h2 h3 h4 h5
theorem clM_set {F : Nat → Nat → Int} {t ln i : Nat} {nd : Nat → Int} (h : clM F t ln i nd) (h0 : 0 < i) (hl : i ≤ ln) (h1 : 0 ≤ F 1 i ∧ F 1 i < i) (h2 : 0 ≤ F 2 i ∧ F 2 i < i) : clM F t ln (i - 1) (jU (jU nd (F 1 i).toNat 1) (F 2 i).toNat 1) := by
  have hup : ∀ j, nd j = 1 → jU (jU nd (F 1 i).toNat 1) (F 2 i).toNat 1 j = 1 := fun j hj => by unfold jU; split; rfl; split; rfl; exact hj
  refine ⟨fun j hj => ?_, hup _ h.2.1, fun j q1 q2 q3 q4 q5 => ?_⟩
  · have := h.1 j hj
    unfold jU; split; exact Or.inr rfl; split; exact Or.inr rfl; exact this
  · by_cases hj : j = i
    · subst hj
      refine ⟨?_, by rw [jU_s]⟩
      unfold jU; split; rfl; rw [if_pos rfl]
    · have hold : nd j = 1 := by
        unfold jU at q3
        rw [if_neg (by omega), if_neg (by omega)] at q3
        exact q3
      have := h.2.2 j (by omega) q2 hold q4 q5
      exact ⟨hup _ this.1, hup _ this.2⟩
set_option maxRecDepth 20000 in
theorem in_X1_markNeeded_X1 : ∀ w ∈ u_ws RX1 TX1 7, w ∈ wsX1_markNeeded := by decide +kernel
set_option maxHeartbeats 4000000 in
set_option maxRecDepth 100000 in
theorem c_X1_markNeeded (l : Launch) (G : jG) (h : Nat → Nat) (F : Nat → Nat → Int) (V : Nat → Int) (ln t : Nat) (ht : t < 12) (hV : 0 ≤ V 0 ∧ V 0 ≤ 10) (hL : okL F (V 0)) (hA : okAc (F 3)) (hln : (ln : Int) < V 0) : jMet l yX1_markNeeded wsX1_markNeeded { frames := 2, cells := 0, slots := 0, locals := 60 } G (wL G h F V) [.ref (h 0), .int (iI (ln : Int)), .int (iI (t : Int))] (fun rv w1 => rv = none ∧ ∃ nd : Nat → Int, clN F t ln nd ∧ w1 = wL G h (uF F 4 nd) V) := by
  refine jMet_of (cc := cX1_markNeeded) (maxL := 4) (ret := none) (by decide +kernel) rfl (Nat.le_of_ble_eq_true rfl) ?_
  intro p e s m args below meth c A hh hret hinit
  refine jr_loc (lv' := [(0, .ref (h 0)), (1, .int (iI (ln : Int))), (2, .int (iI (t : Int)))]) [0, 1, 2] rfl ?_
  refine jr_iconst (pc := 0) hh dX1_markNeeded_0 ?_
  refine jr_istore_n (lv' := [(3, .int (iI 0)), (0, .ref (h 0)), (1, .int (iI (ln : Int))), (2, .int (iI (t : Int)))]) (pc := 1) hh dX1_markNeeded_1 rfl (by decide) rfl ?_
  refine jr_loc (lv' := [(0, .ref (h 0)), (1, .int (iI (ln : Int))), (2, .int (iI (t : Int))), (3, .int (iI 0))]) [1, 2, 3, 0] rfl ?_
  refine jr_lvset (a := 0) (b := (0 : Int)) (lv' := [(0, .ref (h 0)), (1, .int (iI (ln : Int))), (2, .int (iI (t : Int))), (3, .int (iI (0 : Int)))]) 3 rfl (by first | rfl | omega) rfl ?_
  refine jr_ws (ws' := (wL G h (uF F 4 (F 4)) V)) rfl ?_
  refine jr_loop (σ := Nat × (Nat → Int)) (fun (x : Nat × (Nat → Int)) => match x with | (i, nd) => (i ≤ ln) ∧ (∀ j : Nat, j < i → nd j = 0)) (fun (x : Nat × (Nat → Int)) => match x with | (i, nd) => ln - i) (fun (x : Nat × (Nat → Int)) => match x with | (i, nd) => (wL G h (uF F 4 nd) V)) (fun (x : Nat × (Nat → Int)) => match x with | (i, nd) => [(0, .ref (h 0)), (1, .int (iI (ln : Int))), (2, .int (iI (t : Int))), (3, .int (iI (i : Int)))]) (fun (x : Nat × (Nat → Int)) => match x with | (i, nd) => []) ?_ (0, (F 4)) ⟨by (try dsimp only); omega, fun j hj => absurd hj (Nat.not_lt_zero _)⟩
  rintro ⟨i, nd⟩ ⟨hi, hz⟩ ih1
  dsimp only at ih1 ⊢
  try dsimp only at hi hz
  refine jr_iload_n (pc := 2) hh 3 dX1_markNeeded_2 rfl rfl ?_
  refine jr_iload_n (pc := 3) hh 1 dX1_markNeeded_3 rfl rfl ?_
  refine jr_icmp_ge (tgt := 20) (pc := 4) hh dX1_markNeeded_4 (by decide) ⟨by omega, by omega⟩ ⟨by omega, by omega⟩ (fun c2 => ?_) (fun c2 => ?_)
  · skip
    refine jr_aload_n (pc := 20) hh 0 dX1_markNeeded_20 rfl rfl ?_
    refine jr_get (v := .ref (h 5)) (pc := 21) hh in_X1_markNeeded_X1 0 rfl rfl 4 (by decide) (by decide +kernel : Cond.fieldLink RX1 25 (TX1 4).1 (TX1 4).2.1 (TX1 4).2.2.1 ∈ wsX1_markNeeded) rfl dX1_markNeeded_21 ?_
    refine jr_iload_n (pc := 24) hh 1 dX1_markNeeded_24 rfl rfl ?_
    refine jr_iconst (pc := 25) hh dX1_markNeeded_25 ?_
    refine jr_zast (F := nd) (ws' := (wL G h (uF F 4 (jU nd ln 1)) V)) (pc := 26) hh 5 rfl ln (by omega) (by omega) (by decide) (by omega) rfl dX1_markNeeded_26 ?_
    refine jr_iload_n (pc := 27) hh 1 dX1_markNeeded_27 rfl rfl ?_
    refine jr_istore_n (lv' := [(3, .int (iI (ln : Int))), (0, .ref (h 0)), (1, .int (iI (ln : Int))), (2, .int (iI (t : Int)))]) (pc := 28) hh dX1_markNeeded_28 rfl (by decide) rfl ?_
    refine jr_loc (lv' := [(0, .ref (h 0)), (1, .int (iI (ln : Int))), (2, .int (iI (t : Int))), (3, .int (iI (ln : Int)))]) [1, 2, 3, 0] rfl ?_
    refine jr_loop (σ := Nat × (Nat → Int)) (fun (x : Nat × (Nat → Int)) => match x with | (i, nd) => (i ≤ ln) ∧ (clM F t ln i nd)) (fun (x : Nat × (Nat → Int)) => match x with | (i, nd) => i) (fun (x : Nat × (Nat → Int)) => match x with | (i, nd) => (wL G h (uF F 4 nd) V)) (fun (x : Nat × (Nat → Int)) => match x with | (i, nd) => [(0, .ref (h 0)), (1, .int (iI (ln : Int))), (2, .int (iI (t : Int))), (3, .int (iI (i : Int)))]) (fun (x : Nat × (Nat → Int)) => match x with | (i, nd) => []) ?_ (ln, (jU nd ln 1)) ⟨Nat.le_refl _, ⟨fun j hj => by unfold jU; split; exact Or.inr rfl; exact Or.inl (hz j (by (try dsimp only); omega)), by rw [jU_s], fun j h1 h2 => absurd h2 (by (try dsimp only); omega)⟩⟩
    rintro ⟨i, nd⟩ ⟨hi, hcl⟩ ih3
    dsimp only at ih3 ⊢
    try dsimp only at hi hcl
    refine jr_iload_n (pc := 29) hh 3 dX1_markNeeded_29 rfl rfl ?_
    refine jr_if_le (tgt := 98) (pc := 30) hh dX1_markNeeded_30 (by decide) ⟨by omega, by omega⟩ (fun c4 => ?_) (fun c4 => ?_)
    · skip
      exact jr_vret (pc := 98) hh hret ⟨rfl, nd, ⟨hcl.1, hcl.2.1, fun j h1 h2 h3 h4 => by
      by_cases hj : j = 0
      · subst hj; have := (hL 0 (by omega)).2.2 h3; omega
      · exact hcl.2.2 j (by omega) h1 h2 h3 h4⟩, rfl⟩ (by decide) (by decide) dX1_markNeeded_98
    · skip
      have hb := hcl.1 i (by omega)
      refine jr_aload_n (pc := 33) hh 0 dX1_markNeeded_33 rfl rfl ?_
      refine jr_get (v := .ref (h 5)) (pc := 34) hh in_X1_markNeeded_X1 0 rfl rfl 4 (by decide) (by decide +kernel : Cond.fieldLink RX1 25 (TX1 4).1 (TX1 4).2.1 (TX1 4).2.2.1 ∈ wsX1_markNeeded) rfl dX1_markNeeded_34 ?_
      refine jr_iload_n (pc := 37) hh 3 dX1_markNeeded_37 rfl rfl ?_
      refine jr_zald (F := nd) (pc := 38) hh 5 rfl i (by omega) (by omega) (by decide) dX1_markNeeded_38 ?_
      refine jr_if_eq (tgt := 92) (pc := 39) hh dX1_markNeeded_39 (by decide) ⟨by omega, by omega⟩ (fun c5 => ?_) (fun c5 => ?_)
      · skip
        refine jr_iinc (a := (i : Int)) (b := ((i : Int) + (-1))) (lv' := [(3, .int (iI ((i : Int) + (-1)))), (0, .ref (h 0)), (1, .int (iI (ln : Int))), (2, .int (iI (t : Int)))]) (pc := 92) hh 3 dX1_markNeeded_92 rfl (by omega) (by decide) rfl ?_
        refine jr_goto (tgt := 29) (pc := 95) hh dX1_markNeeded_95 (by decide) ?_
        have hnew : clM F t ln (i - 1) nd := clM_skip hcl (by omega) (by omega)
        refine jr_loc (lv' := [(0, .ref (h 0)), (1, .int (iI (ln : Int))), (2, .int (iI (t : Int))), (3, .int (iI ((i : Int) + (-1))))]) [1, 2, 3, 0] rfl ?_
        refine jr_lvset (a := ((i : Int) + (-1))) (b := (((i - 1) : Nat) : Int)) (lv' := [(0, .ref (h 0)), (1, .int (iI (ln : Int))), (2, .int (iI (t : Int))), (3, .int (iI (((i - 1) : Nat) : Int)))]) 3 rfl (by first | rfl | omega) rfl ?_
        exact ih3 ((i - 1), nd) ⟨by (try dsimp only); omega, hnew⟩ (by (try dsimp only); omega)
      · skip
        have hLi := hL i (by omega)
        refine jr_aload_n (pc := 42) hh 0 dX1_markNeeded_42 rfl rfl ?_
        refine jr_get (v := .ref (h 1)) (pc := 43) hh in_X1_markNeeded_X1 0 rfl rfl 0 (by decide) (by decide +kernel : Cond.fieldLink RX1 9 (TX1 0).1 (TX1 0).2.1 (TX1 0).2.2.1 ∈ wsX1_markNeeded) rfl dX1_markNeeded_43 ?_
        refine jr_iload_n (pc := 46) hh 3 dX1_markNeeded_46 rfl rfl ?_
        refine jr_cald (F := (F 0)) (pc := 47) hh 1 rfl i (by omega) (by omega) (by decide) dX1_markNeeded_47 ?_
        refine jr_bipush (pc := 48) hh dX1_markNeeded_48 (by decide) ?_
        refine jr_icmp_eq (tgt := 92) (pc := 50) hh dX1_markNeeded_50 (by decide) ⟨by omega, by omega⟩ ⟨by omega, by omega⟩ (fun c6 => ?_) (fun c6 => ?_)
        · skip
          refine jr_iinc (a := (i : Int)) (b := ((i : Int) + (-1))) (lv' := [(3, .int (iI ((i : Int) + (-1)))), (0, .ref (h 0)), (1, .int (iI (ln : Int))), (2, .int (iI (t : Int)))]) (pc := 92) hh 3 dX1_markNeeded_92 rfl (by omega) (by decide) rfl ?_
          refine jr_goto (tgt := 29) (pc := 95) hh dX1_markNeeded_95 (by decide) ?_
          have hnew : clM F t ln (i - 1) nd := clM_skip hcl (by omega) (by omega)
          refine jr_loc (lv' := [(0, .ref (h 0)), (1, .int (iI (ln : Int))), (2, .int (iI (t : Int))), (3, .int (iI ((i : Int) + (-1))))]) [1, 2, 3, 0] rfl ?_
          refine jr_lvset (a := ((i : Int) + (-1))) (b := (((i - 1) : Nat) : Int)) (lv' := [(0, .ref (h 0)), (1, .int (iI (ln : Int))), (2, .int (iI (t : Int))), (3, .int (iI (((i - 1) : Nat) : Int)))]) 3 rfl (by first | rfl | omega) rfl ?_
          exact ih3 ((i - 1), nd) ⟨by (try dsimp only); omega, hnew⟩ (by (try dsimp only); omega)
        · skip
          have hAi := hA (i * 12 + t) (by omega)
          refine jr_aload_n (pc := 53) hh 0 dX1_markNeeded_53 rfl rfl ?_
          refine jr_get (v := .ref (h 4)) (pc := 54) hh in_X1_markNeeded_X1 0 rfl rfl 3 (by decide) (by decide +kernel : Cond.fieldLink RX1 22 (TX1 3).1 (TX1 3).2.1 (TX1 3).2.2.1 ∈ wsX1_markNeeded) rfl dX1_markNeeded_54 ?_
          refine jr_iload_n (pc := 57) hh 3 dX1_markNeeded_57 rfl rfl ?_
          refine jr_iload_n (pc := 58) hh 2 dX1_markNeeded_58 rfl rfl ?_
          refine jr_callSN (pc := 59) hh [.int (iI (i : Int)), .int (iI (t : Int))] [.ref (h 4)] (c_X3_cell l G i t) gX1_markNeeded_X3_cell_n37 rfl (by decide +kernel) (by decide +kernel) (by decide +kernel) (by decide) (by decide) [] [0, 1, 2, 3, 4, 5, 6] rfl rfl rfl rfl (by decide) 2 rfl rfl (Nat.le_of_ble_eq_true rfl) (by decide +kernel) dX1_markNeeded_59 (fun rvu7 wu7 hu7 => ?_)
          obtain ⟨rfl, rfl⟩ := hu7
          refine jr_perm (ws' := (wL G h (uF F 4 nd) V)) (st := [.int (iI ((i * 12 + t : Nat) : Int)), .ref (h 4)]) [0, 1, 2, 3, 4, 5, 6] rfl rfl ?_
          refine jr_iald (F := (F 3)) (pc := 62) hh 4 rfl (i * 12 + t) (by omega) (by omega) (by decide) dX1_markNeeded_62 ?_
          refine jr_ldc (z := (-1000000000)) (v := -1000000000) (pc := 63) hh (by decide) (by decide +kernel : Cond.constant RX1 32 (-1000000000) ∈ wsX1_markNeeded) dX1_markNeeded_63 ?_
          refine jr_icmp_ne (tgt := 92) (pc := 65) hh dX1_markNeeded_65 (by decide) ⟨by omega, by omega⟩ ⟨by omega, by omega⟩ (fun c8 => ?_) (fun c8 => ?_)
          · skip
            refine jr_iinc (a := (i : Int)) (b := ((i : Int) + (-1))) (lv' := [(3, .int (iI ((i : Int) + (-1)))), (0, .ref (h 0)), (1, .int (iI (ln : Int))), (2, .int (iI (t : Int)))]) (pc := 92) hh 3 dX1_markNeeded_92 rfl (by omega) (by decide) rfl ?_
            refine jr_goto (tgt := 29) (pc := 95) hh dX1_markNeeded_95 (by decide) ?_
            have hnew : clM F t ln (i - 1) nd := clM_skip hcl (by omega) (by omega)
            refine jr_loc (lv' := [(0, .ref (h 0)), (1, .int (iI (ln : Int))), (2, .int (iI (t : Int))), (3, .int (iI ((i : Int) + (-1))))]) [1, 2, 3, 0] rfl ?_
            refine jr_lvset (a := ((i : Int) + (-1))) (b := (((i - 1) : Nat) : Int)) (lv' := [(0, .ref (h 0)), (1, .int (iI (ln : Int))), (2, .int (iI (t : Int))), (3, .int (iI (((i - 1) : Nat) : Int)))]) 3 rfl (by first | rfl | omega) rfl ?_
            exact ih3 ((i - 1), nd) ⟨by (try dsimp only); omega, hnew⟩ (by (try dsimp only); omega)
          · skip
            have hon := hLi.2.2 (by omega)
            refine jr_aload_n (pc := 68) hh 0 dX1_markNeeded_68 rfl rfl ?_
            refine jr_get (v := .ref (h 5)) (pc := 69) hh in_X1_markNeeded_X1 0 rfl rfl 4 (by decide) (by decide +kernel : Cond.fieldLink RX1 25 (TX1 4).1 (TX1 4).2.1 (TX1 4).2.2.1 ∈ wsX1_markNeeded) rfl dX1_markNeeded_69 ?_
            refine jr_aload_n (pc := 72) hh 0 dX1_markNeeded_72 rfl rfl ?_
            refine jr_get (v := .ref (h 2)) (pc := 73) hh in_X1_markNeeded_X1 0 rfl rfl 1 (by decide) (by decide +kernel : Cond.fieldLink RX1 15 (TX1 1).1 (TX1 1).2.1 (TX1 1).2.2.1 ∈ wsX1_markNeeded) rfl dX1_markNeeded_73 ?_
            refine jr_iload_n (pc := 76) hh 3 dX1_markNeeded_76 rfl rfl ?_
            refine jr_iald (F := (F 1)) (pc := 77) hh 2 rfl i (by omega) (by omega) (by decide) dX1_markNeeded_77 ?_
            refine jr_iconst (pc := 78) hh dX1_markNeeded_78 ?_
            refine jr_zast (F := nd) (ws' := (wL G h (uF F 4 (jU nd (((F 1) i).toNat) 1)) V)) (pc := 79) hh 5 rfl (((F 1) i).toNat) (by omega) (by omega) (by decide) (by omega) rfl dX1_markNeeded_79 ?_
            refine jr_aload_n (pc := 80) hh 0 dX1_markNeeded_80 rfl rfl ?_
            refine jr_get (v := .ref (h 5)) (pc := 81) hh in_X1_markNeeded_X1 0 rfl rfl 4 (by decide) (by decide +kernel : Cond.fieldLink RX1 25 (TX1 4).1 (TX1 4).2.1 (TX1 4).2.2.1 ∈ wsX1_markNeeded) rfl dX1_markNeeded_81 ?_
            refine jr_aload_n (pc := 84) hh 0 dX1_markNeeded_84 rfl rfl ?_
            refine jr_get (v := .ref (h 3)) (pc := 85) hh in_X1_markNeeded_X1 0 rfl rfl 2 (by decide) (by decide +kernel : Cond.fieldLink RX1 19 (TX1 2).1 (TX1 2).2.1 (TX1 2).2.2.1 ∈ wsX1_markNeeded) rfl dX1_markNeeded_85 ?_
            refine jr_iload_n (pc := 88) hh 3 dX1_markNeeded_88 rfl rfl ?_
            refine jr_iald (F := (F 2)) (pc := 89) hh 3 rfl i (by omega) (by omega) (by decide) dX1_markNeeded_89 ?_
            refine jr_iconst (pc := 90) hh dX1_markNeeded_90 ?_
            refine jr_zast (F := (jU nd (((F 1) i).toNat) 1)) (ws' := (wL G h (uF F 4 (jU (jU nd (((F 1) i).toNat) 1) (((F 2) i).toNat) 1)) V)) (pc := 91) hh 5 rfl (((F 2) i).toNat) (by omega) (by omega) (by decide) (by omega) rfl dX1_markNeeded_91 ?_
            refine jr_iinc (a := (i : Int)) (b := ((i : Int) + (-1))) (lv' := [(3, .int (iI ((i : Int) + (-1)))), (0, .ref (h 0)), (1, .int (iI (ln : Int))), (2, .int (iI (t : Int)))]) (pc := 92) hh 3 dX1_markNeeded_92 rfl (by omega) (by decide) rfl ?_
            refine jr_goto (tgt := 29) (pc := 95) hh dX1_markNeeded_95 (by decide) ?_
            have hnew : clM F t ln (i - 1) (jU (jU nd (((F 1) i).toNat) 1) (((F 2) i).toNat) 1) := clM_set hcl (by omega) (by omega) (by omega) (by omega)
            refine jr_loc (lv' := [(0, .ref (h 0)), (1, .int (iI (ln : Int))), (2, .int (iI (t : Int))), (3, .int (iI ((i : Int) + (-1))))]) [1, 2, 3, 0] rfl ?_
            refine jr_lvset (a := ((i : Int) + (-1))) (b := (((i - 1) : Nat) : Int)) (lv' := [(0, .ref (h 0)), (1, .int (iI (ln : Int))), (2, .int (iI (t : Int))), (3, .int (iI (((i - 1) : Nat) : Int)))]) 3 rfl (by first | rfl | omega) rfl ?_
            exact ih3 ((i - 1), (jU (jU nd (((F 1) i).toNat) 1) (((F 2) i).toNat) 1)) ⟨by (try dsimp only); omega, hnew⟩ (by (try dsimp only); omega)
  · skip
    refine jr_aload_n (pc := 7) hh 0 dX1_markNeeded_7 rfl rfl ?_
    refine jr_get (v := .ref (h 5)) (pc := 8) hh in_X1_markNeeded_X1 0 rfl rfl 4 (by decide) (by decide +kernel : Cond.fieldLink RX1 25 (TX1 4).1 (TX1 4).2.1 (TX1 4).2.2.1 ∈ wsX1_markNeeded) rfl dX1_markNeeded_8 ?_
    refine jr_iload_n (pc := 11) hh 3 dX1_markNeeded_11 rfl rfl ?_
    refine jr_iconst (pc := 12) hh dX1_markNeeded_12 ?_
    refine jr_zast (F := nd) (ws' := (wL G h (uF F 4 (jU nd i 0)) V)) (pc := 13) hh 5 rfl i (by omega) (by omega) (by decide) (by omega) rfl dX1_markNeeded_13 ?_
    refine jr_iinc (a := (i : Int)) (b := (((i + 1) : Nat) : Int)) (lv' := [(3, .int (iI (((i + 1) : Nat) : Int))), (0, .ref (h 0)), (1, .int (iI (ln : Int))), (2, .int (iI (t : Int)))]) (pc := 14) hh 3 dX1_markNeeded_14 rfl (by omega) (by decide) rfl ?_
    refine jr_goto (tgt := 2) (pc := 17) hh dX1_markNeeded_17 (by decide) ?_
    have hnew : ∀ j : Nat, j < i + 1 → (jU nd i 0) j = 0 := by
      intro j hj
      by_cases hq : j = i
      · subst hq; rw [jU_s]
      · rw [jU_n hq]; exact hz j (by omega)
    refine jr_loc (lv' := [(0, .ref (h 0)), (1, .int (iI (ln : Int))), (2, .int (iI (t : Int))), (3, .int (iI (((i + 1) : Nat) : Int)))]) [1, 2, 3, 0] rfl ?_
    exact ih1 ((i + 1), (jU nd i 0)) ⟨by (try dsimp only); omega, hnew⟩ (by (try dsimp only); omega)
