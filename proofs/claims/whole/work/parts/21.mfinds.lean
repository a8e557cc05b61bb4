/-! the reference: valueIn, byKind, finds, looks -/
def bkM (F : Nat → Nat → Int) (V : Nat → Int) (fd : Nat → Int) (s t b i : Nat) : Int := if F 1 i = 100 then valM F V s (F 2 i).toNat t b else opC (F 1 i) (fd (F 2 i).toNat) (fd (F 3 i).toNat)
theorem opC_B {kd a b : Int} (ha : -99999999 ≤ a ∧ a ≤ 99999999) (hb : -99999999 ≤ b ∧ b ≤ 99999999) : -100000000000000000 ≤ opC kd a b ∧ opC kd a b ≤ 100000000000000000 := by
  have hm := mul_b (a := a) (b := b) (by omega) (by omega)
  have ht := tdiv_b (x := a * b) (M := 10000000000000000) (by omega)
  unfold opC
  split
  · omega
  · split <;> omega
theorem enc_or {x : Option Int} (h : inB x) : enc x = -1000000000 ∨ (-99999999 ≤ enc x ∧ enc x ≤ 99999999) := by
  cases x with
  | none => exact Or.inl rfl
  | some v => exact Or.inr (h v rfl)
theorem nmM_A {F : Nat → Nat → Int} {V : Nat → Int} (h : okM F V) {s t b i : Nat} (hi : (i : Int) < V 2) (ha : F 12 (i * 12 + t) = 1) : enc (nmM F V s t b i) = F 9 (i * 12 + t) := by
  have hL := h.2.2.2.2.2.2.1 i hi
  unfold nmM
  rw [lnum_eq hL.2.2]
  unfold lcalc actM
  rw [if_pos ha]; rfl
theorem nmM_D {F : Nat → Nat → Int} {V : Nat → Int} (h : okM F V) {s t b i : Nat} (hi : (i : Int) < V 2) (ha : F 12 (i * 12 + t) = 0) (hd : F 1 i = 100) : enc (nmM F V s t b i) = valM F V s (F 2 i).toNat t b := by
  have hL := h.2.2.2.2.2.2.1 i hi
  unfold nmM
  rw [lnum_eq hL.2.2]
  unfold lcalc actM
  rw [if_neg (by omega)]
  dsimp only
  rw [if_pos hd]; rfl
theorem nmM_C {F : Nat → Nat → Int} {V : Nat → Int} (h : okM F V) {s t b i : Nat} (hi : (i : Int) < V 2) (ht : t < 12) (ha : F 12 (i * 12 + t) = 0) (hd : F 1 i ≠ 100) : enc (nmM F V s t b i) = cmbI (F 1 i) (enc (nmM F V s t b (F 2 i).toNat)) (enc (nmM F V s t b (F 3 i).toNat)) := by
  have hL := h.2.2.2.2.2.2.1 i hi
  have h2 := hL.2.2 hd
  rw [cmbI_enc (nmM_B h (by omega) ht) (nmM_B h (by omega) ht)]
  have e : nmM F V s t b i = cmbO (F 1 i) (nmM F V s t b (F 2 i).toNat) (nmM F V s t b (F 3 i).toNat) := by
    show lnum (actM F t) (F 1) (F 2) (F 3) (fun d => valM F V s d t b) i = _
    rw [lnum_eq hL.2.2]
    unfold lcalc
    have e2 : actM F t i = none := by unfold actM; rw [if_neg (by omega)]
    rw [e2]
    dsimp only
    rw [if_neg hd]; rfl
  rw [e]
set_option maxRecDepth 20000 in
theorem in_X4_valueIn_X4 : ∀ w ∈ u_ws RX4 TX4 22, w ∈ wsX4_valueIn := by decide +kernel
set_option maxHeartbeats 4000000 in
set_option maxRecDepth 100000 in
theorem c_X4_valueIn (l : Launch) (G : jG) (h : Nat → Nat) (F : Nat → Nat → Int) (V : Nat → Int) (fd : Nat → Int) (s0 d t b : Nat) (hk : okM F V) (hs : (s0 : Int) < V 3) (hd : d < 6) (ht : t < 12) (hb : b ≤ 6) : jMet l yX4_valueIn wsX4_valueIn { frames := 2, cells := 0, slots := 0, locals := 60 } G (wM G h F V fd) [.ref (h 0), .int (iI (s0 : Int)), .int (iI (d : Int)), .int (iI (t : Int)), .int (iI (b : Int))] (fun rv w1 => rv = some (.int (iI (valM F V s0 d t b))) ∧ w1 = wM G h F V fd) := by
  refine jMet_of (cc := cX4_valueIn) (maxL := 7) (ret := (some .int)) (by decide +kernel) rfl (Nat.le_of_ble_eq_true rfl) ?_
  intro p e s m args below meth c A hh hret hinit
  refine jr_loc (lv' := [(0, .ref (h 0)), (1, .int (iI (s0 : Int))), (2, .int (iI (d : Int))), (3, .int (iI (t : Int))), (4, .int (iI (b : Int)))]) [0, 1, 2, 3, 4] rfl ?_
  have hV3 := hk.2.2.1
  have hV4 := hk.2.2.2.1
  have hV1 := hk.1
  refine jr_aload_n (pc := 0) hh 0 dX4_valueIn_0 rfl rfl ?_
  refine jr_get (v := .ref (h 1)) (pc := 1) hh in_X4_valueIn_X4 0 rfl rfl 0 (by decide) (by decide +kernel : Cond.fieldLink RX4 7 (TX4 0).1 (TX4 0).2.1 (TX4 0).2.2.1 ∈ wsX4_valueIn) rfl dX4_valueIn_1 ?_
  refine jr_iload_n (pc := 4) hh 2 dX4_valueIn_4 rfl rfl ?_
  refine jr_iald (F := (F 0)) (pc := 5) hh 1 rfl d (by omega) (by omega) (by decide) dX4_valueIn_5 ?_
  refine jr_istore (lv' := [(5, .int (iI ((F 0) d))), (0, .ref (h 0)), (1, .int (iI (s0 : Int))), (2, .int (iI (d : Int))), (3, .int (iI (t : Int))), (4, .int (iI (b : Int)))]) (pc := 6) hh dX4_valueIn_6 (by decide) rfl ?_
  refine jr_iconst (pc := 8) hh dX4_valueIn_8 ?_
  refine jr_istore (lv' := [(6, .int (iI 0)), (5, .int (iI ((F 0) d))), (0, .ref (h 0)), (1, .int (iI (s0 : Int))), (2, .int (iI (d : Int))), (3, .int (iI (t : Int))), (4, .int (iI (b : Int)))]) (pc := 9) hh dX4_valueIn_9 (by decide) rfl ?_
  refine jr_loc (lv' := [(0, .ref (h 0)), (1, .int (iI (s0 : Int))), (2, .int (iI (d : Int))), (3, .int (iI (t : Int))), (4, .int (iI (b : Int))), (5, .int (iI ((F 0) d))), (6, .int (iI 0))]) [2, 3, 4, 5, 6, 1, 0] rfl ?_
  refine jr_lvset (a := ((F 0) d)) (b := (F 0 d + sumTo (difM F s0 d t b) 0)) (lv' := [(0, .ref (h 0)), (1, .int (iI (s0 : Int))), (2, .int (iI (d : Int))), (3, .int (iI (t : Int))), (4, .int (iI (b : Int))), (5, .int (iI (F 0 d + sumTo (difM F s0 d t b) 0))), (6, .int (iI 0))]) 5 rfl (by first | (rw [sumTo_0, Int.add_zero]) | (rw [sumTo_s]; omega)) rfl ?_
  refine jr_lvset (a := 0) (b := (0 : Int)) (lv' := [(0, .ref (h 0)), (1, .int (iI (s0 : Int))), (2, .int (iI (d : Int))), (3, .int (iI (t : Int))), (4, .int (iI (b : Int))), (5, .int (iI (F 0 d + sumTo (difM F s0 d t b) 0))), (6, .int (iI (0 : Int)))]) 6 rfl (by first | rfl | omega) rfl ?_
  refine jr_loop (σ := Nat) (fun (k : Nat) => ((k : Int) ≤ V 4)) (fun (k : Nat) => (V 4).toNat - k) (fun (k : Nat) => (wM G h F V fd)) (fun (k : Nat) => [(0, .ref (h 0)), (1, .int (iI (s0 : Int))), (2, .int (iI (d : Int))), (3, .int (iI (t : Int))), (4, .int (iI (b : Int))), (5, .int (iI (F 0 d + sumTo (difM F s0 d t b) k))), (6, .int (iI (k : Int)))]) (fun (k : Nat) => []) ?_ (0) (by (try dsimp only); omega)
  rintro k hkk ih1
  dsimp only at ih1 ⊢
  try dsimp only at hkk
  have hvb := valM_B hk (s := s0) (t := t) (b := b) hd hkk
  refine jr_iload (pc := 11) hh 6 dX4_valueIn_11 rfl ?_
  refine jr_aload_n (pc := 13) hh 0 dX4_valueIn_13 rfl rfl ?_
  refine jr_get (v := .int (iI (V 4))) (pc := 14) hh in_X4_valueIn_X4 0 rfl rfl 20 (by decide) (by decide +kernel : Cond.fieldLink RX4 74 (TX4 20).1 (TX4 20).2.1 (TX4 20).2.2.1 ∈ wsX4_valueIn) rfl dX4_valueIn_14 ?_
  refine jr_icmp_ge (tgt := 81) (pc := 17) hh dX4_valueIn_17 (by decide) ⟨by omega, by omega⟩ ⟨by omega, by omega⟩ (fun c2 => ?_) (fun c2 => ?_)
  · skip
    refine jr_iload (pc := 81) hh 5 dX4_valueIn_81 rfl ?_
    exact jr_iret (pc := 83) hh hret rfl ⟨jsi (by unfold valM; rw [show k = (V 4).toNat by omega]), rfl⟩ (by decide) (by decide) dX4_valueIn_83
  · skip
    have hdf := hk.2.2.2.2.2.2.2.2.1 k (by omega)
    have hdk : difM F s0 d t b k = if F 6 k = d ∧ d < b ∧ F 7 k ≤ t ∧ und (F 4) (s0 + 1) s0 (F 5 k) = 1 then F 8 k else 0 := rfl
    have hu01 := und_01 (F 4) (s0 + 1) s0 (F 5 k)
    refine jr_aload_n (pc := 20) hh 0 dX4_valueIn_20 rfl rfl ?_
    refine jr_get (v := .ref (h 7)) (pc := 21) hh in_X4_valueIn_X4 0 rfl rfl 6 (by decide) (by decide +kernel : Cond.fieldLink RX4 28 (TX4 6).1 (TX4 6).2.1 (TX4 6).2.2.1 ∈ wsX4_valueIn) rfl dX4_valueIn_21 ?_
    refine jr_iload (pc := 24) hh 6 dX4_valueIn_24 rfl ?_
    refine jr_iald (F := (F 6)) (pc := 26) hh 7 rfl k (by omega) (by omega) (by decide) dX4_valueIn_26 ?_
    refine jr_iload_n (pc := 27) hh 2 dX4_valueIn_27 rfl rfl ?_
    refine jr_icmp_ne (tgt := 75) (pc := 28) hh dX4_valueIn_28 (by decide) ⟨by omega, by omega⟩ ⟨by omega, by omega⟩ (fun c3 => ?_) (fun c3 => ?_)
    · skip
      refine jr_iinc (a := (k : Int)) (b := (((k + 1) : Nat) : Int)) (lv' := [(6, .int (iI (((k + 1) : Nat) : Int))), (0, .ref (h 0)), (1, .int (iI (s0 : Int))), (2, .int (iI (d : Int))), (3, .int (iI (t : Int))), (4, .int (iI (b : Int))), (5, .int (iI (F 0 d + sumTo (difM F s0 d t b) k)))]) (pc := 75) hh 6 dX4_valueIn_75 rfl (by omega) (by decide) rfl ?_
      refine jr_goto (tgt := 11) (pc := 78) hh dX4_valueIn_78 (by decide) ?_
      refine jr_loc (lv' := [(0, .ref (h 0)), (1, .int (iI (s0 : Int))), (2, .int (iI (d : Int))), (3, .int (iI (t : Int))), (4, .int (iI (b : Int))), (5, .int (iI (F 0 d + sumTo (difM F s0 d t b) k))), (6, .int (iI (((k + 1) : Nat) : Int)))]) [1, 2, 3, 4, 5, 6, 0] rfl ?_
      refine jr_lvset (a := (F 0 d + sumTo (difM F s0 d t b) k)) (b := (F 0 d + sumTo (difM F s0 d t b) (k + 1))) (lv' := [(0, .ref (h 0)), (1, .int (iI (s0 : Int))), (2, .int (iI (d : Int))), (3, .int (iI (t : Int))), (4, .int (iI (b : Int))), (5, .int (iI (F 0 d + sumTo (difM F s0 d t b) (k + 1)))), (6, .int (iI (((k + 1) : Nat) : Int)))]) 5 rfl (by first | (rw [sumTo_0, Int.add_zero]) | (rw [sumTo_s]; omega)) rfl ?_
      exact ih1 ((k + 1)) (by (try dsimp only); omega) (by (try dsimp only); omega)
    · skip
      refine jr_iload_n (pc := 31) hh 2 dX4_valueIn_31 rfl rfl ?_
      refine jr_iload (pc := 32) hh 4 dX4_valueIn_32 rfl ?_
      refine jr_icmp_ge (tgt := 75) (pc := 34) hh dX4_valueIn_34 (by decide) ⟨by omega, by omega⟩ ⟨by omega, by omega⟩ (fun c4 => ?_) (fun c4 => ?_)
      · skip
        refine jr_iinc (a := (k : Int)) (b := (((k + 1) : Nat) : Int)) (lv' := [(6, .int (iI (((k + 1) : Nat) : Int))), (0, .ref (h 0)), (1, .int (iI (s0 : Int))), (2, .int (iI (d : Int))), (3, .int (iI (t : Int))), (4, .int (iI (b : Int))), (5, .int (iI (F 0 d + sumTo (difM F s0 d t b) k)))]) (pc := 75) hh 6 dX4_valueIn_75 rfl (by omega) (by decide) rfl ?_
        refine jr_goto (tgt := 11) (pc := 78) hh dX4_valueIn_78 (by decide) ?_
        refine jr_loc (lv' := [(0, .ref (h 0)), (1, .int (iI (s0 : Int))), (2, .int (iI (d : Int))), (3, .int (iI (t : Int))), (4, .int (iI (b : Int))), (5, .int (iI (F 0 d + sumTo (difM F s0 d t b) k))), (6, .int (iI (((k + 1) : Nat) : Int)))]) [1, 2, 3, 4, 5, 6, 0] rfl ?_
        refine jr_lvset (a := (F 0 d + sumTo (difM F s0 d t b) k)) (b := (F 0 d + sumTo (difM F s0 d t b) (k + 1))) (lv' := [(0, .ref (h 0)), (1, .int (iI (s0 : Int))), (2, .int (iI (d : Int))), (3, .int (iI (t : Int))), (4, .int (iI (b : Int))), (5, .int (iI (F 0 d + sumTo (difM F s0 d t b) (k + 1)))), (6, .int (iI (((k + 1) : Nat) : Int)))]) 5 rfl (by first | (rw [sumTo_0, Int.add_zero]) | (rw [sumTo_s]; omega)) rfl ?_
        exact ih1 ((k + 1)) (by (try dsimp only); omega) (by (try dsimp only); omega)
      · skip
        refine jr_aload_n (pc := 37) hh 0 dX4_valueIn_37 rfl rfl ?_
        refine jr_get (v := .ref (h 8)) (pc := 38) hh in_X4_valueIn_X4 0 rfl rfl 7 (by decide) (by decide +kernel : Cond.fieldLink RX4 31 (TX4 7).1 (TX4 7).2.1 (TX4 7).2.2.1 ∈ wsX4_valueIn) rfl dX4_valueIn_38 ?_
        refine jr_iload (pc := 41) hh 6 dX4_valueIn_41 rfl ?_
        refine jr_iald (F := (F 7)) (pc := 43) hh 8 rfl k (by omega) (by omega) (by decide) dX4_valueIn_43 ?_
        refine jr_iload_n (pc := 44) hh 3 dX4_valueIn_44 rfl rfl ?_
        refine jr_icmp_gt (tgt := 75) (pc := 45) hh dX4_valueIn_45 (by decide) ⟨by omega, by omega⟩ ⟨by omega, by omega⟩ (fun c5 => ?_) (fun c5 => ?_)
        · skip
          refine jr_iinc (a := (k : Int)) (b := (((k + 1) : Nat) : Int)) (lv' := [(6, .int (iI (((k + 1) : Nat) : Int))), (0, .ref (h 0)), (1, .int (iI (s0 : Int))), (2, .int (iI (d : Int))), (3, .int (iI (t : Int))), (4, .int (iI (b : Int))), (5, .int (iI (F 0 d + sumTo (difM F s0 d t b) k)))]) (pc := 75) hh 6 dX4_valueIn_75 rfl (by omega) (by decide) rfl ?_
          refine jr_goto (tgt := 11) (pc := 78) hh dX4_valueIn_78 (by decide) ?_
          refine jr_loc (lv' := [(0, .ref (h 0)), (1, .int (iI (s0 : Int))), (2, .int (iI (d : Int))), (3, .int (iI (t : Int))), (4, .int (iI (b : Int))), (5, .int (iI (F 0 d + sumTo (difM F s0 d t b) k))), (6, .int (iI (((k + 1) : Nat) : Int)))]) [1, 2, 3, 4, 5, 6, 0] rfl ?_
          refine jr_lvset (a := (F 0 d + sumTo (difM F s0 d t b) k)) (b := (F 0 d + sumTo (difM F s0 d t b) (k + 1))) (lv' := [(0, .ref (h 0)), (1, .int (iI (s0 : Int))), (2, .int (iI (d : Int))), (3, .int (iI (t : Int))), (4, .int (iI (b : Int))), (5, .int (iI (F 0 d + sumTo (difM F s0 d t b) (k + 1)))), (6, .int (iI (((k + 1) : Nat) : Int)))]) 5 rfl (by first | (rw [sumTo_0, Int.add_zero]) | (rw [sumTo_s]; omega)) rfl ?_
          exact ih1 ((k + 1)) (by (try dsimp only); omega) (by (try dsimp only); omega)
        · skip
          refine jr_aload_n (pc := 48) hh 0 dX4_valueIn_48 rfl rfl ?_
          refine jr_iload_n (pc := 49) hh 1 dX4_valueIn_49 rfl rfl ?_
          refine jr_aload_n (pc := 50) hh 0 dX4_valueIn_50 rfl rfl ?_
          refine jr_get (v := .ref (h 6)) (pc := 51) hh in_X4_valueIn_X4 0 rfl rfl 5 (by decide) (by decide +kernel : Cond.fieldLink RX4 25 (TX4 5).1 (TX4 5).2.1 (TX4 5).2.2.1 ∈ wsX4_valueIn) rfl dX4_valueIn_51 ?_
          refine jr_iload (pc := 54) hh 6 dX4_valueIn_54 rfl ?_
          refine jr_iald (F := (F 5)) (pc := 56) hh 6 rfl k (by omega) (by omega) (by decide) dX4_valueIn_56 ?_
          refine jr_callV (pc := 57) hh [.int (iI (s0 : Int)), .int (iI ((F 5) k))] [] (c_X4_isUnder l G h F V fd s0 (F 5 k) hs (by omega) hk.2.2.1.2 hk.2.2.2.2.2.2.2.1) gX4_valueIn_X4_isUnder rfl (by decide) (by decide) [0, 1, 2, 3, 4, 5, 6, 7, 8, 9, 10, 11, 12, 13, 14, 15, 16] [] rfl rfl rfl rfl (by decide) 0 rfl rfl 2 rfl rfl (Nat.le_of_ble_eq_true rfl) (by decide +kernel) dX4_valueIn_57 (fun rvu6 wu6 hu6 => ?_)
          obtain ⟨rfl, rfl⟩ := hu6
          refine jr_perm (ws' := (wM G h F V fd)) (st := [.int (iI (und (F 4) (s0 + 1) s0 (F 5 k)))]) [0, 1, 2, 3, 4, 5, 6, 7, 8, 9, 10, 11, 12, 13, 14, 15, 16] rfl rfl ?_
          refine jr_if_eq (tgt := 75) (pc := 60) hh dX4_valueIn_60 (by decide) ⟨by omega, by omega⟩ (fun c7 => ?_) (fun c7 => ?_)
          · skip
            refine jr_iinc (a := (k : Int)) (b := (((k + 1) : Nat) : Int)) (lv' := [(6, .int (iI (((k + 1) : Nat) : Int))), (0, .ref (h 0)), (1, .int (iI (s0 : Int))), (2, .int (iI (d : Int))), (3, .int (iI (t : Int))), (4, .int (iI (b : Int))), (5, .int (iI (F 0 d + sumTo (difM F s0 d t b) k)))]) (pc := 75) hh 6 dX4_valueIn_75 rfl (by omega) (by decide) rfl ?_
            refine jr_goto (tgt := 11) (pc := 78) hh dX4_valueIn_78 (by decide) ?_
            refine jr_loc (lv' := [(0, .ref (h 0)), (1, .int (iI (s0 : Int))), (2, .int (iI (d : Int))), (3, .int (iI (t : Int))), (4, .int (iI (b : Int))), (5, .int (iI (F 0 d + sumTo (difM F s0 d t b) k))), (6, .int (iI (((k + 1) : Nat) : Int)))]) [1, 2, 3, 4, 5, 6, 0] rfl ?_
            refine jr_lvset (a := (F 0 d + sumTo (difM F s0 d t b) k)) (b := (F 0 d + sumTo (difM F s0 d t b) (k + 1))) (lv' := [(0, .ref (h 0)), (1, .int (iI (s0 : Int))), (2, .int (iI (d : Int))), (3, .int (iI (t : Int))), (4, .int (iI (b : Int))), (5, .int (iI (F 0 d + sumTo (difM F s0 d t b) (k + 1)))), (6, .int (iI (((k + 1) : Nat) : Int)))]) 5 rfl (by first | (rw [sumTo_0, Int.add_zero]) | (rw [sumTo_s]; omega)) rfl ?_
            exact ih1 ((k + 1)) (by (try dsimp only); omega) (by (try dsimp only); omega)
          · skip
            refine jr_iload (pc := 63) hh 5 dX4_valueIn_63 rfl ?_
            refine jr_aload_n (pc := 65) hh 0 dX4_valueIn_65 rfl rfl ?_
            refine jr_get (v := .ref (h 9)) (pc := 66) hh in_X4_valueIn_X4 0 rfl rfl 8 (by decide) (by decide +kernel : Cond.fieldLink RX4 34 (TX4 8).1 (TX4 8).2.1 (TX4 8).2.2.1 ∈ wsX4_valueIn) rfl dX4_valueIn_66 ?_
            refine jr_iload (pc := 69) hh 6 dX4_valueIn_69 rfl ?_
            refine jr_iald (F := (F 8)) (pc := 71) hh 9 rfl k (by omega) (by omega) (by decide) dX4_valueIn_71 ?_
            refine jr_iadd (pc := 72) hh dX4_valueIn_72 ?_
            refine jr_istore (lv' := [(5, .int (iI ((F 0 d + sumTo (difM F s0 d t b) k) + ((F 8) k)))), (0, .ref (h 0)), (1, .int (iI (s0 : Int))), (2, .int (iI (d : Int))), (3, .int (iI (t : Int))), (4, .int (iI (b : Int))), (6, .int (iI (k : Int)))]) (pc := 73) hh dX4_valueIn_73 (by decide) rfl ?_
            refine jr_iinc (a := (k : Int)) (b := (((k + 1) : Nat) : Int)) (lv' := [(6, .int (iI (((k + 1) : Nat) : Int))), (5, .int (iI ((F 0 d + sumTo (difM F s0 d t b) k) + ((F 8) k)))), (0, .ref (h 0)), (1, .int (iI (s0 : Int))), (2, .int (iI (d : Int))), (3, .int (iI (t : Int))), (4, .int (iI (b : Int)))]) (pc := 75) hh 6 dX4_valueIn_75 rfl (by omega) (by decide) rfl ?_
            refine jr_goto (tgt := 11) (pc := 78) hh dX4_valueIn_78 (by decide) ?_
            refine jr_loc (lv' := [(0, .ref (h 0)), (1, .int (iI (s0 : Int))), (2, .int (iI (d : Int))), (3, .int (iI (t : Int))), (4, .int (iI (b : Int))), (5, .int (iI ((F 0 d + sumTo (difM F s0 d t b) k) + ((F 8) k)))), (6, .int (iI (((k + 1) : Nat) : Int)))]) [2, 3, 4, 5, 6, 1, 0] rfl ?_
            refine jr_lvset (a := ((F 0 d + sumTo (difM F s0 d t b) k) + ((F 8) k))) (b := (F 0 d + sumTo (difM F s0 d t b) (k + 1))) (lv' := [(0, .ref (h 0)), (1, .int (iI (s0 : Int))), (2, .int (iI (d : Int))), (3, .int (iI (t : Int))), (4, .int (iI (b : Int))), (5, .int (iI (F 0 d + sumTo (difM F s0 d t b) (k + 1)))), (6, .int (iI (((k + 1) : Nat) : Int)))]) 5 rfl (by first | (rw [sumTo_0, Int.add_zero]) | (rw [sumTo_s]; omega)) rfl ?_
            exact ih1 ((k + 1)) (by (try dsimp only); omega) (by (try dsimp only); omega)
set_option maxRecDepth 20000 in
theorem in_X4_byKind_X4 : ∀ w ∈ u_ws RX4 TX4 22, w ∈ wsX4_byKind := by decide +kernel
set_option maxHeartbeats 4000000 in
set_option maxRecDepth 100000 in
theorem c_X4_byKind (l : Launch) (G : jG) (h : Nat → Nat) (F : Nat → Nat → Int) (V : Nat → Int) (fd : Nat → Int) (i s0 t b : Nat) (hk : okM F V) (hs : (s0 : Int) < V 3) (hi : (i : Int) < V 2) (ht : t < 12) (hb : b ≤ 6) (hfd : F 1 i ≠ 100 → (-99999999 ≤ fd (F 2 i).toNat ∧ fd (F 2 i).toNat ≤ 99999999) ∧ (-99999999 ≤ fd (F 3 i).toNat ∧ fd (F 3 i).toNat ≤ 99999999)) : jMet l yX4_byKind wsX4_byKind { frames := 3, cells := 0, slots := 0, locals := 120 } G (wM G h F V fd) [.ref (h 0), .int (iI (i : Int)), .int (iI (s0 : Int)), .int (iI (t : Int)), .int (iI (b : Int))] (fun rv w1 => rv = some (.long (lI (bkM F V fd s0 t b i))) ∧ w1 = wM G h F V fd) := by
  refine jMet_of (cc := cX4_byKind) (maxL := 9) (ret := (some .long)) (by decide +kernel) rfl (Nat.le_of_ble_eq_true rfl) ?_
  intro p e s m args below meth c A hh hret hinit
  refine jr_loc (lv' := [(0, .ref (h 0)), (1, .int (iI (i : Int))), (2, .int (iI (s0 : Int))), (3, .int (iI (t : Int))), (4, .int (iI (b : Int)))]) [0, 1, 2, 3, 4] rfl ?_
  have hLi := hk.2.2.2.2.2.2.1 i hi
  have hV1 := hk.1
  have hV2 := hk.2.1
  refine jr_aload_n (pc := 0) hh 0 dX4_byKind_0 rfl rfl ?_
  refine jr_get (v := .ref (h 2)) (pc := 1) hh in_X4_byKind_X4 0 rfl rfl 1 (by decide) (by decide +kernel : Cond.fieldLink RX4 13 (TX4 1).1 (TX4 1).2.1 (TX4 1).2.2.1 ∈ wsX4_byKind) rfl dX4_byKind_1 ?_
  refine jr_iload_n (pc := 4) hh 1 dX4_byKind_4 rfl rfl ?_
  refine jr_iald (F := (F 1)) (pc := 5) hh 2 rfl i (by omega) (by omega) (by decide) dX4_byKind_5 ?_
  refine jr_bipush (pc := 6) hh dX4_byKind_6 (by decide) ?_
  refine jr_icmp_ne (tgt := 27) (pc := 8) hh dX4_byKind_8 (by decide) ⟨by omega, by omega⟩ ⟨by omega, by omega⟩ (fun c1 => ?_) (fun c1 => ?_)
  · skip
    have hone := hLi.2.2 (by omega)
    have hff := hfd (by omega)
    have hmb := mul_b (a := fd (F 2 i).toNat) (b := fd (F 3 i).toNat) (by omega) (by omega)
    refine jr_aload_n (pc := 27) hh 0 dX4_byKind_27 rfl rfl ?_
    refine jr_get (v := .ref (h 16)) (pc := 28) hh in_X4_byKind_X4 0 rfl rfl 15 (by decide) (by decide +kernel : Cond.fieldLink RX4 57 (TX4 15).1 (TX4 15).2.1 (TX4 15).2.2.1 ∈ wsX4_byKind) rfl dX4_byKind_28 ?_
    refine jr_aload_n (pc := 31) hh 0 dX4_byKind_31 rfl rfl ?_
    refine jr_get (v := .ref (h 3)) (pc := 32) hh in_X4_byKind_X4 0 rfl rfl 2 (by decide) (by decide +kernel : Cond.fieldLink RX4 16 (TX4 2).1 (TX4 2).2.1 (TX4 2).2.2.1 ∈ wsX4_byKind) rfl dX4_byKind_32 ?_
    refine jr_iload_n (pc := 35) hh 1 dX4_byKind_35 rfl rfl ?_
    refine jr_iald (F := (F 2)) (pc := 36) hh 3 rfl i (by omega) (by omega) (by decide) dX4_byKind_36 ?_
    refine jr_lald (F := fd) (pc := 37) hh 16 rfl (((F 2) i).toNat) (by omega) (by omega) (by decide) dX4_byKind_37 ?_
    refine jr_lstore (lv' := [(5, .long (lI (fd (((F 2) i).toNat)))), (0, .ref (h 0)), (1, .int (iI (i : Int))), (2, .int (iI (s0 : Int))), (3, .int (iI (t : Int))), (4, .int (iI (b : Int)))]) (pc := 38) hh dX4_byKind_38 (by decide) rfl ?_
    refine jr_aload_n (pc := 40) hh 1 dX4_byKind_40 rfl rfl ?_
    refine jr_get (v := .ref (h 16)) (pc := 41) hh in_X4_byKind_X4 0 rfl rfl 15 (by decide) (by decide +kernel : Cond.fieldLink RX4 57 (TX4 15).1 (TX4 15).2.1 (TX4 15).2.2.1 ∈ wsX4_byKind) rfl dX4_byKind_41 ?_
    refine jr_aload_n (pc := 44) hh 1 dX4_byKind_44 rfl rfl ?_
    refine jr_get (v := .ref (h 4)) (pc := 45) hh in_X4_byKind_X4 0 rfl rfl 3 (by decide) (by decide +kernel : Cond.fieldLink RX4 19 (TX4 3).1 (TX4 3).2.1 (TX4 3).2.2.1 ∈ wsX4_byKind) rfl dX4_byKind_45 ?_
    refine jr_iload_n (pc := 48) hh 2 dX4_byKind_48 rfl rfl ?_
    refine jr_iald (F := (F 3)) (pc := 49) hh 4 rfl i (by omega) (by omega) (by decide) dX4_byKind_49 ?_
    refine jr_lald (F := fd) (pc := 50) hh 16 rfl (((F 3) i).toNat) (by omega) (by omega) (by decide) dX4_byKind_50 ?_
    refine jr_lstore (lv' := [(7, .long (lI (fd (((F 3) i).toNat)))), (5, .long (lI (fd (((F 2) i).toNat)))), (0, .ref (h 0)), (1, .int (iI (i : Int))), (2, .int (iI (s0 : Int))), (3, .int (iI (t : Int))), (4, .int (iI (b : Int)))]) (pc := 51) hh dX4_byKind_51 (by decide) rfl ?_
    refine jr_aload_n (pc := 53) hh 2 dX4_byKind_53 rfl rfl ?_
    refine jr_get (v := .ref (h 2)) (pc := 54) hh in_X4_byKind_X4 0 rfl rfl 1 (by decide) (by decide +kernel : Cond.fieldLink RX4 13 (TX4 1).1 (TX4 1).2.1 (TX4 1).2.2.1 ∈ wsX4_byKind) rfl dX4_byKind_54 ?_
    refine jr_iload_n (pc := 57) hh 3 dX4_byKind_57 rfl rfl ?_
    refine jr_iald (F := (F 1)) (pc := 58) hh 2 rfl i (by omega) (by omega) (by decide) dX4_byKind_58 ?_
    refine jr_bipush (pc := 59) hh dX4_byKind_59 (by decide) ?_
    refine jr_icmp_ne (tgt := 70) (pc := 61) hh dX4_byKind_61 (by decide) ⟨by omega, by omega⟩ ⟨by omega, by omega⟩ (fun c2 => ?_) (fun c2 => ?_)
    · skip
      refine jr_aload_n (pc := 70) hh 2 dX4_byKind_70 rfl rfl ?_
      refine jr_get (v := .ref (h 2)) (pc := 71) hh in_X4_byKind_X4 0 rfl rfl 1 (by decide) (by decide +kernel : Cond.fieldLink RX4 13 (TX4 1).1 (TX4 1).2.1 (TX4 1).2.2.1 ∈ wsX4_byKind) rfl dX4_byKind_71 ?_
      refine jr_iload_n (pc := 74) hh 3 dX4_byKind_74 rfl rfl ?_
      refine jr_iald (F := (F 1)) (pc := 75) hh 2 rfl i (by omega) (by omega) (by decide) dX4_byKind_75 ?_
      refine jr_bipush (pc := 76) hh dX4_byKind_76 (by decide) ?_
      refine jr_icmp_ne (tgt := 89) (pc := 78) hh dX4_byKind_78 (by decide) ⟨by omega, by omega⟩ ⟨by omega, by omega⟩ (fun c3 => ?_) (fun c3 => ?_)
      · skip
        refine jr_lload (pc := 89) hh 1 dX4_byKind_89 rfl ?_
        refine jr_lload (pc := 91) hh 0 dX4_byKind_91 rfl ?_
        refine jr_lmul (pc := 93) hh dX4_byKind_93 ?_
        refine jr_ldc2 (z := 100) (v := 100) (pc := 94) hh (by decide) (by decide +kernel : Cond.constantLong RX4 92 (100) ∈ wsX4_byKind) dX4_byKind_94 ?_
        refine jr_ldiv (pc := 97) hh dX4_byKind_97 ⟨by omega, by omega⟩ ⟨by omega, by omega⟩ (by omega) ?_
        exact jr_lret (pc := 98) hh hret ⟨jsl (by unfold bkM opC; rw [if_neg (by omega)]; (repeat' split) <;> omega), rfl⟩ (by decide) (by decide) dX4_byKind_98
      · skip
        refine jr_lload (pc := 81) hh 1 dX4_byKind_81 rfl ?_
        refine jr_lload (pc := 83) hh 0 dX4_byKind_83 rfl ?_
        refine jr_lsub (pc := 85) hh dX4_byKind_85 ?_
        refine jr_goto (tgt := 98) (pc := 86) hh dX4_byKind_86 (by decide) ?_
        exact jr_lret (pc := 98) hh hret ⟨jsl (by unfold bkM opC; rw [if_neg (by omega)]; (repeat' split) <;> omega), rfl⟩ (by decide) (by decide) dX4_byKind_98
    · skip
      refine jr_lload (pc := 64) hh 1 dX4_byKind_64 rfl ?_
      refine jr_lload (pc := 66) hh 0 dX4_byKind_66 rfl ?_
      refine jr_ladd (pc := 68) hh dX4_byKind_68 ?_
      exact jr_lret (pc := 69) hh hret ⟨jsl (by unfold bkM opC; rw [if_neg (by omega)]; (repeat' split) <;> omega), rfl⟩ (by decide) (by decide) dX4_byKind_69
  · skip
    have hone := hLi.2.1 (by omega)
    refine jr_aload_n (pc := 11) hh 0 dX4_byKind_11 rfl rfl ?_
    refine jr_iload_n (pc := 12) hh 2 dX4_byKind_12 rfl rfl ?_
    refine jr_aload_n (pc := 13) hh 0 dX4_byKind_13 rfl rfl ?_
    refine jr_get (v := .ref (h 3)) (pc := 14) hh in_X4_byKind_X4 0 rfl rfl 2 (by decide) (by decide +kernel : Cond.fieldLink RX4 16 (TX4 2).1 (TX4 2).2.1 (TX4 2).2.2.1 ∈ wsX4_byKind) rfl dX4_byKind_14 ?_
    refine jr_iload_n (pc := 17) hh 1 dX4_byKind_17 rfl rfl ?_
    refine jr_iald (F := (F 2)) (pc := 18) hh 3 rfl i (by omega) (by omega) (by decide) dX4_byKind_18 ?_
    obtain ⟨on, hon⟩ : ∃ q : Nat, F 2 i = (q : Int) := ⟨(F 2 i).toNat, by omega⟩
    refine jr_topi (b := (on : Int)) hon ?_
    refine jr_iload_n (pc := 19) hh 3 dX4_byKind_19 rfl rfl ?_
    refine jr_iload (pc := 20) hh 4 dX4_byKind_20 rfl ?_
    refine jr_callV (pc := 22) hh [.int (iI (s0 : Int)), .int (iI (on : Int)), .int (iI (t : Int)), .int (iI (b : Int))] [] (c_X4_valueIn l G h F V fd s0 on t b hk hs (by omega) ht hb) gX4_byKind_X4_valueIn rfl (by decide) (by decide) [0, 1, 2, 3, 4, 5, 6, 7, 8, 9, 10, 11, 12, 13, 14, 15, 16] [] rfl rfl rfl rfl (by decide) 0 rfl rfl 4 rfl rfl (Nat.le_of_ble_eq_true rfl) (by decide +kernel) dX4_byKind_22 (fun rvu4 wu4 hu4 => ?_)
    obtain ⟨rfl, rfl⟩ := hu4
    refine jr_perm (ws' := (wM G h F V fd)) (st := [.int (iI (F 0 on + sumTo (difM F s0 on t b) (V 4).toNat))]) [0, 1, 2, 3, 4, 5, 6, 7, 8, 9, 10, 11, 12, 13, 14, 15, 16] rfl rfl ?_
    have hvb := valM_B hk (s := s0) (t := t) (b := b) (d := on) (n := (V 4).toNat) (by omega) (by have := hk.2.2.2.1; omega)
    refine jr_i2l (pc := 25) hh dX4_byKind_25 ⟨by omega, by omega⟩ ?_
    exact jr_lret (pc := 26) hh hret ⟨jsl (by unfold bkM valM; rw [if_pos (by omega), hon, Int.toNat_natCast]), rfl⟩ (by decide) (by decide) dX4_byKind_26
set_option maxRecDepth 20000 in
theorem in_X4_finds_X4 : ∀ w ∈ u_ws RX4 TX4 22, w ∈ wsX4_finds := by decide +kernel
set_option maxHeartbeats 4000000 in
set_option maxRecDepth 100000 in
theorem c_X4_finds (l : Launch) (G : jG) (h : Nat → Nat) (F : Nat → Nat → Int) (V : Nat → Int) (fd : Nat → Int) (s0 i t b : Nat) (hk : okM F V) (hs : (s0 : Int) < V 3) (hi : (i : Int) < V 2) (ht : t < 12) (hb : b ≤ 6) : jMet l yX4_finds wsX4_finds { frames := 4, cells := 0, slots := 0, locals := 180 } G (wM G h F V fd) [.ref (h 0), .int (iI (s0 : Int)), .int (iI (i : Int)), .int (iI (t : Int)), .int (iI (b : Int))] (fun rv w1 => rv = some (.int (iI (if enc (nmM F V s0 t b i) = -1000000000 then 0 else 1))) ∧ ∃ (isf fnd : Nat → Int), (enc (nmM F V s0 t b i) ≠ -1000000000 → fnd i = enc (nmM F V s0 t b i)) ∧ w1 = wM G h (uF F 13 isf) V fnd) := by
  refine jMet_of (cc := cX4_finds) (maxL := 8) (ret := (some .boolean)) (by decide +kernel) rfl (Nat.le_of_ble_eq_true rfl) ?_
  intro p e s m args below meth c A hh hret hinit
  refine jr_loc (lv' := [(0, .ref (h 0)), (1, .int (iI (s0 : Int))), (2, .int (iI (i : Int))), (3, .int (iI (t : Int))), (4, .int (iI (b : Int)))]) [0, 1, 2, 3, 4] rfl ?_
  have hV2 := hk.2.1
  have hV1 := hk.1
  have hV4 := hk.2.2.2.1
  refine jr_iconst (pc := 0) hh dX4_finds_0 ?_
  refine jr_istore (lv' := [(5, .int (iI 0)), (0, .ref (h 0)), (1, .int (iI (s0 : Int))), (2, .int (iI (i : Int))), (3, .int (iI (t : Int))), (4, .int (iI (b : Int)))]) (pc := 1) hh dX4_finds_1 (by decide) rfl ?_
  refine jr_loc (lv' := [(0, .ref (h 0)), (1, .int (iI (s0 : Int))), (2, .int (iI (i : Int))), (3, .int (iI (t : Int))), (4, .int (iI (b : Int))), (5, .int (iI 0))]) [1, 2, 3, 4, 5, 0] rfl ?_
  refine jr_lvset (a := 0) (b := (0 : Int)) (lv' := [(0, .ref (h 0)), (1, .int (iI (s0 : Int))), (2, .int (iI (i : Int))), (3, .int (iI (t : Int))), (4, .int (iI (b : Int))), (5, .int (iI (0 : Int)))]) 5 rfl (by first | rfl | omega) rfl ?_
  refine jr_ws (ws' := (wM G h (uF F 13 (F 13)) V fd)) rfl ?_
  refine jr_loop (σ := Nat × (Nat → Int) × (Nat → Int)) (fun (x : Nat × (Nat → Int) × (Nat → Int)) => match x with | (k, fnd, isf) => (k ≤ i + 1) ∧ (∀ j : Nat, j < k → isf j = (if enc (nmM F V s0 t b j) = -1000000000 then 0 else 1) ∧ (enc (nmM F V s0 t b j) ≠ -1000000000 → fnd j = enc (nmM F V s0 t b j)))) (fun (x : Nat × (Nat → Int) × (Nat → Int)) => match x with | (k, fnd, isf) => i + 1 - k) (fun (x : Nat × (Nat → Int) × (Nat → Int)) => match x with | (k, fnd, isf) => (wM G h (uF F 13 isf) V fnd)) (fun (x : Nat × (Nat → Int) × (Nat → Int)) => match x with | (k, fnd, isf) => [(0, .ref (h 0)), (1, .int (iI (s0 : Int))), (2, .int (iI (i : Int))), (3, .int (iI (t : Int))), (4, .int (iI (b : Int))), (5, .int (iI (k : Int)))]) (fun (x : Nat × (Nat → Int) × (Nat → Int)) => match x with | (k, fnd, isf) => []) ?_ (0, fd, (F 13)) ⟨by (try dsimp only); omega, fun j hj => absurd hj (Nat.not_lt_zero _)⟩
  rintro ⟨k, fnd, isf⟩ ⟨hkk, hin⟩ ih1
  dsimp only at ih1 ⊢
  try dsimp only at hkk hin
  refine jr_iload (pc := 3) hh 5 dX4_finds_3 rfl ?_
  refine jr_iload_n (pc := 5) hh 2 dX4_finds_5 rfl rfl ?_
  refine jr_icmp_gt (tgt := 173) (pc := 6) hh dX4_finds_6 (by decide) ⟨by omega, by omega⟩ ⟨by omega, by omega⟩ (fun c2 => ?_) (fun c2 => ?_)
  · skip
    have hil := hin i (by omega)
    have hb9 : isf i = 0 ∨ isf i = 1 := by omega
    refine jr_aload_n (pc := 173) hh 0 dX4_finds_173 rfl rfl ?_
    refine jr_get (v := .ref (h 14)) (pc := 174) hh in_X4_finds_X4 0 rfl rfl 13 (by decide) (by decide +kernel : Cond.fieldLink RX4 50 (TX4 13).1 (TX4 13).2.1 (TX4 13).2.2.1 ∈ wsX4_finds) rfl dX4_finds_174 ?_
    refine jr_iload_n (pc := 177) hh 2 dX4_finds_177 rfl rfl ?_
    refine jr_zald (F := isf) (pc := 178) hh 14 rfl i (by omega) (by omega) (by decide) dX4_finds_178 ?_
    exact jr_iret (pc := 179) hh hret (narB hb9) ⟨jsi hil.1, isf, fnd, hil.2, rfl⟩ (by decide) (by decide) dX4_finds_179
  · skip
    have hLi := hk.2.2.2.2.2.2.1 k (by omega)
    have hAk := hk.2.2.2.2.2.2.2.2.2 (k * 12 + t) (by omega)
    have hnA := nmM_A hk (s := s0) (t := t) (b := b) (i := k) (by omega)
    have hnD := nmM_D hk (s := s0) (t := t) (b := b) (i := k) (by omega)
    have hnC := nmM_C hk (s := s0) (t := t) (b := b) (i := k) (by omega) ht
    have hbk := enc_range (nmM_B hk (s := s0) (t := t) (b := b) (i := k) (by omega) ht)
    refine jr_aload_n (pc := 9) hh 0 dX4_finds_9 rfl rfl ?_
    refine jr_get (v := .ref (h 13)) (pc := 10) hh in_X4_finds_X4 0 rfl rfl 12 (by decide) (by decide +kernel : Cond.fieldLink RX4 46 (TX4 12).1 (TX4 12).2.1 (TX4 12).2.2.1 ∈ wsX4_finds) rfl dX4_finds_10 ?_
    refine jr_iload (pc := 13) hh 5 dX4_finds_13 rfl ?_
    refine jr_iload_n (pc := 15) hh 3 dX4_finds_15 rfl rfl ?_
    refine jr_callS (pc := 16) hh [.int (iI (k : Int)), .int (iI (t : Int))] [.ref (h 13)] (c_X4_at l G k t) gX4_finds_X4_at rfl (by decide) (by decide) [] [0, 1, 2, 3, 4, 5, 6, 7, 8, 9, 10, 11, 12, 13, 14, 15, 16] rfl rfl rfl rfl (by decide) 2 rfl rfl (Nat.le_of_ble_eq_true rfl) (by decide +kernel) dX4_finds_16 (fun rvu3 wu3 hu3 => ?_)
    obtain ⟨rfl, rfl⟩ := hu3
    refine jr_perm (ws' := (wM G h (uF F 13 isf) V fnd)) (st := [.int (iI ((k * 12 + t : Nat) : Int)), .ref (h 13)]) [0, 1, 2, 3, 4, 5, 6, 7, 8, 9, 10, 11, 12, 13, 14, 15, 16] rfl rfl ?_
    refine jr_zald (F := (F 12)) (pc := 19) hh 13 rfl (k * 12 + t) (by omega) (by omega) (by decide) dX4_finds_19 ?_
    refine jr_istore (lv' := [(6, .int (iI ((F 12) (k * 12 + t)))), (0, .ref (h 0)), (1, .int (iI (s0 : Int))), (2, .int (iI (i : Int))), (3, .int (iI (t : Int))), (4, .int (iI (b : Int))), (5, .int (iI (k : Int)))]) (pc := 20) hh dX4_finds_20 (by decide) rfl ?_
    refine jr_cut (σ := Int × Int) 121 (fun (x : Int × Int) => match x with | (z, io) => (io = 0 ∧ z = 0 ∧ enc (nmM F V s0 t b k) = -1000000000) ∨ (io = 1 ∧ (-100000000000000000 ≤ z ∧ z ≤ 100000000000000000) ∧ enc (nmM F V s0 t b k) = (if -99999999 ≤ z ∧ z ≤ 99999999 then z else -1000000000))) (fun (x : Int × Int) => match x with | (z, io) => (wM G h (uF F 13 isf) V fnd)) (fun (x : Int × Int) => match x with | (z, io) => [(7, .int (iI io)), (6, .int (iI ((F 12) (k * 12 + t)))), (0, .ref (h 0)), (1, .int (iI (s0 : Int))), (2, .int (iI (i : Int))), (3, .int (iI (t : Int))), (4, .int (iI (b : Int))), (5, .int (iI (k : Int)))]) (fun (x : Int × Int) => match x with | (z, io) => [.long (lI z), .int (iI (k : Int)), .ref (h 16)]) ?_ (fun cut121 => ?_)
    · rintro ⟨z, io⟩ hcut121
      dsimp only
      try dsimp only at hcut121
      have hjs := jU_s fnd k z
      refine jr_last (F := fnd) (ws' := (wM G h (uF F 13 isf) V (jU fnd k z))) (pc := 121) hh 16 rfl k (by omega) (by omega) (by decide) rfl dX4_finds_121 ?_
      refine jr_aload_n (pc := 122) hh 2 dX4_finds_122 rfl rfl ?_
      refine jr_get (v := .ref (h 14)) (pc := 123) hh in_X4_finds_X4 0 rfl rfl 13 (by decide) (by decide +kernel : Cond.fieldLink RX4 50 (TX4 13).1 (TX4 13).2.1 (TX4 13).2.2.1 ∈ wsX4_finds) rfl dX4_finds_123 ?_
      refine jr_iload (pc := 126) hh 7 dX4_finds_126 rfl ?_
      refine jr_iload (pc := 128) hh 0 dX4_finds_128 rfl ?_
      refine jr_if_eq (tgt := 165) (pc := 130) hh dX4_finds_130 (by decide) ⟨by omega, by omega⟩ (fun c4 => ?_) (fun c4 => ?_)
      · try (exfalso; omega)
        all_goals
          refine jr_iconst (pc := 165) hh dX4_finds_165 ?_
          refine jr_zast (F := isf) (ws' := (wM G h (uF F 13 (jU isf k 0)) V (jU fnd k z))) (pc := 166) hh 14 rfl k (by omega) (by omega) (by decide) (by omega) rfl dX4_finds_166 ?_
          refine jr_iinc (a := (k : Int)) (b := (((k + 1) : Nat) : Int)) (lv' := [(5, .int (iI (((k + 1) : Nat) : Int))), (7, .int (iI io)), (6, .int (iI ((F 12) (k * 12 + t)))), (0, .ref (h 0)), (1, .int (iI (s0 : Int))), (2, .int (iI (i : Int))), (3, .int (iI (t : Int))), (4, .int (iI (b : Int)))]) (pc := 167) hh 7 dX4_finds_167 rfl (by omega) (by decide) rfl ?_
          refine jr_goto (tgt := 3) (pc := 170) hh dX4_finds_170 (by decide) ?_
          have hin2 : ∀ j : Nat, j < k + 1 → (jU isf k 0) j = (if enc (nmM F V s0 t b j) = -1000000000 then 0 else 1) ∧ (enc (nmM F V s0 t b j) ≠ -1000000000 → (jU fnd k z) j = enc (nmM F V s0 t b j)) := by
            intro j hj
            by_cases hq : j = k
            · subst hq; rw [jU_s, jU_s]; omega
            · rw [jU_n hq, jU_n hq]; exact hin j (by omega)
          refine jr_loc (lv' := [(0, .ref (h 0)), (1, .int (iI (s0 : Int))), (2, .int (iI (i : Int))), (3, .int (iI (t : Int))), (4, .int (iI (b : Int))), (5, .int (iI (((k + 1) : Nat) : Int)))]) [3, 4, 5, 6, 7, 0] rfl ?_
          exact ih1 ((k + 1), (jU fnd k z), (jU isf k 0)) ⟨by (try dsimp only); omega, hin2⟩ (by (try dsimp only); omega)
      · try (exfalso; omega)
        all_goals
          refine jr_aload_n (pc := 133) hh 2 dX4_finds_133 rfl rfl ?_
          refine jr_get (v := .ref (h 16)) (pc := 134) hh in_X4_finds_X4 0 rfl rfl 15 (by decide) (by decide +kernel : Cond.fieldLink RX4 57 (TX4 15).1 (TX4 15).2.1 (TX4 15).2.2.1 ∈ wsX4_finds) rfl dX4_finds_134 ?_
          refine jr_iload (pc := 137) hh 7 dX4_finds_137 rfl ?_
          refine jr_lald (F := (jU fnd k z)) (pc := 139) hh 16 rfl k (by omega) (by omega) (by decide) dX4_finds_139 ?_
          refine jr_ldc2 (z := (-99999999)) (v := -99999999) (pc := 140) hh (by decide) (by decide +kernel : Cond.constantLong RX4 102 (-99999999) ∈ wsX4_finds) dX4_finds_140 ?_
          refine jr_lcmp_lt (tgt := 165) (pc := 143) hh dX4_finds_143 dX4_finds_144 (by decide) ⟨by omega, by omega⟩ ⟨by omega, by omega⟩ (fun c5 => ?_) (fun c5 => ?_)
          · skip
            refine jr_iconst (pc := 165) hh dX4_finds_165 ?_
            refine jr_zast (F := isf) (ws' := (wM G h (uF F 13 (jU isf k 0)) V (jU fnd k z))) (pc := 166) hh 14 rfl k (by omega) (by omega) (by decide) (by omega) rfl dX4_finds_166 ?_
            refine jr_iinc (a := (k : Int)) (b := (((k + 1) : Nat) : Int)) (lv' := [(5, .int (iI (((k + 1) : Nat) : Int))), (7, .int (iI io)), (6, .int (iI ((F 12) (k * 12 + t)))), (0, .ref (h 0)), (1, .int (iI (s0 : Int))), (2, .int (iI (i : Int))), (3, .int (iI (t : Int))), (4, .int (iI (b : Int)))]) (pc := 167) hh 7 dX4_finds_167 rfl (by omega) (by decide) rfl ?_
            refine jr_goto (tgt := 3) (pc := 170) hh dX4_finds_170 (by decide) ?_
            have hin2 : ∀ j : Nat, j < k + 1 → (jU isf k 0) j = (if enc (nmM F V s0 t b j) = -1000000000 then 0 else 1) ∧ (enc (nmM F V s0 t b j) ≠ -1000000000 → (jU fnd k z) j = enc (nmM F V s0 t b j)) := by
              intro j hj
              by_cases hq : j = k
              · subst hq; rw [jU_s, jU_s]; omega
              · rw [jU_n hq, jU_n hq]; exact hin j (by omega)
            refine jr_loc (lv' := [(0, .ref (h 0)), (1, .int (iI (s0 : Int))), (2, .int (iI (i : Int))), (3, .int (iI (t : Int))), (4, .int (iI (b : Int))), (5, .int (iI (((k + 1) : Nat) : Int)))]) [3, 4, 5, 6, 7, 0] rfl ?_
            exact ih1 ((k + 1), (jU fnd k z), (jU isf k 0)) ⟨by (try dsimp only); omega, hin2⟩ (by (try dsimp only); omega)
          · skip
            refine jr_aload_n (pc := 147) hh 2 dX4_finds_147 rfl rfl ?_
            refine jr_get (v := .ref (h 16)) (pc := 148) hh in_X4_finds_X4 0 rfl rfl 15 (by decide) (by decide +kernel : Cond.fieldLink RX4 57 (TX4 15).1 (TX4 15).2.1 (TX4 15).2.2.1 ∈ wsX4_finds) rfl dX4_finds_148 ?_
            refine jr_iload (pc := 151) hh 7 dX4_finds_151 rfl ?_
            refine jr_lald (F := (jU fnd k z)) (pc := 153) hh 16 rfl k (by omega) (by omega) (by decide) dX4_finds_153 ?_
            refine jr_ldc2 (z := 99999999) (v := 99999999) (pc := 154) hh (by decide) (by decide +kernel : Cond.constantLong RX4 104 (99999999) ∈ wsX4_finds) dX4_finds_154 ?_
            refine jr_lcmp_gt (tgt := 165) (pc := 157) hh dX4_finds_157 dX4_finds_158 (by decide) ⟨by omega, by omega⟩ ⟨by omega, by omega⟩ (fun c6 => ?_) (fun c6 => ?_)
            · skip
              refine jr_iconst (pc := 165) hh dX4_finds_165 ?_
              refine jr_zast (F := isf) (ws' := (wM G h (uF F 13 (jU isf k 0)) V (jU fnd k z))) (pc := 166) hh 14 rfl k (by omega) (by omega) (by decide) (by omega) rfl dX4_finds_166 ?_
              refine jr_iinc (a := (k : Int)) (b := (((k + 1) : Nat) : Int)) (lv' := [(5, .int (iI (((k + 1) : Nat) : Int))), (7, .int (iI io)), (6, .int (iI ((F 12) (k * 12 + t)))), (0, .ref (h 0)), (1, .int (iI (s0 : Int))), (2, .int (iI (i : Int))), (3, .int (iI (t : Int))), (4, .int (iI (b : Int)))]) (pc := 167) hh 7 dX4_finds_167 rfl (by omega) (by decide) rfl ?_
              refine jr_goto (tgt := 3) (pc := 170) hh dX4_finds_170 (by decide) ?_
              have hin2 : ∀ j : Nat, j < k + 1 → (jU isf k 0) j = (if enc (nmM F V s0 t b j) = -1000000000 then 0 else 1) ∧ (enc (nmM F V s0 t b j) ≠ -1000000000 → (jU fnd k z) j = enc (nmM F V s0 t b j)) := by
                intro j hj
                by_cases hq : j = k
                · subst hq; rw [jU_s, jU_s]; omega
                · rw [jU_n hq, jU_n hq]; exact hin j (by omega)
              refine jr_loc (lv' := [(0, .ref (h 0)), (1, .int (iI (s0 : Int))), (2, .int (iI (i : Int))), (3, .int (iI (t : Int))), (4, .int (iI (b : Int))), (5, .int (iI (((k + 1) : Nat) : Int)))]) [3, 4, 5, 6, 7, 0] rfl ?_
              exact ih1 ((k + 1), (jU fnd k z), (jU isf k 0)) ⟨by (try dsimp only); omega, hin2⟩ (by (try dsimp only); omega)
            · skip
              refine jr_iconst (pc := 161) hh dX4_finds_161 ?_
              refine jr_goto (tgt := 166) (pc := 162) hh dX4_finds_162 (by decide) ?_
              refine jr_zast (F := isf) (ws' := (wM G h (uF F 13 (jU isf k 1)) V (jU fnd k z))) (pc := 166) hh 14 rfl k (by omega) (by omega) (by decide) (by omega) rfl dX4_finds_166 ?_
              refine jr_iinc (a := (k : Int)) (b := (((k + 1) : Nat) : Int)) (lv' := [(5, .int (iI (((k + 1) : Nat) : Int))), (7, .int (iI io)), (6, .int (iI ((F 12) (k * 12 + t)))), (0, .ref (h 0)), (1, .int (iI (s0 : Int))), (2, .int (iI (i : Int))), (3, .int (iI (t : Int))), (4, .int (iI (b : Int)))]) (pc := 167) hh 7 dX4_finds_167 rfl (by omega) (by decide) rfl ?_
              refine jr_goto (tgt := 3) (pc := 170) hh dX4_finds_170 (by decide) ?_
              have hin2 : ∀ j : Nat, j < k + 1 → (jU isf k 1) j = (if enc (nmM F V s0 t b j) = -1000000000 then 0 else 1) ∧ (enc (nmM F V s0 t b j) ≠ -1000000000 → (jU fnd k z) j = enc (nmM F V s0 t b j)) := by
                intro j hj
                by_cases hq : j = k
                · subst hq; rw [jU_s, jU_s]; omega
                · rw [jU_n hq, jU_n hq]; exact hin j (by omega)
              refine jr_loc (lv' := [(0, .ref (h 0)), (1, .int (iI (s0 : Int))), (2, .int (iI (i : Int))), (3, .int (iI (t : Int))), (4, .int (iI (b : Int))), (5, .int (iI (((k + 1) : Nat) : Int)))]) [3, 4, 5, 6, 7, 0] rfl ?_
              exact ih1 ((k + 1), (jU fnd k z), (jU isf k 1)) ⟨by (try dsimp only); omega, hin2⟩ (by (try dsimp only); omega)
    · dsimp only at cut121
      refine jr_iload (pc := 22) hh 0 dX4_finds_22 rfl ?_
      refine jr_if_ne (tgt := 69) (pc := 24) hh dX4_finds_24 (by decide) ⟨by omega, by omega⟩ (fun c7 => ?_) (fun c7 => ?_)
      · try (exfalso; omega)
        all_goals
          refine jr_iconst (pc := 69) hh dX4_finds_69 ?_
          refine jr_goto (tgt := 74) (pc := 70) hh dX4_finds_70 (by decide) ?_
          refine jr_istore (lv' := [(7, .int (iI 1)), (6, .int (iI ((F 12) (k * 12 + t)))), (0, .ref (h 0)), (1, .int (iI (s0 : Int))), (2, .int (iI (i : Int))), (3, .int (iI (t : Int))), (4, .int (iI (b : Int))), (5, .int (iI (k : Int)))]) (pc := 74) hh dX4_finds_74 (by decide) rfl ?_
          refine jr_aload_n (pc := 76) hh 2 dX4_finds_76 rfl rfl ?_
          refine jr_get (v := .ref (h 16)) (pc := 77) hh in_X4_finds_X4 0 rfl rfl 15 (by decide) (by decide +kernel : Cond.fieldLink RX4 57 (TX4 15).1 (TX4 15).2.1 (TX4 15).2.2.1 ∈ wsX4_finds) rfl dX4_finds_77 ?_
          refine jr_iload (pc := 80) hh 7 dX4_finds_80 rfl ?_
          refine jr_iload (pc := 82) hh 1 dX4_finds_82 rfl ?_
          refine jr_if_eq (tgt := 102) (pc := 84) hh dX4_finds_84 (by decide) ⟨by omega, by omega⟩ (fun c8 => ?_) (fun c8 => ?_)
          · try (exfalso; omega)
            all_goals
              refine jr_iload (pc := 102) hh 0 dX4_finds_102 rfl ?_
              refine jr_if_eq (tgt := 120) (pc := 104) hh dX4_finds_104 (by decide) ⟨by omega, by omega⟩ (fun c9 => ?_) (fun c9 => ?_)
              · try (exfalso; omega)
                all_goals
                  refine jr_lconst (z := 0) (pc := 120) hh dX4_finds_120 (by decide) ?_
                  have hn := hnC (by omega) (by omega)
                  have hin1 := hin (F 2 k).toNat (by omega)
                  have hin2 := hin (F 3 k).toNat (by omega)
                  unfold cmbI at hn
                  have hP : ((1 : Int) = 0 ∧ (0 : Int) = 0 ∧ enc (nmM F V s0 t b k) = -1000000000) ∨ ((1 : Int) = 1 ∧ (-100000000000000000 ≤ (0 : Int) ∧ (0 : Int) ≤ 100000000000000000) ∧ enc (nmM F V s0 t b k) = (if -99999999 ≤ (0 : Int) ∧ (0 : Int) ≤ 99999999 then (0 : Int) else -1000000000)) := by omega
                  refine jr_loc (lv' := [(7, .int (iI 1)), (6, .int (iI ((F 12) (k * 12 + t)))), (0, .ref (h 0)), (1, .int (iI (s0 : Int))), (2, .int (iI (i : Int))), (3, .int (iI (t : Int))), (4, .int (iI (b : Int))), (5, .int (iI (k : Int)))]) [0, 1, 2, 3, 4, 5, 6, 7] rfl ?_
                  exact cut121 (0, 1) hP
              · try (exfalso; omega)
                all_goals
                  refine jr_aload_n (pc := 107) hh 2 dX4_finds_107 rfl rfl ?_
                  refine jr_iload (pc := 108) hh 7 dX4_finds_108 rfl ?_
                  refine jr_iload_n (pc := 110) hh 3 dX4_finds_110 rfl rfl ?_
                  refine jr_iload_n (pc := 111) hh 5 dX4_finds_111 rfl rfl ?_
                  refine jr_iload (pc := 112) hh 6 dX4_finds_112 rfl ?_
                  have hfdk : F 1 k ≠ 100 → (-99999999 ≤ fnd (F 2 k).toNat ∧ fnd (F 2 k).toNat ≤ 99999999) ∧ (-99999999 ≤ fnd (F 3 k).toNat ∧ fnd (F 3 k).toNat ≤ 99999999) := by
                    intro q
                    have hLq := hLi.2.2 q
                    have hi1 := hin (F 2 k).toNat (by omega)
                    have hi2 := hin (F 3 k).toNat (by omega)
                    have hb1 := enc_or (nmM_B hk (s := s0) (t := t) (b := b) (i := (F 2 k).toNat) (by omega) ht)
                    have hb2 := enc_or (nmM_B hk (s := s0) (t := t) (b := b) (i := (F 3 k).toNat) (by omega) ht)
                    have he1 := hi1.2 (by omega)
                    have he2 := hi2.2 (by omega)
                    omega
                  refine jr_callV (pc := 114) hh [.int (iI (k : Int)), .int (iI (s0 : Int)), .int (iI (t : Int)), .int (iI (b : Int))] [.int (iI (k : Int)), .ref (h 16)] (c_X4_byKind l G h (uF F 13 isf) V fnd k s0 t b hk hs (by omega) ht hb hfdk) gX4_finds_X4_byKind rfl (by decide) (by decide) [0, 1, 2, 3, 4, 5, 6, 7, 8, 9, 10, 11, 12, 13, 14, 15, 16] [] rfl rfl rfl rfl (by decide) 0 rfl rfl 4 rfl rfl (Nat.le_of_ble_eq_true rfl) (by decide +kernel) dX4_finds_114 (fun rvu10 wu10 hu10 => ?_)
                  obtain ⟨rfl, rfl⟩ := hu10
                  refine jr_perm (ws' := (wM G h (uF F 13 isf) V fnd)) (st := [.long (lI (bkM (uF F 13 isf) V fnd s0 t b k)), .int (iI (k : Int)), .ref (h 16)]) [0, 1, 2, 3, 4, 5, 6, 7, 8, 9, 10, 11, 12, 13, 14, 15, 16] rfl rfl ?_
                  refine jr_goto (tgt := 121) (pc := 117) hh dX4_finds_117 (by decide) ?_
                  have hz : (bkM (uF F 13 isf) V fnd s0 t b k) = if F 1 k = 100 then valM F V s0 (F 2 k).toNat t b else opC (F 1 k) (fnd (F 2 k).toNat) (fnd (F 3 k).toNat) := rfl
                  have hP : ((1 : Int) = 0 ∧ ((bkM (uF F 13 isf) V fnd s0 t b k) : Int) = 0 ∧ enc (nmM F V s0 t b k) = -1000000000) ∨ ((1 : Int) = 1 ∧ (-100000000000000000 ≤ ((bkM (uF F 13 isf) V fnd s0 t b k) : Int) ∧ ((bkM (uF F 13 isf) V fnd s0 t b k) : Int) ≤ 100000000000000000) ∧ enc (nmM F V s0 t b k) = (if -99999999 ≤ ((bkM (uF F 13 isf) V fnd s0 t b k) : Int) ∧ ((bkM (uF F 13 isf) V fnd s0 t b k) : Int) ≤ 99999999 then ((bkM (uF F 13 isf) V fnd s0 t b k) : Int) else -1000000000)) := by
                    by_cases q : F 1 k = 100
                    · have hn := hnD (by omega) q
                      have hone := hLi.2.1 q
                      have hvb := valM_B hk (s := s0) (t := t) (b := b) (d := (F 2 k).toNat) (n := (V 4).toNat) (by omega) (by omega)
                      rw [if_pos q] at hz
                      unfold valM at hn hz
                      omega
                    · have hn := hnC (by omega) q
                      have hLq := hLi.2.2 q
                      have hin1 := hin (F 2 k).toNat (by omega)
                      have hin2 := hin (F 3 k).toNat (by omega)
                      have he1 : fnd (F 2 k).toNat = enc (nmM F V s0 t b (F 2 k).toNat) := hin1.2 (by omega)
                      have he2 : fnd (F 3 k).toNat = enc (nmM F V s0 t b (F 3 k).toNat) := hin2.2 (by omega)
                      have hb1 := enc_or (nmM_B hk (s := s0) (t := t) (b := b) (i := (F 2 k).toNat) (by omega) ht)
                      have hb2 := enc_or (nmM_B hk (s := s0) (t := t) (b := b) (i := (F 3 k).toNat) (by omega) ht)
                      rw [if_neg q] at hz
                      rw [← he1, ← he2] at hn
                      have hob := opC_B (kd := F 1 k) (a := fnd (F 2 k).toNat) (b := fnd (F 3 k).toNat) (by omega) (by omega)
                      unfold cmbI at hn
                      omega
                  refine jr_loc (lv' := [(7, .int (iI 1)), (6, .int (iI ((F 12) (k * 12 + t)))), (0, .ref (h 0)), (1, .int (iI (s0 : Int))), (2, .int (iI (i : Int))), (3, .int (iI (t : Int))), (4, .int (iI (b : Int))), (5, .int (iI (k : Int)))]) [0, 1, 2, 3, 4, 5, 6, 7] rfl ?_
                  exact cut121 ((bkM (uF F 13 isf) V fnd s0 t b k), 1) hP
          · try (exfalso; omega)
            all_goals
              refine jr_aload_n (pc := 87) hh 2 dX4_finds_87 rfl rfl ?_
              refine jr_get (v := .ref (h 10)) (pc := 88) hh in_X4_finds_X4 0 rfl rfl 9 (by decide) (by decide +kernel : Cond.fieldLink RX4 37 (TX4 9).1 (TX4 9).2.1 (TX4 9).2.2.1 ∈ wsX4_finds) rfl dX4_finds_88 ?_
              refine jr_iload (pc := 91) hh 7 dX4_finds_91 rfl ?_
              refine jr_iload_n (pc := 93) hh 5 dX4_finds_93 rfl rfl ?_
              refine jr_callS (pc := 94) hh [.int (iI (k : Int)), .int (iI (t : Int))] [.ref (h 10), .int (iI (k : Int)), .ref (h 16)] (c_X4_at l G k t) gX4_finds_X4_at rfl (by decide) (by decide) [] [0, 1, 2, 3, 4, 5, 6, 7, 8, 9, 10, 11, 12, 13, 14, 15, 16] rfl rfl rfl rfl (by decide) 2 rfl rfl (Nat.le_of_ble_eq_true rfl) (by decide +kernel) dX4_finds_94 (fun rvu11 wu11 hu11 => ?_)
              obtain ⟨rfl, rfl⟩ := hu11
              refine jr_perm (ws' := (wM G h (uF F 13 isf) V fnd)) (st := [.int (iI ((k * 12 + t : Nat) : Int)), .ref (h 10), .int (iI (k : Int)), .ref (h 16)]) [0, 1, 2, 3, 4, 5, 6, 7, 8, 9, 10, 11, 12, 13, 14, 15, 16] rfl rfl ?_
              refine jr_iald (F := (F 9)) (pc := 97) hh 10 rfl (k * 12 + t) (by omega) (by omega) (by decide) dX4_finds_97 ?_
              refine jr_i2l (pc := 98) hh dX4_finds_98 ⟨by omega, by omega⟩ ?_
              refine jr_goto (tgt := 121) (pc := 99) hh dX4_finds_99 (by decide) ?_
              have hn := hnA (by omega)
              have hP : ((1 : Int) = 0 ∧ (((F 9) (k * 12 + t)) : Int) = 0 ∧ enc (nmM F V s0 t b k) = -1000000000) ∨ ((1 : Int) = 1 ∧ (-100000000000000000 ≤ (((F 9) (k * 12 + t)) : Int) ∧ (((F 9) (k * 12 + t)) : Int) ≤ 100000000000000000) ∧ enc (nmM F V s0 t b k) = (if -99999999 ≤ (((F 9) (k * 12 + t)) : Int) ∧ (((F 9) (k * 12 + t)) : Int) ≤ 99999999 then (((F 9) (k * 12 + t)) : Int) else -1000000000)) := by omega
              refine jr_loc (lv' := [(7, .int (iI 1)), (6, .int (iI ((F 12) (k * 12 + t)))), (0, .ref (h 0)), (1, .int (iI (s0 : Int))), (2, .int (iI (i : Int))), (3, .int (iI (t : Int))), (4, .int (iI (b : Int))), (5, .int (iI (k : Int)))]) [0, 1, 2, 3, 4, 5, 6, 7] rfl ?_
              exact cut121 (((F 9) (k * 12 + t)), 1) hP
      · try (exfalso; omega)
        all_goals
          refine jr_aload_n (pc := 27) hh 1 dX4_finds_27 rfl rfl ?_
          refine jr_get (v := .ref (h 2)) (pc := 28) hh in_X4_finds_X4 0 rfl rfl 1 (by decide) (by decide +kernel : Cond.fieldLink RX4 13 (TX4 1).1 (TX4 1).2.1 (TX4 1).2.2.1 ∈ wsX4_finds) rfl dX4_finds_28 ?_
          refine jr_iload (pc := 31) hh 6 dX4_finds_31 rfl ?_
          refine jr_iald (F := (F 1)) (pc := 33) hh 2 rfl k (by omega) (by omega) (by decide) dX4_finds_33 ?_
          refine jr_bipush (pc := 34) hh dX4_finds_34 (by decide) ?_
          refine jr_icmp_eq (tgt := 69) (pc := 36) hh dX4_finds_36 (by decide) ⟨by omega, by omega⟩ ⟨by omega, by omega⟩ (fun c12 => ?_) (fun c12 => ?_)
          · try (exfalso; omega)
            all_goals
              refine jr_iconst (pc := 69) hh dX4_finds_69 ?_
              refine jr_goto (tgt := 74) (pc := 70) hh dX4_finds_70 (by decide) ?_
              refine jr_istore (lv' := [(7, .int (iI 1)), (6, .int (iI ((F 12) (k * 12 + t)))), (0, .ref (h 0)), (1, .int (iI (s0 : Int))), (2, .int (iI (i : Int))), (3, .int (iI (t : Int))), (4, .int (iI (b : Int))), (5, .int (iI (k : Int)))]) (pc := 74) hh dX4_finds_74 (by decide) rfl ?_
              refine jr_aload_n (pc := 76) hh 2 dX4_finds_76 rfl rfl ?_
              refine jr_get (v := .ref (h 16)) (pc := 77) hh in_X4_finds_X4 0 rfl rfl 15 (by decide) (by decide +kernel : Cond.fieldLink RX4 57 (TX4 15).1 (TX4 15).2.1 (TX4 15).2.2.1 ∈ wsX4_finds) rfl dX4_finds_77 ?_
              refine jr_iload (pc := 80) hh 7 dX4_finds_80 rfl ?_
              refine jr_iload (pc := 82) hh 1 dX4_finds_82 rfl ?_
              refine jr_if_eq (tgt := 102) (pc := 84) hh dX4_finds_84 (by decide) ⟨by omega, by omega⟩ (fun c13 => ?_) (fun c13 => ?_)
              · try (exfalso; omega)
                all_goals
                  refine jr_iload (pc := 102) hh 0 dX4_finds_102 rfl ?_
                  refine jr_if_eq (tgt := 120) (pc := 104) hh dX4_finds_104 (by decide) ⟨by omega, by omega⟩ (fun c14 => ?_) (fun c14 => ?_)
                  · try (exfalso; omega)
                    all_goals
                      refine jr_lconst (z := 0) (pc := 120) hh dX4_finds_120 (by decide) ?_
                      have hn := hnC (by omega) (by omega)
                      have hin1 := hin (F 2 k).toNat (by omega)
                      have hin2 := hin (F 3 k).toNat (by omega)
                      unfold cmbI at hn
                      have hP : ((1 : Int) = 0 ∧ (0 : Int) = 0 ∧ enc (nmM F V s0 t b k) = -1000000000) ∨ ((1 : Int) = 1 ∧ (-100000000000000000 ≤ (0 : Int) ∧ (0 : Int) ≤ 100000000000000000) ∧ enc (nmM F V s0 t b k) = (if -99999999 ≤ (0 : Int) ∧ (0 : Int) ≤ 99999999 then (0 : Int) else -1000000000)) := by omega
                      refine jr_loc (lv' := [(7, .int (iI 1)), (6, .int (iI ((F 12) (k * 12 + t)))), (0, .ref (h 0)), (1, .int (iI (s0 : Int))), (2, .int (iI (i : Int))), (3, .int (iI (t : Int))), (4, .int (iI (b : Int))), (5, .int (iI (k : Int)))]) [0, 1, 2, 3, 4, 5, 6, 7] rfl ?_
                      exact cut121 (0, 1) hP
                  · try (exfalso; omega)
                    all_goals
                      refine jr_aload_n (pc := 107) hh 2 dX4_finds_107 rfl rfl ?_
                      refine jr_iload (pc := 108) hh 7 dX4_finds_108 rfl ?_
                      refine jr_iload_n (pc := 110) hh 3 dX4_finds_110 rfl rfl ?_
                      refine jr_iload_n (pc := 111) hh 5 dX4_finds_111 rfl rfl ?_
                      refine jr_iload (pc := 112) hh 6 dX4_finds_112 rfl ?_
                      have hfdk : F 1 k ≠ 100 → (-99999999 ≤ fnd (F 2 k).toNat ∧ fnd (F 2 k).toNat ≤ 99999999) ∧ (-99999999 ≤ fnd (F 3 k).toNat ∧ fnd (F 3 k).toNat ≤ 99999999) := by
                        intro q
                        have hLq := hLi.2.2 q
                        have hi1 := hin (F 2 k).toNat (by omega)
                        have hi2 := hin (F 3 k).toNat (by omega)
                        have hb1 := enc_or (nmM_B hk (s := s0) (t := t) (b := b) (i := (F 2 k).toNat) (by omega) ht)
                        have hb2 := enc_or (nmM_B hk (s := s0) (t := t) (b := b) (i := (F 3 k).toNat) (by omega) ht)
                        have he1 := hi1.2 (by omega)
                        have he2 := hi2.2 (by omega)
                        omega
                      refine jr_callV (pc := 114) hh [.int (iI (k : Int)), .int (iI (s0 : Int)), .int (iI (t : Int)), .int (iI (b : Int))] [.int (iI (k : Int)), .ref (h 16)] (c_X4_byKind l G h (uF F 13 isf) V fnd k s0 t b hk hs (by omega) ht hb hfdk) gX4_finds_X4_byKind rfl (by decide) (by decide) [0, 1, 2, 3, 4, 5, 6, 7, 8, 9, 10, 11, 12, 13, 14, 15, 16] [] rfl rfl rfl rfl (by decide) 0 rfl rfl 4 rfl rfl (Nat.le_of_ble_eq_true rfl) (by decide +kernel) dX4_finds_114 (fun rvu15 wu15 hu15 => ?_)
                      obtain ⟨rfl, rfl⟩ := hu15
                      refine jr_perm (ws' := (wM G h (uF F 13 isf) V fnd)) (st := [.long (lI (bkM (uF F 13 isf) V fnd s0 t b k)), .int (iI (k : Int)), .ref (h 16)]) [0, 1, 2, 3, 4, 5, 6, 7, 8, 9, 10, 11, 12, 13, 14, 15, 16] rfl rfl ?_
                      refine jr_goto (tgt := 121) (pc := 117) hh dX4_finds_117 (by decide) ?_
                      have hz : (bkM (uF F 13 isf) V fnd s0 t b k) = if F 1 k = 100 then valM F V s0 (F 2 k).toNat t b else opC (F 1 k) (fnd (F 2 k).toNat) (fnd (F 3 k).toNat) := rfl
                      have hP : ((1 : Int) = 0 ∧ ((bkM (uF F 13 isf) V fnd s0 t b k) : Int) = 0 ∧ enc (nmM F V s0 t b k) = -1000000000) ∨ ((1 : Int) = 1 ∧ (-100000000000000000 ≤ ((bkM (uF F 13 isf) V fnd s0 t b k) : Int) ∧ ((bkM (uF F 13 isf) V fnd s0 t b k) : Int) ≤ 100000000000000000) ∧ enc (nmM F V s0 t b k) = (if -99999999 ≤ ((bkM (uF F 13 isf) V fnd s0 t b k) : Int) ∧ ((bkM (uF F 13 isf) V fnd s0 t b k) : Int) ≤ 99999999 then ((bkM (uF F 13 isf) V fnd s0 t b k) : Int) else -1000000000)) := by
                        by_cases q : F 1 k = 100
                        · have hn := hnD (by omega) q
                          have hone := hLi.2.1 q
                          have hvb := valM_B hk (s := s0) (t := t) (b := b) (d := (F 2 k).toNat) (n := (V 4).toNat) (by omega) (by omega)
                          rw [if_pos q] at hz
                          unfold valM at hn hz
                          omega
                        · have hn := hnC (by omega) q
                          have hLq := hLi.2.2 q
                          have hin1 := hin (F 2 k).toNat (by omega)
                          have hin2 := hin (F 3 k).toNat (by omega)
                          have he1 : fnd (F 2 k).toNat = enc (nmM F V s0 t b (F 2 k).toNat) := hin1.2 (by omega)
                          have he2 : fnd (F 3 k).toNat = enc (nmM F V s0 t b (F 3 k).toNat) := hin2.2 (by omega)
                          have hb1 := enc_or (nmM_B hk (s := s0) (t := t) (b := b) (i := (F 2 k).toNat) (by omega) ht)
                          have hb2 := enc_or (nmM_B hk (s := s0) (t := t) (b := b) (i := (F 3 k).toNat) (by omega) ht)
                          rw [if_neg q] at hz
                          rw [← he1, ← he2] at hn
                          have hob := opC_B (kd := F 1 k) (a := fnd (F 2 k).toNat) (b := fnd (F 3 k).toNat) (by omega) (by omega)
                          unfold cmbI at hn
                          omega
                      refine jr_loc (lv' := [(7, .int (iI 1)), (6, .int (iI ((F 12) (k * 12 + t)))), (0, .ref (h 0)), (1, .int (iI (s0 : Int))), (2, .int (iI (i : Int))), (3, .int (iI (t : Int))), (4, .int (iI (b : Int))), (5, .int (iI (k : Int)))]) [0, 1, 2, 3, 4, 5, 6, 7] rfl ?_
                      exact cut121 ((bkM (uF F 13 isf) V fnd s0 t b k), 1) hP
              · try (exfalso; omega)
                all_goals
                  refine jr_aload_n (pc := 87) hh 2 dX4_finds_87 rfl rfl ?_
                  refine jr_get (v := .ref (h 10)) (pc := 88) hh in_X4_finds_X4 0 rfl rfl 9 (by decide) (by decide +kernel : Cond.fieldLink RX4 37 (TX4 9).1 (TX4 9).2.1 (TX4 9).2.2.1 ∈ wsX4_finds) rfl dX4_finds_88 ?_
                  refine jr_iload (pc := 91) hh 7 dX4_finds_91 rfl ?_
                  refine jr_iload_n (pc := 93) hh 5 dX4_finds_93 rfl rfl ?_
                  refine jr_callS (pc := 94) hh [.int (iI (k : Int)), .int (iI (t : Int))] [.ref (h 10), .int (iI (k : Int)), .ref (h 16)] (c_X4_at l G k t) gX4_finds_X4_at rfl (by decide) (by decide) [] [0, 1, 2, 3, 4, 5, 6, 7, 8, 9, 10, 11, 12, 13, 14, 15, 16] rfl rfl rfl rfl (by decide) 2 rfl rfl (Nat.le_of_ble_eq_true rfl) (by decide +kernel) dX4_finds_94 (fun rvu16 wu16 hu16 => ?_)
                  obtain ⟨rfl, rfl⟩ := hu16
                  refine jr_perm (ws' := (wM G h (uF F 13 isf) V fnd)) (st := [.int (iI ((k * 12 + t : Nat) : Int)), .ref (h 10), .int (iI (k : Int)), .ref (h 16)]) [0, 1, 2, 3, 4, 5, 6, 7, 8, 9, 10, 11, 12, 13, 14, 15, 16] rfl rfl ?_
                  refine jr_iald (F := (F 9)) (pc := 97) hh 10 rfl (k * 12 + t) (by omega) (by omega) (by decide) dX4_finds_97 ?_
                  refine jr_i2l (pc := 98) hh dX4_finds_98 ⟨by omega, by omega⟩ ?_
                  refine jr_goto (tgt := 121) (pc := 99) hh dX4_finds_99 (by decide) ?_
                  have hn := hnA (by omega)
                  have hP : ((1 : Int) = 0 ∧ (((F 9) (k * 12 + t)) : Int) = 0 ∧ enc (nmM F V s0 t b k) = -1000000000) ∨ ((1 : Int) = 1 ∧ (-100000000000000000 ≤ (((F 9) (k * 12 + t)) : Int) ∧ (((F 9) (k * 12 + t)) : Int) ≤ 100000000000000000) ∧ enc (nmM F V s0 t b k) = (if -99999999 ≤ (((F 9) (k * 12 + t)) : Int) ∧ (((F 9) (k * 12 + t)) : Int) ≤ 99999999 then (((F 9) (k * 12 + t)) : Int) else -1000000000)) := by omega
                  refine jr_loc (lv' := [(7, .int (iI 1)), (6, .int (iI ((F 12) (k * 12 + t)))), (0, .ref (h 0)), (1, .int (iI (s0 : Int))), (2, .int (iI (i : Int))), (3, .int (iI (t : Int))), (4, .int (iI (b : Int))), (5, .int (iI (k : Int)))]) [0, 1, 2, 3, 4, 5, 6, 7] rfl ?_
                  exact cut121 (((F 9) (k * 12 + t)), 1) hP
          · try (exfalso; omega)
            all_goals
              have hLq := hLi.2.2 (by omega)
              have hi1 := hin (F 2 k).toNat (by omega)
              have hi2 := hin (F 3 k).toNat (by omega)
              refine jr_aload_n (pc := 39) hh 1 dX4_finds_39 rfl rfl ?_
              refine jr_get (v := .ref (h 14)) (pc := 40) hh in_X4_finds_X4 0 rfl rfl 13 (by decide) (by decide +kernel : Cond.fieldLink RX4 50 (TX4 13).1 (TX4 13).2.1 (TX4 13).2.2.1 ∈ wsX4_finds) rfl dX4_finds_40 ?_
              refine jr_aload_n (pc := 43) hh 1 dX4_finds_43 rfl rfl ?_
              refine jr_get (v := .ref (h 3)) (pc := 44) hh in_X4_finds_X4 0 rfl rfl 2 (by decide) (by decide +kernel : Cond.fieldLink RX4 16 (TX4 2).1 (TX4 2).2.1 (TX4 2).2.2.1 ∈ wsX4_finds) rfl dX4_finds_44 ?_
              refine jr_iload (pc := 47) hh 6 dX4_finds_47 rfl ?_
              refine jr_iald (F := (F 2)) (pc := 49) hh 3 rfl k (by omega) (by omega) (by decide) dX4_finds_49 ?_
              refine jr_zald (F := isf) (pc := 50) hh 14 rfl (((F 2) k).toNat) (by omega) (by omega) (by decide) dX4_finds_50 ?_
              refine jr_if_eq (tgt := 73) (pc := 51) hh dX4_finds_51 (by decide) ⟨by omega, by omega⟩ (fun c17 => ?_) (fun c17 => ?_)
              · try (exfalso; omega)
                all_goals
                  refine jr_iconst (pc := 73) hh dX4_finds_73 ?_
                  refine jr_istore (lv' := [(7, .int (iI 0)), (6, .int (iI ((F 12) (k * 12 + t)))), (0, .ref (h 0)), (1, .int (iI (s0 : Int))), (2, .int (iI (i : Int))), (3, .int (iI (t : Int))), (4, .int (iI (b : Int))), (5, .int (iI (k : Int)))]) (pc := 74) hh dX4_finds_74 (by decide) rfl ?_
                  refine jr_aload_n (pc := 76) hh 2 dX4_finds_76 rfl rfl ?_
                  refine jr_get (v := .ref (h 16)) (pc := 77) hh in_X4_finds_X4 0 rfl rfl 15 (by decide) (by decide +kernel : Cond.fieldLink RX4 57 (TX4 15).1 (TX4 15).2.1 (TX4 15).2.2.1 ∈ wsX4_finds) rfl dX4_finds_77 ?_
                  refine jr_iload (pc := 80) hh 7 dX4_finds_80 rfl ?_
                  refine jr_iload (pc := 82) hh 1 dX4_finds_82 rfl ?_
                  refine jr_if_eq (tgt := 102) (pc := 84) hh dX4_finds_84 (by decide) ⟨by omega, by omega⟩ (fun c18 => ?_) (fun c18 => ?_)
                  · try (exfalso; omega)
                    all_goals
                      refine jr_iload (pc := 102) hh 0 dX4_finds_102 rfl ?_
                      refine jr_if_eq (tgt := 120) (pc := 104) hh dX4_finds_104 (by decide) ⟨by omega, by omega⟩ (fun c19 => ?_) (fun c19 => ?_)
                      · try (exfalso; omega)
                        all_goals
                          refine jr_lconst (z := 0) (pc := 120) hh dX4_finds_120 (by decide) ?_
                          have hn := hnC (by omega) (by omega)
                          have hin1 := hin (F 2 k).toNat (by omega)
                          have hin2 := hin (F 3 k).toNat (by omega)
                          unfold cmbI at hn
                          have hP : ((0 : Int) = 0 ∧ (0 : Int) = 0 ∧ enc (nmM F V s0 t b k) = -1000000000) ∨ ((0 : Int) = 1 ∧ (-100000000000000000 ≤ (0 : Int) ∧ (0 : Int) ≤ 100000000000000000) ∧ enc (nmM F V s0 t b k) = (if -99999999 ≤ (0 : Int) ∧ (0 : Int) ≤ 99999999 then (0 : Int) else -1000000000)) := by omega
                          refine jr_loc (lv' := [(7, .int (iI 0)), (6, .int (iI ((F 12) (k * 12 + t)))), (0, .ref (h 0)), (1, .int (iI (s0 : Int))), (2, .int (iI (i : Int))), (3, .int (iI (t : Int))), (4, .int (iI (b : Int))), (5, .int (iI (k : Int)))]) [0, 1, 2, 3, 4, 5, 6, 7] rfl ?_
                          exact cut121 (0, 0) hP
                      · try (exfalso; omega)
                        all_goals
                          refine jr_aload_n (pc := 107) hh 2 dX4_finds_107 rfl rfl ?_
                          refine jr_iload (pc := 108) hh 7 dX4_finds_108 rfl ?_
                          refine jr_iload_n (pc := 110) hh 3 dX4_finds_110 rfl rfl ?_
                          refine jr_iload_n (pc := 111) hh 5 dX4_finds_111 rfl rfl ?_
                          refine jr_iload (pc := 112) hh 6 dX4_finds_112 rfl ?_
                          have hfdk : F 1 k ≠ 100 → (-99999999 ≤ fnd (F 2 k).toNat ∧ fnd (F 2 k).toNat ≤ 99999999) ∧ (-99999999 ≤ fnd (F 3 k).toNat ∧ fnd (F 3 k).toNat ≤ 99999999) := by
                            intro q
                            have hLq := hLi.2.2 q
                            have hi1 := hin (F 2 k).toNat (by omega)
                            have hi2 := hin (F 3 k).toNat (by omega)
                            have hb1 := enc_or (nmM_B hk (s := s0) (t := t) (b := b) (i := (F 2 k).toNat) (by omega) ht)
                            have hb2 := enc_or (nmM_B hk (s := s0) (t := t) (b := b) (i := (F 3 k).toNat) (by omega) ht)
                            have he1 := hi1.2 (by omega)
                            have he2 := hi2.2 (by omega)
                            omega
                          refine jr_callV (pc := 114) hh [.int (iI (k : Int)), .int (iI (s0 : Int)), .int (iI (t : Int)), .int (iI (b : Int))] [.int (iI (k : Int)), .ref (h 16)] (c_X4_byKind l G h (uF F 13 isf) V fnd k s0 t b hk hs (by omega) ht hb hfdk) gX4_finds_X4_byKind rfl (by decide) (by decide) [0, 1, 2, 3, 4, 5, 6, 7, 8, 9, 10, 11, 12, 13, 14, 15, 16] [] rfl rfl rfl rfl (by decide) 0 rfl rfl 4 rfl rfl (Nat.le_of_ble_eq_true rfl) (by decide +kernel) dX4_finds_114 (fun rvu20 wu20 hu20 => ?_)
                          obtain ⟨rfl, rfl⟩ := hu20
                          refine jr_perm (ws' := (wM G h (uF F 13 isf) V fnd)) (st := [.long (lI (bkM (uF F 13 isf) V fnd s0 t b k)), .int (iI (k : Int)), .ref (h 16)]) [0, 1, 2, 3, 4, 5, 6, 7, 8, 9, 10, 11, 12, 13, 14, 15, 16] rfl rfl ?_
                          refine jr_goto (tgt := 121) (pc := 117) hh dX4_finds_117 (by decide) ?_
                          have hz : (bkM (uF F 13 isf) V fnd s0 t b k) = if F 1 k = 100 then valM F V s0 (F 2 k).toNat t b else opC (F 1 k) (fnd (F 2 k).toNat) (fnd (F 3 k).toNat) := rfl
                          have hP : ((0 : Int) = 0 ∧ ((bkM (uF F 13 isf) V fnd s0 t b k) : Int) = 0 ∧ enc (nmM F V s0 t b k) = -1000000000) ∨ ((0 : Int) = 1 ∧ (-100000000000000000 ≤ ((bkM (uF F 13 isf) V fnd s0 t b k) : Int) ∧ ((bkM (uF F 13 isf) V fnd s0 t b k) : Int) ≤ 100000000000000000) ∧ enc (nmM F V s0 t b k) = (if -99999999 ≤ ((bkM (uF F 13 isf) V fnd s0 t b k) : Int) ∧ ((bkM (uF F 13 isf) V fnd s0 t b k) : Int) ≤ 99999999 then ((bkM (uF F 13 isf) V fnd s0 t b k) : Int) else -1000000000)) := by
                            by_cases q : F 1 k = 100
                            · have hn := hnD (by omega) q
                              have hone := hLi.2.1 q
                              have hvb := valM_B hk (s := s0) (t := t) (b := b) (d := (F 2 k).toNat) (n := (V 4).toNat) (by omega) (by omega)
                              rw [if_pos q] at hz
                              unfold valM at hn hz
                              omega
                            · have hn := hnC (by omega) q
                              have hLq := hLi.2.2 q
                              have hin1 := hin (F 2 k).toNat (by omega)
                              have hin2 := hin (F 3 k).toNat (by omega)
                              have he1 : fnd (F 2 k).toNat = enc (nmM F V s0 t b (F 2 k).toNat) := hin1.2 (by omega)
                              have he2 : fnd (F 3 k).toNat = enc (nmM F V s0 t b (F 3 k).toNat) := hin2.2 (by omega)
                              have hb1 := enc_or (nmM_B hk (s := s0) (t := t) (b := b) (i := (F 2 k).toNat) (by omega) ht)
                              have hb2 := enc_or (nmM_B hk (s := s0) (t := t) (b := b) (i := (F 3 k).toNat) (by omega) ht)
                              rw [if_neg q] at hz
                              rw [← he1, ← he2] at hn
                              have hob := opC_B (kd := F 1 k) (a := fnd (F 2 k).toNat) (b := fnd (F 3 k).toNat) (by omega) (by omega)
                              unfold cmbI at hn
                              omega
                          refine jr_loc (lv' := [(7, .int (iI 0)), (6, .int (iI ((F 12) (k * 12 + t)))), (0, .ref (h 0)), (1, .int (iI (s0 : Int))), (2, .int (iI (i : Int))), (3, .int (iI (t : Int))), (4, .int (iI (b : Int))), (5, .int (iI (k : Int)))]) [0, 1, 2, 3, 4, 5, 6, 7] rfl ?_
                          exact cut121 ((bkM (uF F 13 isf) V fnd s0 t b k), 0) hP
                  · try (exfalso; omega)
                    all_goals
                      refine jr_aload_n (pc := 87) hh 2 dX4_finds_87 rfl rfl ?_
                      refine jr_get (v := .ref (h 10)) (pc := 88) hh in_X4_finds_X4 0 rfl rfl 9 (by decide) (by decide +kernel : Cond.fieldLink RX4 37 (TX4 9).1 (TX4 9).2.1 (TX4 9).2.2.1 ∈ wsX4_finds) rfl dX4_finds_88 ?_
                      refine jr_iload (pc := 91) hh 7 dX4_finds_91 rfl ?_
                      refine jr_iload_n (pc := 93) hh 5 dX4_finds_93 rfl rfl ?_
                      refine jr_callS (pc := 94) hh [.int (iI (k : Int)), .int (iI (t : Int))] [.ref (h 10), .int (iI (k : Int)), .ref (h 16)] (c_X4_at l G k t) gX4_finds_X4_at rfl (by decide) (by decide) [] [0, 1, 2, 3, 4, 5, 6, 7, 8, 9, 10, 11, 12, 13, 14, 15, 16] rfl rfl rfl rfl (by decide) 2 rfl rfl (Nat.le_of_ble_eq_true rfl) (by decide +kernel) dX4_finds_94 (fun rvu21 wu21 hu21 => ?_)
                      obtain ⟨rfl, rfl⟩ := hu21
                      refine jr_perm (ws' := (wM G h (uF F 13 isf) V fnd)) (st := [.int (iI ((k * 12 + t : Nat) : Int)), .ref (h 10), .int (iI (k : Int)), .ref (h 16)]) [0, 1, 2, 3, 4, 5, 6, 7, 8, 9, 10, 11, 12, 13, 14, 15, 16] rfl rfl ?_
                      refine jr_iald (F := (F 9)) (pc := 97) hh 10 rfl (k * 12 + t) (by omega) (by omega) (by decide) dX4_finds_97 ?_
                      refine jr_i2l (pc := 98) hh dX4_finds_98 ⟨by omega, by omega⟩ ?_
                      refine jr_goto (tgt := 121) (pc := 99) hh dX4_finds_99 (by decide) ?_
                      have hn := hnA (by omega)
                      have hP : ((0 : Int) = 0 ∧ (((F 9) (k * 12 + t)) : Int) = 0 ∧ enc (nmM F V s0 t b k) = -1000000000) ∨ ((0 : Int) = 1 ∧ (-100000000000000000 ≤ (((F 9) (k * 12 + t)) : Int) ∧ (((F 9) (k * 12 + t)) : Int) ≤ 100000000000000000) ∧ enc (nmM F V s0 t b k) = (if -99999999 ≤ (((F 9) (k * 12 + t)) : Int) ∧ (((F 9) (k * 12 + t)) : Int) ≤ 99999999 then (((F 9) (k * 12 + t)) : Int) else -1000000000)) := by omega
                      refine jr_loc (lv' := [(7, .int (iI 0)), (6, .int (iI ((F 12) (k * 12 + t)))), (0, .ref (h 0)), (1, .int (iI (s0 : Int))), (2, .int (iI (i : Int))), (3, .int (iI (t : Int))), (4, .int (iI (b : Int))), (5, .int (iI (k : Int)))]) [0, 1, 2, 3, 4, 5, 6, 7] rfl ?_
                      exact cut121 (((F 9) (k * 12 + t)), 0) hP
              · try (exfalso; omega)
                all_goals
                  refine jr_aload_n (pc := 54) hh 1 dX4_finds_54 rfl rfl ?_
                  refine jr_get (v := .ref (h 14)) (pc := 55) hh in_X4_finds_X4 0 rfl rfl 13 (by decide) (by decide +kernel : Cond.fieldLink RX4 50 (TX4 13).1 (TX4 13).2.1 (TX4 13).2.2.1 ∈ wsX4_finds) rfl dX4_finds_55 ?_
                  refine jr_aload_n (pc := 58) hh 1 dX4_finds_58 rfl rfl ?_
                  refine jr_get (v := .ref (h 4)) (pc := 59) hh in_X4_finds_X4 0 rfl rfl 3 (by decide) (by decide +kernel : Cond.fieldLink RX4 19 (TX4 3).1 (TX4 3).2.1 (TX4 3).2.2.1 ∈ wsX4_finds) rfl dX4_finds_59 ?_
                  refine jr_iload (pc := 62) hh 6 dX4_finds_62 rfl ?_
                  refine jr_iald (F := (F 3)) (pc := 64) hh 4 rfl k (by omega) (by omega) (by decide) dX4_finds_64 ?_
                  refine jr_zald (F := isf) (pc := 65) hh 14 rfl (((F 3) k).toNat) (by omega) (by omega) (by decide) dX4_finds_65 ?_
                  refine jr_if_eq (tgt := 73) (pc := 66) hh dX4_finds_66 (by decide) ⟨by omega, by omega⟩ (fun c22 => ?_) (fun c22 => ?_)
                  · try (exfalso; omega)
                    all_goals
                      refine jr_iconst (pc := 73) hh dX4_finds_73 ?_
                      refine jr_istore (lv' := [(7, .int (iI 0)), (6, .int (iI ((F 12) (k * 12 + t)))), (0, .ref (h 0)), (1, .int (iI (s0 : Int))), (2, .int (iI (i : Int))), (3, .int (iI (t : Int))), (4, .int (iI (b : Int))), (5, .int (iI (k : Int)))]) (pc := 74) hh dX4_finds_74 (by decide) rfl ?_
                      refine jr_aload_n (pc := 76) hh 2 dX4_finds_76 rfl rfl ?_
                      refine jr_get (v := .ref (h 16)) (pc := 77) hh in_X4_finds_X4 0 rfl rfl 15 (by decide) (by decide +kernel : Cond.fieldLink RX4 57 (TX4 15).1 (TX4 15).2.1 (TX4 15).2.2.1 ∈ wsX4_finds) rfl dX4_finds_77 ?_
                      refine jr_iload (pc := 80) hh 7 dX4_finds_80 rfl ?_
                      refine jr_iload (pc := 82) hh 1 dX4_finds_82 rfl ?_
                      refine jr_if_eq (tgt := 102) (pc := 84) hh dX4_finds_84 (by decide) ⟨by omega, by omega⟩ (fun c23 => ?_) (fun c23 => ?_)
                      · try (exfalso; omega)
                        all_goals
                          refine jr_iload (pc := 102) hh 0 dX4_finds_102 rfl ?_
                          refine jr_if_eq (tgt := 120) (pc := 104) hh dX4_finds_104 (by decide) ⟨by omega, by omega⟩ (fun c24 => ?_) (fun c24 => ?_)
                          · try (exfalso; omega)
                            all_goals
                              refine jr_lconst (z := 0) (pc := 120) hh dX4_finds_120 (by decide) ?_
                              have hn := hnC (by omega) (by omega)
                              have hin1 := hin (F 2 k).toNat (by omega)
                              have hin2 := hin (F 3 k).toNat (by omega)
                              unfold cmbI at hn
                              have hP : ((0 : Int) = 0 ∧ (0 : Int) = 0 ∧ enc (nmM F V s0 t b k) = -1000000000) ∨ ((0 : Int) = 1 ∧ (-100000000000000000 ≤ (0 : Int) ∧ (0 : Int) ≤ 100000000000000000) ∧ enc (nmM F V s0 t b k) = (if -99999999 ≤ (0 : Int) ∧ (0 : Int) ≤ 99999999 then (0 : Int) else -1000000000)) := by omega
                              refine jr_loc (lv' := [(7, .int (iI 0)), (6, .int (iI ((F 12) (k * 12 + t)))), (0, .ref (h 0)), (1, .int (iI (s0 : Int))), (2, .int (iI (i : Int))), (3, .int (iI (t : Int))), (4, .int (iI (b : Int))), (5, .int (iI (k : Int)))]) [0, 1, 2, 3, 4, 5, 6, 7] rfl ?_
                              exact cut121 (0, 0) hP
                          · try (exfalso; omega)
                            all_goals
                              refine jr_aload_n (pc := 107) hh 2 dX4_finds_107 rfl rfl ?_
                              refine jr_iload (pc := 108) hh 7 dX4_finds_108 rfl ?_
                              refine jr_iload_n (pc := 110) hh 3 dX4_finds_110 rfl rfl ?_
                              refine jr_iload_n (pc := 111) hh 5 dX4_finds_111 rfl rfl ?_
                              refine jr_iload (pc := 112) hh 6 dX4_finds_112 rfl ?_
                              have hfdk : F 1 k ≠ 100 → (-99999999 ≤ fnd (F 2 k).toNat ∧ fnd (F 2 k).toNat ≤ 99999999) ∧ (-99999999 ≤ fnd (F 3 k).toNat ∧ fnd (F 3 k).toNat ≤ 99999999) := by
                                intro q
                                have hLq := hLi.2.2 q
                                have hi1 := hin (F 2 k).toNat (by omega)
                                have hi2 := hin (F 3 k).toNat (by omega)
                                have hb1 := enc_or (nmM_B hk (s := s0) (t := t) (b := b) (i := (F 2 k).toNat) (by omega) ht)
                                have hb2 := enc_or (nmM_B hk (s := s0) (t := t) (b := b) (i := (F 3 k).toNat) (by omega) ht)
                                have he1 := hi1.2 (by omega)
                                have he2 := hi2.2 (by omega)
                                omega
                              refine jr_callV (pc := 114) hh [.int (iI (k : Int)), .int (iI (s0 : Int)), .int (iI (t : Int)), .int (iI (b : Int))] [.int (iI (k : Int)), .ref (h 16)] (c_X4_byKind l G h (uF F 13 isf) V fnd k s0 t b hk hs (by omega) ht hb hfdk) gX4_finds_X4_byKind rfl (by decide) (by decide) [0, 1, 2, 3, 4, 5, 6, 7, 8, 9, 10, 11, 12, 13, 14, 15, 16] [] rfl rfl rfl rfl (by decide) 0 rfl rfl 4 rfl rfl (Nat.le_of_ble_eq_true rfl) (by decide +kernel) dX4_finds_114 (fun rvu25 wu25 hu25 => ?_)
                              obtain ⟨rfl, rfl⟩ := hu25
                              refine jr_perm (ws' := (wM G h (uF F 13 isf) V fnd)) (st := [.long (lI (bkM (uF F 13 isf) V fnd s0 t b k)), .int (iI (k : Int)), .ref (h 16)]) [0, 1, 2, 3, 4, 5, 6, 7, 8, 9, 10, 11, 12, 13, 14, 15, 16] rfl rfl ?_
                              refine jr_goto (tgt := 121) (pc := 117) hh dX4_finds_117 (by decide) ?_
                              have hz : (bkM (uF F 13 isf) V fnd s0 t b k) = if F 1 k = 100 then valM F V s0 (F 2 k).toNat t b else opC (F 1 k) (fnd (F 2 k).toNat) (fnd (F 3 k).toNat) := rfl
                              have hP : ((0 : Int) = 0 ∧ ((bkM (uF F 13 isf) V fnd s0 t b k) : Int) = 0 ∧ enc (nmM F V s0 t b k) = -1000000000) ∨ ((0 : Int) = 1 ∧ (-100000000000000000 ≤ ((bkM (uF F 13 isf) V fnd s0 t b k) : Int) ∧ ((bkM (uF F 13 isf) V fnd s0 t b k) : Int) ≤ 100000000000000000) ∧ enc (nmM F V s0 t b k) = (if -99999999 ≤ ((bkM (uF F 13 isf) V fnd s0 t b k) : Int) ∧ ((bkM (uF F 13 isf) V fnd s0 t b k) : Int) ≤ 99999999 then ((bkM (uF F 13 isf) V fnd s0 t b k) : Int) else -1000000000)) := by
                                by_cases q : F 1 k = 100
                                · have hn := hnD (by omega) q
                                  have hone := hLi.2.1 q
                                  have hvb := valM_B hk (s := s0) (t := t) (b := b) (d := (F 2 k).toNat) (n := (V 4).toNat) (by omega) (by omega)
                                  rw [if_pos q] at hz
                                  unfold valM at hn hz
                                  omega
                                · have hn := hnC (by omega) q
                                  have hLq := hLi.2.2 q
                                  have hin1 := hin (F 2 k).toNat (by omega)
                                  have hin2 := hin (F 3 k).toNat (by omega)
                                  have he1 : fnd (F 2 k).toNat = enc (nmM F V s0 t b (F 2 k).toNat) := hin1.2 (by omega)
                                  have he2 : fnd (F 3 k).toNat = enc (nmM F V s0 t b (F 3 k).toNat) := hin2.2 (by omega)
                                  have hb1 := enc_or (nmM_B hk (s := s0) (t := t) (b := b) (i := (F 2 k).toNat) (by omega) ht)
                                  have hb2 := enc_or (nmM_B hk (s := s0) (t := t) (b := b) (i := (F 3 k).toNat) (by omega) ht)
                                  rw [if_neg q] at hz
                                  rw [← he1, ← he2] at hn
                                  have hob := opC_B (kd := F 1 k) (a := fnd (F 2 k).toNat) (b := fnd (F 3 k).toNat) (by omega) (by omega)
                                  unfold cmbI at hn
                                  omega
                              refine jr_loc (lv' := [(7, .int (iI 0)), (6, .int (iI ((F 12) (k * 12 + t)))), (0, .ref (h 0)), (1, .int (iI (s0 : Int))), (2, .int (iI (i : Int))), (3, .int (iI (t : Int))), (4, .int (iI (b : Int))), (5, .int (iI (k : Int)))]) [0, 1, 2, 3, 4, 5, 6, 7] rfl ?_
                              exact cut121 ((bkM (uF F 13 isf) V fnd s0 t b k), 0) hP
                      · try (exfalso; omega)
                        all_goals
                          refine jr_aload_n (pc := 87) hh 2 dX4_finds_87 rfl rfl ?_
                          refine jr_get (v := .ref (h 10)) (pc := 88) hh in_X4_finds_X4 0 rfl rfl 9 (by decide) (by decide +kernel : Cond.fieldLink RX4 37 (TX4 9).1 (TX4 9).2.1 (TX4 9).2.2.1 ∈ wsX4_finds) rfl dX4_finds_88 ?_
                          refine jr_iload (pc := 91) hh 7 dX4_finds_91 rfl ?_
                          refine jr_iload_n (pc := 93) hh 5 dX4_finds_93 rfl rfl ?_
                          refine jr_callS (pc := 94) hh [.int (iI (k : Int)), .int (iI (t : Int))] [.ref (h 10), .int (iI (k : Int)), .ref (h 16)] (c_X4_at l G k t) gX4_finds_X4_at rfl (by decide) (by decide) [] [0, 1, 2, 3, 4, 5, 6, 7, 8, 9, 10, 11, 12, 13, 14, 15, 16] rfl rfl rfl rfl (by decide) 2 rfl rfl (Nat.le_of_ble_eq_true rfl) (by decide +kernel) dX4_finds_94 (fun rvu26 wu26 hu26 => ?_)
                          obtain ⟨rfl, rfl⟩ := hu26
                          refine jr_perm (ws' := (wM G h (uF F 13 isf) V fnd)) (st := [.int (iI ((k * 12 + t : Nat) : Int)), .ref (h 10), .int (iI (k : Int)), .ref (h 16)]) [0, 1, 2, 3, 4, 5, 6, 7, 8, 9, 10, 11, 12, 13, 14, 15, 16] rfl rfl ?_
                          refine jr_iald (F := (F 9)) (pc := 97) hh 10 rfl (k * 12 + t) (by omega) (by omega) (by decide) dX4_finds_97 ?_
                          refine jr_i2l (pc := 98) hh dX4_finds_98 ⟨by omega, by omega⟩ ?_
                          refine jr_goto (tgt := 121) (pc := 99) hh dX4_finds_99 (by decide) ?_
                          have hn := hnA (by omega)
                          have hP : ((0 : Int) = 0 ∧ (((F 9) (k * 12 + t)) : Int) = 0 ∧ enc (nmM F V s0 t b k) = -1000000000) ∨ ((0 : Int) = 1 ∧ (-100000000000000000 ≤ (((F 9) (k * 12 + t)) : Int) ∧ (((F 9) (k * 12 + t)) : Int) ≤ 100000000000000000) ∧ enc (nmM F V s0 t b k) = (if -99999999 ≤ (((F 9) (k * 12 + t)) : Int) ∧ (((F 9) (k * 12 + t)) : Int) ≤ 99999999 then (((F 9) (k * 12 + t)) : Int) else -1000000000)) := by omega
                          refine jr_loc (lv' := [(7, .int (iI 0)), (6, .int (iI ((F 12) (k * 12 + t)))), (0, .ref (h 0)), (1, .int (iI (s0 : Int))), (2, .int (iI (i : Int))), (3, .int (iI (t : Int))), (4, .int (iI (b : Int))), (5, .int (iI (k : Int)))]) [0, 1, 2, 3, 4, 5, 6, 7] rfl ?_
                          exact cut121 (((F 9) (k * 12 + t)), 0) hP
                  · try (exfalso; omega)
                    all_goals
                      refine jr_iconst (pc := 69) hh dX4_finds_69 ?_
                      refine jr_goto (tgt := 74) (pc := 70) hh dX4_finds_70 (by decide) ?_
                      refine jr_istore (lv' := [(7, .int (iI 1)), (6, .int (iI ((F 12) (k * 12 + t)))), (0, .ref (h 0)), (1, .int (iI (s0 : Int))), (2, .int (iI (i : Int))), (3, .int (iI (t : Int))), (4, .int (iI (b : Int))), (5, .int (iI (k : Int)))]) (pc := 74) hh dX4_finds_74 (by decide) rfl ?_
                      refine jr_aload_n (pc := 76) hh 2 dX4_finds_76 rfl rfl ?_
                      refine jr_get (v := .ref (h 16)) (pc := 77) hh in_X4_finds_X4 0 rfl rfl 15 (by decide) (by decide +kernel : Cond.fieldLink RX4 57 (TX4 15).1 (TX4 15).2.1 (TX4 15).2.2.1 ∈ wsX4_finds) rfl dX4_finds_77 ?_
                      refine jr_iload (pc := 80) hh 7 dX4_finds_80 rfl ?_
                      refine jr_iload (pc := 82) hh 1 dX4_finds_82 rfl ?_
                      refine jr_if_eq (tgt := 102) (pc := 84) hh dX4_finds_84 (by decide) ⟨by omega, by omega⟩ (fun c27 => ?_) (fun c27 => ?_)
                      · try (exfalso; omega)
                        all_goals
                          refine jr_iload (pc := 102) hh 0 dX4_finds_102 rfl ?_
                          refine jr_if_eq (tgt := 120) (pc := 104) hh dX4_finds_104 (by decide) ⟨by omega, by omega⟩ (fun c28 => ?_) (fun c28 => ?_)
                          · try (exfalso; omega)
                            all_goals
                              refine jr_lconst (z := 0) (pc := 120) hh dX4_finds_120 (by decide) ?_
                              have hn := hnC (by omega) (by omega)
                              have hin1 := hin (F 2 k).toNat (by omega)
                              have hin2 := hin (F 3 k).toNat (by omega)
                              unfold cmbI at hn
                              have hP : ((1 : Int) = 0 ∧ (0 : Int) = 0 ∧ enc (nmM F V s0 t b k) = -1000000000) ∨ ((1 : Int) = 1 ∧ (-100000000000000000 ≤ (0 : Int) ∧ (0 : Int) ≤ 100000000000000000) ∧ enc (nmM F V s0 t b k) = (if -99999999 ≤ (0 : Int) ∧ (0 : Int) ≤ 99999999 then (0 : Int) else -1000000000)) := by omega
                              refine jr_loc (lv' := [(7, .int (iI 1)), (6, .int (iI ((F 12) (k * 12 + t)))), (0, .ref (h 0)), (1, .int (iI (s0 : Int))), (2, .int (iI (i : Int))), (3, .int (iI (t : Int))), (4, .int (iI (b : Int))), (5, .int (iI (k : Int)))]) [0, 1, 2, 3, 4, 5, 6, 7] rfl ?_
                              exact cut121 (0, 1) hP
                          · try (exfalso; omega)
                            all_goals
                              refine jr_aload_n (pc := 107) hh 2 dX4_finds_107 rfl rfl ?_
                              refine jr_iload (pc := 108) hh 7 dX4_finds_108 rfl ?_
                              refine jr_iload_n (pc := 110) hh 3 dX4_finds_110 rfl rfl ?_
                              refine jr_iload_n (pc := 111) hh 5 dX4_finds_111 rfl rfl ?_
                              refine jr_iload (pc := 112) hh 6 dX4_finds_112 rfl ?_
                              have hfdk : F 1 k ≠ 100 → (-99999999 ≤ fnd (F 2 k).toNat ∧ fnd (F 2 k).toNat ≤ 99999999) ∧ (-99999999 ≤ fnd (F 3 k).toNat ∧ fnd (F 3 k).toNat ≤ 99999999) := by
                                intro q
                                have hLq := hLi.2.2 q
                                have hi1 := hin (F 2 k).toNat (by omega)
                                have hi2 := hin (F 3 k).toNat (by omega)
                                have hb1 := enc_or (nmM_B hk (s := s0) (t := t) (b := b) (i := (F 2 k).toNat) (by omega) ht)
                                have hb2 := enc_or (nmM_B hk (s := s0) (t := t) (b := b) (i := (F 3 k).toNat) (by omega) ht)
                                have he1 := hi1.2 (by omega)
                                have he2 := hi2.2 (by omega)
                                omega
                              refine jr_callV (pc := 114) hh [.int (iI (k : Int)), .int (iI (s0 : Int)), .int (iI (t : Int)), .int (iI (b : Int))] [.int (iI (k : Int)), .ref (h 16)] (c_X4_byKind l G h (uF F 13 isf) V fnd k s0 t b hk hs (by omega) ht hb hfdk) gX4_finds_X4_byKind rfl (by decide) (by decide) [0, 1, 2, 3, 4, 5, 6, 7, 8, 9, 10, 11, 12, 13, 14, 15, 16] [] rfl rfl rfl rfl (by decide) 0 rfl rfl 4 rfl rfl (Nat.le_of_ble_eq_true rfl) (by decide +kernel) dX4_finds_114 (fun rvu29 wu29 hu29 => ?_)
                              obtain ⟨rfl, rfl⟩ := hu29
                              refine jr_perm (ws' := (wM G h (uF F 13 isf) V fnd)) (st := [.long (lI (bkM (uF F 13 isf) V fnd s0 t b k)), .int (iI (k : Int)), .ref (h 16)]) [0, 1, 2, 3, 4, 5, 6, 7, 8, 9, 10, 11, 12, 13, 14, 15, 16] rfl rfl ?_
                              refine jr_goto (tgt := 121) (pc := 117) hh dX4_finds_117 (by decide) ?_
                              have hz : (bkM (uF F 13 isf) V fnd s0 t b k) = if F 1 k = 100 then valM F V s0 (F 2 k).toNat t b else opC (F 1 k) (fnd (F 2 k).toNat) (fnd (F 3 k).toNat) := rfl
                              have hP : ((1 : Int) = 0 ∧ ((bkM (uF F 13 isf) V fnd s0 t b k) : Int) = 0 ∧ enc (nmM F V s0 t b k) = -1000000000) ∨ ((1 : Int) = 1 ∧ (-100000000000000000 ≤ ((bkM (uF F 13 isf) V fnd s0 t b k) : Int) ∧ ((bkM (uF F 13 isf) V fnd s0 t b k) : Int) ≤ 100000000000000000) ∧ enc (nmM F V s0 t b k) = (if -99999999 ≤ ((bkM (uF F 13 isf) V fnd s0 t b k) : Int) ∧ ((bkM (uF F 13 isf) V fnd s0 t b k) : Int) ≤ 99999999 then ((bkM (uF F 13 isf) V fnd s0 t b k) : Int) else -1000000000)) := by
                                by_cases q : F 1 k = 100
                                · have hn := hnD (by omega) q
                                  have hone := hLi.2.1 q
                                  have hvb := valM_B hk (s := s0) (t := t) (b := b) (d := (F 2 k).toNat) (n := (V 4).toNat) (by omega) (by omega)
                                  rw [if_pos q] at hz
                                  unfold valM at hn hz
                                  omega
                                · have hn := hnC (by omega) q
                                  have hLq := hLi.2.2 q
                                  have hin1 := hin (F 2 k).toNat (by omega)
                                  have hin2 := hin (F 3 k).toNat (by omega)
                                  have he1 : fnd (F 2 k).toNat = enc (nmM F V s0 t b (F 2 k).toNat) := hin1.2 (by omega)
                                  have he2 : fnd (F 3 k).toNat = enc (nmM F V s0 t b (F 3 k).toNat) := hin2.2 (by omega)
                                  have hb1 := enc_or (nmM_B hk (s := s0) (t := t) (b := b) (i := (F 2 k).toNat) (by omega) ht)
                                  have hb2 := enc_or (nmM_B hk (s := s0) (t := t) (b := b) (i := (F 3 k).toNat) (by omega) ht)
                                  rw [if_neg q] at hz
                                  rw [← he1, ← he2] at hn
                                  have hob := opC_B (kd := F 1 k) (a := fnd (F 2 k).toNat) (b := fnd (F 3 k).toNat) (by omega) (by omega)
                                  unfold cmbI at hn
                                  omega
                              refine jr_loc (lv' := [(7, .int (iI 1)), (6, .int (iI ((F 12) (k * 12 + t)))), (0, .ref (h 0)), (1, .int (iI (s0 : Int))), (2, .int (iI (i : Int))), (3, .int (iI (t : Int))), (4, .int (iI (b : Int))), (5, .int (iI (k : Int)))]) [0, 1, 2, 3, 4, 5, 6, 7] rfl ?_
                              exact cut121 ((bkM (uF F 13 isf) V fnd s0 t b k), 1) hP
                      · try (exfalso; omega)
                        all_goals
                          refine jr_aload_n (pc := 87) hh 2 dX4_finds_87 rfl rfl ?_
                          refine jr_get (v := .ref (h 10)) (pc := 88) hh in_X4_finds_X4 0 rfl rfl 9 (by decide) (by decide +kernel : Cond.fieldLink RX4 37 (TX4 9).1 (TX4 9).2.1 (TX4 9).2.2.1 ∈ wsX4_finds) rfl dX4_finds_88 ?_
                          refine jr_iload (pc := 91) hh 7 dX4_finds_91 rfl ?_
                          refine jr_iload_n (pc := 93) hh 5 dX4_finds_93 rfl rfl ?_
                          refine jr_callS (pc := 94) hh [.int (iI (k : Int)), .int (iI (t : Int))] [.ref (h 10), .int (iI (k : Int)), .ref (h 16)] (c_X4_at l G k t) gX4_finds_X4_at rfl (by decide) (by decide) [] [0, 1, 2, 3, 4, 5, 6, 7, 8, 9, 10, 11, 12, 13, 14, 15, 16] rfl rfl rfl rfl (by decide) 2 rfl rfl (Nat.le_of_ble_eq_true rfl) (by decide +kernel) dX4_finds_94 (fun rvu30 wu30 hu30 => ?_)
                          obtain ⟨rfl, rfl⟩ := hu30
                          refine jr_perm (ws' := (wM G h (uF F 13 isf) V fnd)) (st := [.int (iI ((k * 12 + t : Nat) : Int)), .ref (h 10), .int (iI (k : Int)), .ref (h 16)]) [0, 1, 2, 3, 4, 5, 6, 7, 8, 9, 10, 11, 12, 13, 14, 15, 16] rfl rfl ?_
                          refine jr_iald (F := (F 9)) (pc := 97) hh 10 rfl (k * 12 + t) (by omega) (by omega) (by decide) dX4_finds_97 ?_
                          refine jr_i2l (pc := 98) hh dX4_finds_98 ⟨by omega, by omega⟩ ?_
                          refine jr_goto (tgt := 121) (pc := 99) hh dX4_finds_99 (by decide) ?_
                          have hn := hnA (by omega)
                          have hP : ((1 : Int) = 0 ∧ (((F 9) (k * 12 + t)) : Int) = 0 ∧ enc (nmM F V s0 t b k) = -1000000000) ∨ ((1 : Int) = 1 ∧ (-100000000000000000 ≤ (((F 9) (k * 12 + t)) : Int) ∧ (((F 9) (k * 12 + t)) : Int) ≤ 100000000000000000) ∧ enc (nmM F V s0 t b k) = (if -99999999 ≤ (((F 9) (k * 12 + t)) : Int) ∧ (((F 9) (k * 12 + t)) : Int) ≤ 99999999 then (((F 9) (k * 12 + t)) : Int) else -1000000000)) := by omega
                          refine jr_loc (lv' := [(7, .int (iI 1)), (6, .int (iI ((F 12) (k * 12 + t)))), (0, .ref (h 0)), (1, .int (iI (s0 : Int))), (2, .int (iI (i : Int))), (3, .int (iI (t : Int))), (4, .int (iI (b : Int))), (5, .int (iI (k : Int)))]) [0, 1, 2, 3, 4, 5, 6, 7] rfl ?_
                          exact cut121 (((F 9) (k * 12 + t)), 1) hP
