/-! the reference: number, year, effect, seek .. -/
set_option maxRecDepth 20000 in
theorem in_X4_number_X4 : ∀ w ∈ u_ws RX4 TX4 22, w ∈ wsX4_number := by decide +kernel
set_option maxHeartbeats 4000000 in
set_option maxRecDepth 100000 in
theorem c_X4_number (l : Launch) (G : jG) (h : Nat → Nat) (F : Nat → Nat → Int) (V : Nat → Int) (fd : Nat → Int) (sc i t : Int) (hrsc : jR sc) (hri : jR i) (hrt : jR t) (hk : okM F V) : jMet l yX4_number wsX4_number { frames := 6, cells := 0, slots := 0, locals := 300 } G (wM G h F V fd) [.ref (h 0), .int (iI sc), .int (iI i), .int (iI t)] (fun rv w1 => ∃ (v : Int) (F' : Nat → Nat → Int) (V' fd' : Nat → Int), rv = some (.int (iI v)) ∧ w1 = wM G h F' V' fd' ∧ (cdNumber (V 3) (V 2) sc i t (enc (nmM F V sc.toNat t.toNat 6 i.toNat)) ≠ 0 → mSc F F' ∧ V' = jU V 0 (cdNumber (V 3) (V 2) sc i t (enc (nmM F V sc.toNat t.toNat 6 i.toNat)))) ∧ (cdNumber (V 3) (V 2) sc i t (enc (nmM F V sc.toNat t.toNat 6 i.toNat)) = 0 → v = (enc (nmM F V sc.toNat t.toNat 6 i.toNat)) ∧ mSc F F' ∧ V' = (jU V 0 0))) := by
  refine jMet_of (cc := cX4_number) (maxL := 4) (ret := (some .int)) (by decide +kernel) rfl (Nat.le_of_ble_eq_true rfl) ?_
  intro p e s m args below meth c A hh hret hinit
  refine jr_loc (lv' := [(0, .ref (h 0)), (1, .int (iI sc)), (2, .int (iI i)), (3, .int (iI t))]) [0, 1, 2, 3] rfl ?_
  obtain ⟨hV1, hV2, hV3, hV4, hV5, -⟩ := id hk
  have hrsc1 := hrsc.1
  have hri1 := hri.1
  have hrt1 := hrt.1
  have hrsc2 := hrsc.2
  have hri2 := hri.2
  have hrt2 := hrt.2
  refine jr_cut (σ := Int × (Nat → Int) × (Nat → Int)) 45 (fun (x : Int × (Nat → Int) × (Nat → Int)) => match x with | (cd, isf, fnd) => cd = cdNumber (V 3) (V 2) sc i t (enc (nmM F V sc.toNat t.toNat 6 i.toNat)) ∧ (cd = 0 → fnd i.toNat = enc (nmM F V sc.toNat t.toNat 6 i.toNat))) (fun (x : Int × (Nat → Int) × (Nat → Int)) => match x with | (cd, isf, fnd) => (wM G h (uF F 13 isf) V fnd)) (fun (x : Int × (Nat → Int) × (Nat → Int)) => match x with | (cd, isf, fnd) => [(0, .ref (h 0)), (1, .int (iI sc)), (2, .int (iI i)), (3, .int (iI t))]) (fun (x : Int × (Nat → Int) × (Nat → Int)) => match x with | (cd, isf, fnd) => [.int (iI cd), .ref (h 0)]) ?_ (fun cut45 => ?_)
  · rintro ⟨cd, isf, fnd⟩ hcut45
    try dsimp only
    try dsimp only at hcut45
    obtain ⟨hcut45, hfnd⟩ := hcut45
    have hcd2 := hcut45
    unfold cdNumber at hcd2
    refine jr_put (ws' := (wM G h (uF F 13 isf) (jU V 0 cd) fnd)) (pc := 45) hh in_X4_number_X4 tyX4_ok nmX4 0 rfl rfl 16 (by decide) (by decide +kernel : Cond.fieldLink RX4 61 (TX4 16).1 (TX4 16).2.1 (TX4 16).2.2.1 ∈ wsX4_number) rfl rfl (Nat.le_of_ble_eq_true rfl) rfl dX4_number_45 ?_
    refine jr_aload_n (pc := 48) hh 0 dX4_number_48 rfl rfl ?_
    refine jr_get (v := .int (iI cd)) (pc := 49) hh in_X4_number_X4 0 rfl rfl 16 (by decide) (by decide +kernel : Cond.fieldLink RX4 61 (TX4 16).1 (TX4 16).2.1 (TX4 16).2.2.1 ∈ wsX4_number) rfl dX4_number_49 ?_
    refine jr_if_le (tgt := 59) (pc := 52) hh dX4_number_52 (by decide) ⟨by omega, by omega⟩ (fun c1 => ?_) (fun c1 => ?_)
    · skip
      obtain ⟨iN, rfl⟩ : ∃ k : Nat, i = (k : Int) := ⟨i.toNat, by omega⟩
      refine jr_aload_n (pc := 59) hh 0 dX4_number_59 rfl rfl ?_
      refine jr_get (v := .ref (h 16)) (pc := 60) hh in_X4_number_X4 0 rfl rfl 15 (by decide) (by decide +kernel : Cond.fieldLink RX4 57 (TX4 15).1 (TX4 15).2.1 (TX4 15).2.2.1 ∈ wsX4_number) rfl dX4_number_60 ?_
      refine jr_iload_n (pc := 63) hh 2 dX4_number_63 rfl rfl ?_
      refine jr_lald (F := fnd) (pc := 64) hh 16 rfl iN (by omega) (by omega) (by decide) dX4_number_64 ?_
      refine jr_l2i (pc := 65) hh dX4_number_65 ?_
      exact jr_iret (pc := 66) hh hret rfl ⟨_, _, _, _, jsi (hfnd (by omega)), rfl, fun q => absurd q (by omega), fun _ => ⟨rfl, mSc_13 _ _, by rw [show cd = 0 by omega]⟩⟩ (by decide) (by decide) dX4_number_66
    · skip
      refine jr_iconst (pc := 55) hh dX4_number_55 ?_
      refine jr_goto (tgt := 66) (pc := 56) hh dX4_number_56 (by decide) ?_
      exact jr_iret (pc := 66) hh hret rfl ⟨0, _, _, _, rfl, rfl, fun _ => ⟨(mSc_13 _ _), by rw [hcut45]⟩, fun q => absurd q (by omega)⟩ (by decide) (by decide) dX4_number_66
  · try dsimp only at cut45
    refine jr_aload_n (pc := 0) hh 0 dX4_number_0 rfl rfl ?_
    refine jr_aload_n (pc := 1) hh 0 dX4_number_1 rfl rfl ?_
    refine jr_iload_n (pc := 2) hh 1 dX4_number_2 rfl rfl ?_
    refine jr_callV (pc := 3) hh [.int (iI sc)] [.ref (h 0)] (c_X4_isScenario l G h F V fd sc ⟨by omega, by omega⟩ ⟨by omega, by omega⟩) gX4_number_X4_isScenario rfl (by decide) (by decide) [0, 1, 2, 3, 4, 5, 6, 7, 8, 9, 10, 11, 12, 13, 14, 15, 16] [] rfl rfl rfl rfl (by decide) 0 rfl rfl 1 rfl rfl (Nat.le_of_ble_eq_true rfl) (by decide +kernel) dX4_number_3 (fun rvu3 wu3 hu3 => ?_)
    obtain ⟨rfl, rfl⟩ := hu3
    refine jr_perm (ws' := (wM G h F V fd)) (st := [.int (iI (inI sc 0 (V 3 - 1))), .ref (h 0)]) [0, 1, 2, 3, 4, 5, 6, 7, 8, 9, 10, 11, 12, 13, 14, 15, 16] rfl rfl ?_
    have hin2 : (inI sc 0 (V 3 - 1)) = if 0 ≤ sc ∧ sc ≤ V 3 - 1 then 1 else 0 := rfl
    refine jr_if_eq (tgt := 24) (pc := 6) hh dX4_number_6 (by decide) ⟨by omega, by omega⟩ (fun c4 => ?_) (fun c4 => ?_)
    · skip
      refine jr_iconst (pc := 24) hh dX4_number_24 ?_
      refine jr_goto (tgt := 45) (pc := 25) hh dX4_number_25 (by decide) ?_
      refine jr_loc (lv' := [(0, .ref (h 0)), (1, .int (iI sc)), (2, .int (iI i)), (3, .int (iI t))]) [0, 1, 2, 3] rfl ?_
      exact cut45 (1, (F 13), fd) ⟨(by unfold cdNumber; (try simp only [Int.toNat_natCast]); omega), (by intro q9; exfalso; omega)⟩
    · skip
      refine jr_aload_n (pc := 9) hh 0 dX4_number_9 rfl rfl ?_
      refine jr_iload_n (pc := 10) hh 2 dX4_number_10 rfl rfl ?_
      refine jr_callV (pc := 11) hh [.int (iI i)] [.ref (h 0)] (c_X4_isLine l G h F V fd i ⟨by omega, by omega⟩ ⟨by omega, by omega⟩) gX4_number_X4_isLine rfl (by decide) (by decide) [0, 1, 2, 3, 4, 5, 6, 7, 8, 9, 10, 11, 12, 13, 14, 15, 16] [] rfl rfl rfl rfl (by decide) 0 rfl rfl 1 rfl rfl (Nat.le_of_ble_eq_true rfl) (by decide +kernel) dX4_number_11 (fun rvu6 wu6 hu6 => ?_)
      obtain ⟨rfl, rfl⟩ := hu6
      refine jr_perm (ws' := (wM G h F V fd)) (st := [.int (iI (inI i 0 (V 2 - 1))), .ref (h 0)]) [0, 1, 2, 3, 4, 5, 6, 7, 8, 9, 10, 11, 12, 13, 14, 15, 16] rfl rfl ?_
      have hin5 : (inI i 0 (V 2 - 1)) = if 0 ≤ i ∧ i ≤ V 2 - 1 then 1 else 0 := rfl
      refine jr_if_eq (tgt := 24) (pc := 14) hh dX4_number_14 (by decide) ⟨by omega, by omega⟩ (fun c7 => ?_) (fun c7 => ?_)
      · skip
        refine jr_iconst (pc := 24) hh dX4_number_24 ?_
        refine jr_goto (tgt := 45) (pc := 25) hh dX4_number_25 (by decide) ?_
        refine jr_loc (lv' := [(0, .ref (h 0)), (1, .int (iI sc)), (2, .int (iI i)), (3, .int (iI t))]) [0, 1, 2, 3] rfl ?_
        exact cut45 (1, (F 13), fd) ⟨(by unfold cdNumber; (try simp only [Int.toNat_natCast]); omega), (by intro q9; exfalso; omega)⟩
      · skip
        refine jr_iload_n (pc := 17) hh 3 dX4_number_17 rfl rfl ?_
        refine jr_callS (pc := 18) hh [.int (iI t)] [.ref (h 0)] (c_X4_isMonth l G t ⟨by omega, by omega⟩) gX4_number_X4_isMonth rfl (by decide) (by decide) [] [0, 1, 2, 3, 4, 5, 6, 7, 8, 9, 10, 11, 12, 13, 14, 15, 16] rfl rfl rfl rfl (by decide) 1 rfl rfl (Nat.le_of_ble_eq_true rfl) (by decide +kernel) dX4_number_18 (fun rvu9 wu9 hu9 => ?_)
        obtain ⟨rfl, rfl⟩ := hu9
        refine jr_perm (ws' := (wM G h F V fd)) (st := [.int (iI (inI t 0 11)), .ref (h 0)]) [0, 1, 2, 3, 4, 5, 6, 7, 8, 9, 10, 11, 12, 13, 14, 15, 16] rfl rfl ?_
        have hin8 : (inI t 0 11) = if 0 ≤ t ∧ t ≤ 11 then 1 else 0 := rfl
        refine jr_if_ne (tgt := 28) (pc := 21) hh dX4_number_21 (by decide) ⟨by omega, by omega⟩ (fun c10 => ?_) (fun c10 => ?_)
        · skip
          obtain ⟨scN, rfl⟩ : ∃ k : Nat, sc = (k : Int) := ⟨sc.toNat, by omega⟩
          obtain ⟨iN, rfl⟩ : ∃ k : Nat, i = (k : Int) := ⟨i.toNat, by omega⟩
          obtain ⟨tN, rfl⟩ : ∃ k : Nat, t = (k : Int) := ⟨t.toNat, by omega⟩
          refine jr_aload_n (pc := 28) hh 0 dX4_number_28 rfl rfl ?_
          refine jr_iload_n (pc := 29) hh 1 dX4_number_29 rfl rfl ?_
          refine jr_iload_n (pc := 30) hh 2 dX4_number_30 rfl rfl ?_
          refine jr_iload_n (pc := 31) hh 3 dX4_number_31 rfl rfl ?_
          refine jr_bipush (pc := 32) hh dX4_number_32 (by decide) ?_
          refine jr_callV (pc := 34) hh [.int (iI (scN : Int)), .int (iI (iN : Int)), .int (iI (tN : Int)), .int (iI 6)] [.ref (h 0)] (c_X4_finds l G h F V fd scN iN tN 6 hk (by show (_ : Int) < V 3; omega) (by show (_ : Int) < V 2; omega) (by omega) (by omega)) gX4_number_X4_finds rfl (by decide) (by decide) [0, 1, 2, 3, 4, 5, 6, 7, 8, 9, 10, 11, 12, 13, 14, 15, 16] [] rfl rfl rfl rfl (by decide) 0 rfl rfl 4 rfl rfl (Nat.le_of_ble_eq_true rfl) (by decide +kernel) dX4_number_34 (fun rvu12 wu12 hu12 => ?_)
          obtain ⟨rfl, isfz11, fdz11, hfdz11, rfl⟩ := hu12
          refine jr_perm (ws' := (wM G h (uF F 13 isfz11) V fdz11)) (st := [.int (iI (if enc (nmM F V scN tN 6 iN) = -1000000000 then 0 else 1)), .ref (h 0)]) [0, 1, 2, 3, 4, 5, 6, 7, 8, 9, 10, 11, 12, 13, 14, 15, 16] rfl rfl ?_
          replace hfdz11 : enc (nmM F V scN tN 6 iN) ≠ -1000000000 → fdz11 iN = enc (nmM F V scN tN 6 iN) := hfdz11
          refine jr_if_ne (tgt := 44) (pc := 37) hh dX4_number_37 (by decide) ⟨by omega, by omega⟩ (fun c13 => ?_) (fun c13 => ?_)
          · skip
            refine jr_iconst (pc := 44) hh dX4_number_44 ?_
            refine jr_loc (lv' := [(0, .ref (h 0)), (1, .int (iI (scN : Int))), (2, .int (iI (iN : Int))), (3, .int (iI (tN : Int)))]) [0, 1, 2, 3] rfl ?_
            exact cut45 (0, isfz11, fdz11) ⟨(by unfold cdNumber; (try simp only [Int.toNat_natCast]); omega), (by first | exact (fun _ => hfdz11 (by omega)) | (intro q9; exfalso; omega))⟩
          · skip
            refine jr_iconst (pc := 40) hh dX4_number_40 ?_
            refine jr_goto (tgt := 45) (pc := 41) hh dX4_number_41 (by decide) ?_
            refine jr_loc (lv' := [(0, .ref (h 0)), (1, .int (iI (scN : Int))), (2, .int (iI (iN : Int))), (3, .int (iI (tN : Int)))]) [0, 1, 2, 3] rfl ?_
            exact cut45 (2, isfz11, fdz11) ⟨(by unfold cdNumber; (try simp only [Int.toNat_natCast]); omega), (by first | exact (fun _ => hfdz11 (by omega)) | (intro q9; exfalso; omega))⟩
        · skip
          refine jr_iconst (pc := 24) hh dX4_number_24 ?_
          refine jr_goto (tgt := 45) (pc := 25) hh dX4_number_25 (by decide) ?_
          refine jr_loc (lv' := [(0, .ref (h 0)), (1, .int (iI sc)), (2, .int (iI i)), (3, .int (iI t))]) [0, 1, 2, 3] rfl ?_
          exact cut45 (1, (F 13), fd) ⟨(by unfold cdNumber; (try simp only [Int.toNat_natCast]); omega), (by intro q9; exfalso; omega)⟩
set_option maxHeartbeats 4000000 in
set_option maxRecDepth 100000 in
theorem c_X4_numberByHand (l : Launch) (G : jG) (h : Nat → Nat) (F : Nat → Nat → Int) (V : Nat → Int) (fd : Nat → Int) (sc i t : Int) (hrsc : jR sc) (hri : jR i) (hrt : jR t) (hk : okM F V) : jMet l yX4_numberByHand wsX4_numberByHand { frames := 7, cells := 0, slots := 0, locals := 360 } G (wM G h F V fd) [.ref (h 0), .int (iI sc), .int (iI i), .int (iI t)] (fun rv w1 => ∃ (v : Int) (F' : Nat → Nat → Int) (V' fd' : Nat → Int), rv = some (.int (iI v)) ∧ w1 = wM G h F' V' fd' ∧ (cdNumber (V 3) (V 2) sc i t (enc (nmM F V sc.toNat t.toNat 6 i.toNat)) ≠ 0 → mSc F F' ∧ V' = jU V 0 (cdNumber (V 3) (V 2) sc i t (enc (nmM F V sc.toNat t.toNat 6 i.toNat)))) ∧ (cdNumber (V 3) (V 2) sc i t (enc (nmM F V sc.toNat t.toNat 6 i.toNat)) = 0 → v = (enc (nmM F V sc.toNat t.toNat 6 i.toNat)) ∧ mSc F F' ∧ V' = (jU V 0 0))) := by
  refine jMet_of (cc := cX4_numberByHand) (maxL := 4) (ret := (some .int)) (by decide +kernel) rfl (Nat.le_of_ble_eq_true rfl) ?_
  intro p e s m args below meth c A hh hret hinit
  refine jr_loc (lv' := [(0, .ref (h 0)), (1, .int (iI sc)), (2, .int (iI i)), (3, .int (iI t))]) [0, 1, 2, 3] rfl ?_
  obtain ⟨hV1, hV2, hV3, hV4, hV5, -⟩ := id hk
  have hrsc1 := hrsc.1
  have hri1 := hri.1
  have hrt1 := hrt.1
  have hrsc2 := hrsc.2
  have hri2 := hri.2
  have hrt2 := hrt.2
  refine jr_aload_n (pc := 0) hh 0 dX4_numberByHand_0 rfl rfl ?_
  refine jr_iload_n (pc := 1) hh 1 dX4_numberByHand_1 rfl rfl ?_
  refine jr_iload_n (pc := 2) hh 2 dX4_numberByHand_2 rfl rfl ?_
  refine jr_iload_n (pc := 3) hh 3 dX4_numberByHand_3 rfl rfl ?_
  refine jr_callV (pc := 4) hh [.int (iI sc), .int (iI i), .int (iI t)] [] (c_X4_number l G h F V fd sc i t hrsc hri hrt hk) gX4_numberByHand_X4_number rfl (by decide) (by decide) [0, 1, 2, 3, 4, 5, 6, 7, 8, 9, 10, 11, 12, 13, 14, 15, 16] [] rfl rfl rfl rfl (by decide) 0 rfl rfl 3 rfl rfl (Nat.le_of_ble_eq_true rfl) (by decide +kernel) dX4_numberByHand_4 (fun rvu1 wu1 hu1 => ?_)
  obtain ⟨v, F', V', fd', rfl, rfl, hp1, hp2⟩ := hu1
  refine jr_perm (ws' := (wM G h F' V' fd')) (st := [.int (iI v)]) [0, 1, 2, 3, 4, 5, 6, 7, 8, 9, 10, 11, 12, 13, 14, 15, 16] rfl rfl ?_
  exact jr_iret (pc := 7) hh hret rfl ⟨_, _, _, _, rfl, rfl, hp1, hp2⟩ (by decide) (by decide) dX4_numberByHand_7
set_option maxRecDepth 20000 in
theorem in_X4_effect_X4 : ∀ w ∈ u_ws RX4 TX4 22, w ∈ wsX4_effect := by decide +kernel
set_option maxHeartbeats 4000000 in
set_option maxRecDepth 100000 in
theorem c_X4_effect (l : Launch) (G : jG) (h : Nat → Nat) (F : Nat → Nat → Int) (V : Nat → Int) (fd : Nat → Int) (sc d i t : Int) (hrsc : jR sc) (hrd : jR d) (hri : jR i) (hrt : jR t) (hk : okM F V) : jMet l yX4_effect wsX4_effect { frames := 6, cells := 0, slots := 0, locals := 300 } G (wM G h F V fd) [.ref (h 0), .int (iI sc), .int (iI d), .int (iI i), .int (iI t)] (fun rv w1 => ∃ (v : Int) (F' : Nat → Nat → Int) (V' fd' : Nat → Int), rv = some (.int (iI v)) ∧ w1 = wM G h F' V' fd' ∧ (cdEffect (V 3) (V 1) (V 2) sc d i t (enc (nmM F V sc.toNat t.toNat (d.toNat + 1) i.toNat)) (enc (nmM F V sc.toNat t.toNat d.toNat i.toNat)) ≠ 0 → mSc F F' ∧ V' = jU V 0 (cdEffect (V 3) (V 1) (V 2) sc d i t (enc (nmM F V sc.toNat t.toNat (d.toNat + 1) i.toNat)) (enc (nmM F V sc.toNat t.toNat d.toNat i.toNat)))) ∧ (cdEffect (V 3) (V 1) (V 2) sc d i t (enc (nmM F V sc.toNat t.toNat (d.toNat + 1) i.toNat)) (enc (nmM F V sc.toNat t.toNat d.toNat i.toNat)) = 0 → v = (enc (nmM F V sc.toNat t.toNat (d.toNat + 1) i.toNat)) - (enc (nmM F V sc.toNat t.toNat d.toNat i.toNat)) ∧ mSc F F' ∧ V' = (jU V 0 0))) := by
  refine jMet_of (cc := cX4_effect) (maxL := 9) (ret := (some .int)) (by decide +kernel) rfl (Nat.le_of_ble_eq_true rfl) ?_
  intro p e s m args below meth c A hh hret hinit
  refine jr_loc (lv' := [(0, .ref (h 0)), (1, .int (iI sc)), (2, .int (iI d)), (3, .int (iI i)), (4, .int (iI t))]) [0, 1, 2, 3, 4] rfl ?_
  obtain ⟨hV1, hV2, hV3, hV4, hV5, -⟩ := id hk
  have hrsc1 := hrsc.1
  have hrd1 := hrd.1
  have hri1 := hri.1
  have hrt1 := hrt.1
  have hrsc2 := hrsc.2
  have hrd2 := hrd.2
  have hri2 := hri.2
  have hrt2 := hrt.2
  refine jr_cut (σ := Int) 38 (fun (cd : Int) => cd = if ¬ ((0 ≤ sc ∧ sc < V 3) ∧ (0 ≤ d ∧ d < V 1) ∧ (0 ≤ i ∧ i < V 2) ∧ (0 ≤ t ∧ t < 12)) then 1 else 0) (fun (cd : Int) => (wM G h F V fd)) (fun (cd : Int) => [(0, .ref (h 0)), (1, .int (iI sc)), (2, .int (iI d)), (3, .int (iI i)), (4, .int (iI t))]) (fun (cd : Int) => [.int (iI cd), .ref (h 0)]) ?_ (fun cut38 => ?_)
  · rintro cd hcut38
    try dsimp only
    try dsimp only at hcut38
    refine jr_put (ws' := (wM G h F (jU V 0 cd) fd)) (pc := 38) hh in_X4_effect_X4 tyX4_ok nmX4 0 rfl rfl 16 (by decide) (by decide +kernel : Cond.fieldLink RX4 61 (TX4 16).1 (TX4 16).2.1 (TX4 16).2.2.1 ∈ wsX4_effect) rfl rfl (Nat.le_of_ble_eq_true rfl) rfl dX4_effect_38 ?_
    refine jr_aload_n (pc := 41) hh 0 dX4_effect_41 rfl rfl ?_
    refine jr_get (v := .int (iI cd)) (pc := 42) hh in_X4_effect_X4 0 rfl rfl 16 (by decide) (by decide +kernel : Cond.fieldLink RX4 61 (TX4 16).1 (TX4 16).2.1 (TX4 16).2.2.1 ∈ wsX4_effect) rfl dX4_effect_42 ?_
    refine jr_if_le (tgt := 50) (pc := 45) hh dX4_effect_45 (by decide) ⟨by omega, by omega⟩ (fun c1 => ?_) (fun c1 => ?_)
    · skip
      obtain ⟨scN, rfl⟩ : ∃ k : Nat, sc = (k : Int) := ⟨sc.toNat, by omega⟩
      obtain ⟨dN, rfl⟩ : ∃ k : Nat, d = (k : Int) := ⟨d.toNat, by omega⟩
      obtain ⟨iN, rfl⟩ : ∃ k : Nat, i = (k : Int) := ⟨i.toNat, by omega⟩
      obtain ⟨tN, rfl⟩ : ∃ k : Nat, t = (k : Int) := ⟨t.toNat, by omega⟩
      refine jr_aload_n (pc := 50) hh 0 dX4_effect_50 rfl rfl ?_
      refine jr_iload_n (pc := 51) hh 1 dX4_effect_51 rfl rfl ?_
      refine jr_iload_n (pc := 52) hh 3 dX4_effect_52 rfl rfl ?_
      refine jr_iload (pc := 53) hh 4 dX4_effect_53 rfl ?_
      refine jr_iload_n (pc := 55) hh 2 dX4_effect_55 rfl rfl ?_
      refine jr_iconst (pc := 56) hh dX4_effect_56 ?_
      refine jr_iadd (pc := 57) hh dX4_effect_57 ?_
      refine jr_callV (pc := 58) hh [.int (iI (scN : Int)), .int (iI (iN : Int)), .int (iI (tN : Int)), .int (iI ((dN : Int) + 1))] [] (c_X4_finds l G h F (jU V 0 cd) fd scN iN tN (dN + 1) hk (by show (_ : Int) < V 3; omega) (by show (_ : Int) < V 2; omega) (by omega) (by omega)) gX4_effect_X4_finds rfl (by decide) (by decide) [0, 1, 2, 3, 4, 5, 6, 7, 8, 9, 10, 11, 12, 13, 14, 15, 16] [] rfl rfl rfl rfl (by decide) 0 rfl rfl 4 rfl rfl (Nat.le_of_ble_eq_true rfl) (by decide +kernel) dX4_effect_58 (fun rvu2 wu2 hu2 => ?_)
      obtain ⟨rfl, isf1, fd1, hfd1, rfl⟩ := hu2
      refine jr_perm (ws' := (wM G h (uF F 13 isf1) (jU V 0 cd) fd1)) (st := [.int (iI (if (enc (nmM F V scN tN (dN + 1) iN)) = -1000000000 then 0 else 1))]) [0, 1, 2, 3, 4, 5, 6, 7, 8, 9, 10, 11, 12, 13, 14, 15, 16] rfl rfl ?_
      replace hfd1 : (enc (nmM F V scN tN (dN + 1) iN)) ≠ -1000000000 → fd1 iN = (enc (nmM F V scN tN (dN + 1) iN)) := hfd1
      have hnb1 := enc_range (nmM_B hk (s := scN) (t := tN) (b := (dN + 1)) (i := iN) (by omega) (by omega))
      refine jr_istore (lv' := [(5, .int (iI (if (enc (nmM F V scN tN (dN + 1) iN)) = -1000000000 then 0 else 1))), (0, .ref (h 0)), (1, .int (iI (scN : Int))), (2, .int (iI (dN : Int))), (3, .int (iI (iN : Int))), (4, .int (iI (tN : Int)))]) (pc := 61) hh dX4_effect_61 (by decide) rfl ?_
      refine jr_aload_n (pc := 63) hh 1 dX4_effect_63 rfl rfl ?_
      refine jr_get (v := .ref (h 16)) (pc := 64) hh in_X4_effect_X4 0 rfl rfl 15 (by decide) (by decide +kernel : Cond.fieldLink RX4 57 (TX4 15).1 (TX4 15).2.1 (TX4 15).2.2.1 ∈ wsX4_effect) rfl dX4_effect_64 ?_
      refine jr_iload_n (pc := 67) hh 4 dX4_effect_67 rfl rfl ?_
      refine jr_lald (F := fd1) (pc := 68) hh 16 rfl iN (by omega) (by omega) (by decide) dX4_effect_68 ?_
      refine jr_lstore (lv' := [(6, .long (lI (fd1 iN))), (5, .int (iI (if (enc (nmM F V scN tN (dN + 1) iN)) = -1000000000 then 0 else 1))), (0, .ref (h 0)), (1, .int (iI (scN : Int))), (2, .int (iI (dN : Int))), (3, .int (iI (iN : Int))), (4, .int (iI (tN : Int)))]) (pc := 69) hh dX4_effect_69 (by decide) rfl ?_
      refine jr_aload_n (pc := 71) hh 2 dX4_effect_71 rfl rfl ?_
      refine jr_iload_n (pc := 72) hh 3 dX4_effect_72 rfl rfl ?_
      refine jr_iload_n (pc := 73) hh 5 dX4_effect_73 rfl rfl ?_
      refine jr_iload (pc := 74) hh 6 dX4_effect_74 rfl ?_
      refine jr_iload_n (pc := 76) hh 4 dX4_effect_76 rfl rfl ?_
      refine jr_callV (pc := 77) hh [.int (iI (scN : Int)), .int (iI (iN : Int)), .int (iI (tN : Int)), .int (iI (dN : Int))] [] (c_X4_finds l G h (uF F 13 isf1) (jU V 0 cd) fd1 scN iN tN dN hk (by show (_ : Int) < V 3; omega) (by show (_ : Int) < V 2; omega) (by omega) (by omega)) gX4_effect_X4_finds rfl (by decide) (by decide) [0, 1, 2, 3, 4, 5, 6, 7, 8, 9, 10, 11, 12, 13, 14, 15, 16] [] rfl rfl rfl rfl (by decide) 0 rfl rfl 4 rfl rfl (Nat.le_of_ble_eq_true rfl) (by decide +kernel) dX4_effect_77 (fun rvu3 wu3 hu3 => ?_)
      obtain ⟨rfl, isf2, fd2, hfd2, rfl⟩ := hu3
      refine jr_perm (ws' := (wM G h (uF F 13 isf2) (jU V 0 cd) fd2)) (st := [.int (iI (if (enc (nmM F V scN tN dN iN)) = -1000000000 then 0 else 1))]) [0, 1, 2, 3, 4, 5, 6, 7, 8, 9, 10, 11, 12, 13, 14, 15, 16] rfl rfl ?_
      replace hfd2 : (enc (nmM F V scN tN dN iN)) ≠ -1000000000 → fd2 iN = (enc (nmM F V scN tN dN iN)) := hfd2
      have hnb2 := enc_range (nmM_B hk (s := scN) (t := tN) (b := dN) (i := iN) (by omega) (by omega))
      refine jr_istore (lv' := [(8, .int (iI (if (enc (nmM F V scN tN dN iN)) = -1000000000 then 0 else 1))), (6, .long (lI (fd1 iN))), (5, .int (iI (if (enc (nmM F V scN tN (dN + 1) iN)) = -1000000000 then 0 else 1))), (0, .ref (h 0)), (1, .int (iI (scN : Int))), (2, .int (iI (dN : Int))), (3, .int (iI (iN : Int))), (4, .int (iI (tN : Int)))]) (pc := 80) hh dX4_effect_80 (by decide) rfl ?_
      refine jr_cut (σ := Int) 98 (fun (ce : Int) => ce = cdEffect (V 3) (V 1) (V 2) (scN : Int) (dN : Int) (iN : Int) (tN : Int) (enc (nmM F V scN tN (dN + 1) iN)) (enc (nmM F V scN tN dN iN))) (fun (ce : Int) => (wM G h (uF F 13 isf2) (jU V 0 cd) fd2)) (fun (ce : Int) => [(8, .int (iI (if (enc (nmM F V scN tN dN iN)) = -1000000000 then 0 else 1))), (6, .long (lI (fd1 iN))), (5, .int (iI (if (enc (nmM F V scN tN (dN + 1) iN)) = -1000000000 then 0 else 1))), (0, .ref (h 0)), (1, .int (iI (scN : Int))), (2, .int (iI (dN : Int))), (3, .int (iI (iN : Int))), (4, .int (iI (tN : Int)))]) (fun (ce : Int) => [.int (iI ce), .ref (h 0)]) ?_ (fun cut98 => ?_)
      · rintro ce hcut98
        try dsimp only
        try dsimp only at hcut98
        have hce2 := hcut98
        unfold cdEffect at hce2
        refine jr_put (ws' := (wM G h (uF F 13 isf2) (jU V 0 ce) fd2)) (pc := 98) hh in_X4_effect_X4 tyX4_ok nmX4 0 rfl rfl 16 (by decide) (by decide +kernel : Cond.fieldLink RX4 61 (TX4 16).1 (TX4 16).2.1 (TX4 16).2.2.1 ∈ wsX4_effect) rfl rfl (Nat.le_of_ble_eq_true rfl) rfl dX4_effect_98 ?_
        refine jr_aload_n (pc := 101) hh 3 dX4_effect_101 rfl rfl ?_
        refine jr_get (v := .int (iI ce)) (pc := 102) hh in_X4_effect_X4 0 rfl rfl 16 (by decide) (by decide +kernel : Cond.fieldLink RX4 61 (TX4 16).1 (TX4 16).2.1 (TX4 16).2.2.1 ∈ wsX4_effect) rfl dX4_effect_102 ?_
        refine jr_if_le (tgt := 112) (pc := 105) hh dX4_effect_105 (by decide) ⟨by omega, by omega⟩ (fun c4 => ?_) (fun c4 => ?_)
        · skip
          refine jr_lload (pc := 112) hh 1 dX4_effect_112 rfl ?_
          refine jr_aload_n (pc := 114) hh 3 dX4_effect_114 rfl rfl ?_
          refine jr_get (v := .ref (h 16)) (pc := 115) hh in_X4_effect_X4 0 rfl rfl 15 (by decide) (by decide +kernel : Cond.fieldLink RX4 57 (TX4 15).1 (TX4 15).2.1 (TX4 15).2.2.1 ∈ wsX4_effect) rfl dX4_effect_115 ?_
          refine jr_iload_n (pc := 118) hh 6 dX4_effect_118 rfl rfl ?_
          refine jr_lald (F := fd2) (pc := 119) hh 16 rfl iN (by omega) (by omega) (by decide) dX4_effect_119 ?_
          refine jr_lsub (pc := 120) hh dX4_effect_120 ?_
          refine jr_l2i (pc := 121) hh dX4_effect_121 ?_
          exact jr_iret (pc := 122) hh hret rfl ⟨_, _, _, _, rfl, rfl, fun q => absurd (hcut98.symm.trans (by omega : ce = 0)) q, fun _ => ⟨by have h1 := hfd1 (by omega); have h2 := hfd2 (by omega); rw [h1, h2]; rfl, mSc_13 _ _, by rw [show ce = 0 by omega]⟩⟩ (by decide) (by decide) dX4_effect_122
        · skip
          refine jr_iconst (pc := 108) hh dX4_effect_108 ?_
          refine jr_goto (tgt := 122) (pc := 109) hh dX4_effect_109 (by decide) ?_
          exact jr_iret (pc := 122) hh hret rfl ⟨0, _, _, _, rfl, rfl, fun _ => ⟨mSc_13 _ _, by rw [hcut98]; rfl⟩, fun q => absurd (hcut98.trans q) (by omega)⟩ (by decide) (by decide) dX4_effect_122
      · try dsimp only at cut98
        refine jr_aload_n (pc := 82) hh 3 dX4_effect_82 rfl rfl ?_
        refine jr_iload (pc := 83) hh 2 dX4_effect_83 rfl ?_
        refine jr_if_eq (tgt := 97) (pc := 85) hh dX4_effect_85 (by decide) ⟨by omega, by omega⟩ (fun c5 => ?_) (fun c5 => ?_)
        · skip
          refine jr_iconst (pc := 97) hh dX4_effect_97 ?_
          refine jr_loc (lv' := [(8, .int (iI (if (enc (nmM F V scN tN dN iN)) = -1000000000 then 0 else 1))), (6, .long (lI (fd1 iN))), (5, .int (iI (if (enc (nmM F V scN tN (dN + 1) iN)) = -1000000000 then 0 else 1))), (0, .ref (h 0)), (1, .int (iI (scN : Int))), (2, .int (iI (dN : Int))), (3, .int (iI (iN : Int))), (4, .int (iI (tN : Int)))]) [0, 1, 2, 3, 4, 5, 6, 7] rfl ?_
          exact cut98 (2) (by unfold cdEffect; omega)
        · skip
          refine jr_iload (pc := 88) hh 0 dX4_effect_88 rfl ?_
          refine jr_if_eq (tgt := 97) (pc := 90) hh dX4_effect_90 (by decide) ⟨by omega, by omega⟩ (fun c6 => ?_) (fun c6 => ?_)
          · skip
            refine jr_iconst (pc := 97) hh dX4_effect_97 ?_
            refine jr_loc (lv' := [(8, .int (iI (if (enc (nmM F V scN tN dN iN)) = -1000000000 then 0 else 1))), (6, .long (lI (fd1 iN))), (5, .int (iI (if (enc (nmM F V scN tN (dN + 1) iN)) = -1000000000 then 0 else 1))), (0, .ref (h 0)), (1, .int (iI (scN : Int))), (2, .int (iI (dN : Int))), (3, .int (iI (iN : Int))), (4, .int (iI (tN : Int)))]) [0, 1, 2, 3, 4, 5, 6, 7] rfl ?_
            exact cut98 (2) (by unfold cdEffect; omega)
          · skip
            refine jr_iconst (pc := 93) hh dX4_effect_93 ?_
            refine jr_goto (tgt := 98) (pc := 94) hh dX4_effect_94 (by decide) ?_
            refine jr_loc (lv' := [(8, .int (iI (if (enc (nmM F V scN tN dN iN)) = -1000000000 then 0 else 1))), (6, .long (lI (fd1 iN))), (5, .int (iI (if (enc (nmM F V scN tN (dN + 1) iN)) = -1000000000 then 0 else 1))), (0, .ref (h 0)), (1, .int (iI (scN : Int))), (2, .int (iI (dN : Int))), (3, .int (iI (iN : Int))), (4, .int (iI (tN : Int)))]) [0, 1, 2, 3, 4, 5, 6, 7] rfl ?_
            exact cut98 (0) (by unfold cdEffect; omega)
    · skip
      refine jr_iconst (pc := 48) hh dX4_effect_48 ?_
      exact jr_iret (pc := 49) hh hret rfl ⟨0, _, _, _, rfl, rfl, fun _ => ⟨mSc_rf _, by congr 1; unfold cdEffect; omega⟩, fun q => absurd q (by unfold cdEffect; omega)⟩ (by decide) (by decide) dX4_effect_49
  · try dsimp only at cut38
    refine jr_aload_n (pc := 0) hh 0 dX4_effect_0 rfl rfl ?_
    refine jr_aload_n (pc := 1) hh 0 dX4_effect_1 rfl rfl ?_
    refine jr_iload_n (pc := 2) hh 1 dX4_effect_2 rfl rfl ?_
    refine jr_callV (pc := 3) hh [.int (iI sc)] [.ref (h 0)] (c_X4_isScenario l G h F V fd sc ⟨by omega, by omega⟩ ⟨by omega, by omega⟩) gX4_effect_X4_isScenario rfl (by decide) (by decide) [0, 1, 2, 3, 4, 5, 6, 7, 8, 9, 10, 11, 12, 13, 14, 15, 16] [] rfl rfl rfl rfl (by decide) 0 rfl rfl 1 rfl rfl (Nat.le_of_ble_eq_true rfl) (by decide +kernel) dX4_effect_3 (fun rvu8 wu8 hu8 => ?_)
    obtain ⟨rfl, rfl⟩ := hu8
    refine jr_perm (ws' := (wM G h F V fd)) (st := [.int (iI (inI sc 0 (V 3 - 1))), .ref (h 0)]) [0, 1, 2, 3, 4, 5, 6, 7, 8, 9, 10, 11, 12, 13, 14, 15, 16] rfl rfl ?_
    have hin7 : (inI sc 0 (V 3 - 1)) = if 0 ≤ sc ∧ sc ≤ V 3 - 1 then 1 else 0 := rfl
    refine jr_if_eq (tgt := 33) (pc := 6) hh dX4_effect_6 (by decide) ⟨by omega, by omega⟩ (fun c9 => ?_) (fun c9 => ?_)
    · skip
      refine jr_iconst (pc := 33) hh dX4_effect_33 ?_
      refine jr_goto (tgt := 38) (pc := 34) hh dX4_effect_34 (by decide) ?_
      refine jr_loc (lv' := [(0, .ref (h 0)), (1, .int (iI sc)), (2, .int (iI d)), (3, .int (iI i)), (4, .int (iI t))]) [0, 1, 2, 3, 4] rfl ?_
      exact cut38 (1) (by omega)
    · skip
      refine jr_aload_n (pc := 9) hh 0 dX4_effect_9 rfl rfl ?_
      refine jr_iload_n (pc := 10) hh 2 dX4_effect_10 rfl rfl ?_
      refine jr_callV (pc := 11) hh [.int (iI d)] [.ref (h 0)] (c_X4_isDriver l G h F V fd d ⟨by omega, by omega⟩ ⟨by omega, by omega⟩) gX4_effect_X4_isDriver rfl (by decide) (by decide) [0, 1, 2, 3, 4, 5, 6, 7, 8, 9, 10, 11, 12, 13, 14, 15, 16] [] rfl rfl rfl rfl (by decide) 0 rfl rfl 1 rfl rfl (Nat.le_of_ble_eq_true rfl) (by decide +kernel) dX4_effect_11 (fun rvu11 wu11 hu11 => ?_)
      obtain ⟨rfl, rfl⟩ := hu11
      refine jr_perm (ws' := (wM G h F V fd)) (st := [.int (iI (inI d 0 (V 1 - 1))), .ref (h 0)]) [0, 1, 2, 3, 4, 5, 6, 7, 8, 9, 10, 11, 12, 13, 14, 15, 16] rfl rfl ?_
      have hin10 : (inI d 0 (V 1 - 1)) = if 0 ≤ d ∧ d ≤ V 1 - 1 then 1 else 0 := rfl
      refine jr_if_eq (tgt := 33) (pc := 14) hh dX4_effect_14 (by decide) ⟨by omega, by omega⟩ (fun c12 => ?_) (fun c12 => ?_)
      · skip
        refine jr_iconst (pc := 33) hh dX4_effect_33 ?_
        refine jr_goto (tgt := 38) (pc := 34) hh dX4_effect_34 (by decide) ?_
        refine jr_loc (lv' := [(0, .ref (h 0)), (1, .int (iI sc)), (2, .int (iI d)), (3, .int (iI i)), (4, .int (iI t))]) [0, 1, 2, 3, 4] rfl ?_
        exact cut38 (1) (by omega)
      · skip
        refine jr_aload_n (pc := 17) hh 0 dX4_effect_17 rfl rfl ?_
        refine jr_iload_n (pc := 18) hh 3 dX4_effect_18 rfl rfl ?_
        refine jr_callV (pc := 19) hh [.int (iI i)] [.ref (h 0)] (c_X4_isLine l G h F V fd i ⟨by omega, by omega⟩ ⟨by omega, by omega⟩) gX4_effect_X4_isLine rfl (by decide) (by decide) [0, 1, 2, 3, 4, 5, 6, 7, 8, 9, 10, 11, 12, 13, 14, 15, 16] [] rfl rfl rfl rfl (by decide) 0 rfl rfl 1 rfl rfl (Nat.le_of_ble_eq_true rfl) (by decide +kernel) dX4_effect_19 (fun rvu14 wu14 hu14 => ?_)
        obtain ⟨rfl, rfl⟩ := hu14
        refine jr_perm (ws' := (wM G h F V fd)) (st := [.int (iI (inI i 0 (V 2 - 1))), .ref (h 0)]) [0, 1, 2, 3, 4, 5, 6, 7, 8, 9, 10, 11, 12, 13, 14, 15, 16] rfl rfl ?_
        have hin13 : (inI i 0 (V 2 - 1)) = if 0 ≤ i ∧ i ≤ V 2 - 1 then 1 else 0 := rfl
        refine jr_if_eq (tgt := 33) (pc := 22) hh dX4_effect_22 (by decide) ⟨by omega, by omega⟩ (fun c15 => ?_) (fun c15 => ?_)
        · skip
          refine jr_iconst (pc := 33) hh dX4_effect_33 ?_
          refine jr_goto (tgt := 38) (pc := 34) hh dX4_effect_34 (by decide) ?_
          refine jr_loc (lv' := [(0, .ref (h 0)), (1, .int (iI sc)), (2, .int (iI d)), (3, .int (iI i)), (4, .int (iI t))]) [0, 1, 2, 3, 4] rfl ?_
          exact cut38 (1) (by omega)
        · skip
          refine jr_iload (pc := 25) hh 4 dX4_effect_25 rfl ?_
          refine jr_callS (pc := 27) hh [.int (iI t)] [.ref (h 0)] (c_X4_isMonth l G t ⟨by omega, by omega⟩) gX4_effect_X4_isMonth rfl (by decide) (by decide) [] [0, 1, 2, 3, 4, 5, 6, 7, 8, 9, 10, 11, 12, 13, 14, 15, 16] rfl rfl rfl rfl (by decide) 1 rfl rfl (Nat.le_of_ble_eq_true rfl) (by decide +kernel) dX4_effect_27 (fun rvu17 wu17 hu17 => ?_)
          obtain ⟨rfl, rfl⟩ := hu17
          refine jr_perm (ws' := (wM G h F V fd)) (st := [.int (iI (inI t 0 11)), .ref (h 0)]) [0, 1, 2, 3, 4, 5, 6, 7, 8, 9, 10, 11, 12, 13, 14, 15, 16] rfl rfl ?_
          have hin16 : (inI t 0 11) = if 0 ≤ t ∧ t ≤ 11 then 1 else 0 := rfl
          refine jr_if_ne (tgt := 37) (pc := 30) hh dX4_effect_30 (by decide) ⟨by omega, by omega⟩ (fun c18 => ?_) (fun c18 => ?_)
          · skip
            refine jr_iconst (pc := 37) hh dX4_effect_37 ?_
            refine jr_loc (lv' := [(0, .ref (h 0)), (1, .int (iI sc)), (2, .int (iI d)), (3, .int (iI i)), (4, .int (iI t))]) [0, 1, 2, 3, 4] rfl ?_
            exact cut38 (0) (by omega)
          · skip
            refine jr_iconst (pc := 33) hh dX4_effect_33 ?_
            refine jr_goto (tgt := 38) (pc := 34) hh dX4_effect_34 (by decide) ?_
            refine jr_loc (lv' := [(0, .ref (h 0)), (1, .int (iI sc)), (2, .int (iI d)), (3, .int (iI i)), (4, .int (iI t))]) [0, 1, 2, 3, 4] rfl ?_
            exact cut38 (1) (by omega)
def yrM (F : Nat → Nat → Int) (V : Nat → Int) (s i : Nat) (u : Nat) : Int := enc (nmM F V s u 6 i)
def jMet_mono {l : Launch} {y : MethodName} {ws : List Cond} {rm : Room} {G : jG} {w0 : va_W} {av : List Value} {post post2 : Option Value → va_W → Prop} (h : jMet l y ws rm G w0 av post) (e : post = post2) : jMet l y ws rm G w0 av post2 := e ▸ h
set_option maxRecDepth 20000 in
theorem in_X4_year_X4 : ∀ w ∈ u_ws RX4 TX4 22, w ∈ wsX4_year := by decide +kernel
set_option maxHeartbeats 4000000 in
set_option maxRecDepth 100000 in
theorem e_X4_year (l : Launch) (G : jG) (h : Nat → Nat) (F : Nat → Nat → Int) (V : Nat → Int) (fd : Nat → Int) (sc i : Int) (hrsc : jR sc) (hri : jR i) (hk : okM F V) (hno : ¬ ((0 ≤ sc ∧ sc < V 3) ∧ (0 ≤ i ∧ i < V 2))) : jMet l yX4_year wsX4_year { frames := 6, cells := 0, slots := 0, locals := 300 } G (wM G h F V fd) [.ref (h 0), .int (iI sc), .int (iI i)] (fun rv w1 => ∃ (v : Int) (F' : Nat → Nat → Int) (V' fd' : Nat → Int), rv = some (.long (lI v)) ∧ w1 = wM G h F' V' fd' ∧ (cdYear (V 3) (V 2) sc i (cntTo (yrM F V sc.toNat i.toNat) (-1000000000) 12) ≠ 0 → mSc F F' ∧ V' = jU V 0 (cdYear (V 3) (V 2) sc i (cntTo (yrM F V sc.toNat i.toNat) (-1000000000) 12))) ∧ (cdYear (V 3) (V 2) sc i (cntTo (yrM F V sc.toNat i.toNat) (-1000000000) 12) = 0 → v = sumTo (yrM F V sc.toNat i.toNat) 12 ∧ mSc F F' ∧ V' = jU V 0 0)) := by
  refine jMet_of (cc := cX4_year) (maxL := 6) (ret := (some .long)) (by decide +kernel) rfl (Nat.le_of_ble_eq_true rfl) ?_
  intro p e s m args below meth c A hh hret hinit
  refine jr_loc (lv' := [(0, .ref (h 0)), (1, .int (iI sc)), (2, .int (iI i))]) [0, 1, 2] rfl ?_
  obtain ⟨hV1, hV2, hV3, hV4, hV5, -⟩ := id hk
  have hrsc1 := hrsc.1
  have hrsc2 := hrsc.2
  have hri1 := hri.1
  have hri2 := hri.2
  refine jr_cut (σ := Int) 22 (fun (cd : Int) => cd = 1) (fun (cd : Int) => (wM G h F V fd)) (fun (cd : Int) => [(0, .ref (h 0)), (1, .int (iI sc)), (2, .int (iI i))]) (fun (cd : Int) => [.int (iI cd), .ref (h 0)]) ?_ (fun cut22 => ?_)
  · rintro cd hcut22
    try dsimp only
    try dsimp only at hcut22
    refine jr_put (ws' := (wM G h F (jU V 0 cd) fd)) (pc := 22) hh in_X4_year_X4 tyX4_ok nmX4 0 rfl rfl 16 (by decide) (by decide +kernel : Cond.fieldLink RX4 61 (TX4 16).1 (TX4 16).2.1 (TX4 16).2.2.1 ∈ wsX4_year) rfl rfl (Nat.le_of_ble_eq_true rfl) rfl dX4_year_22 ?_
    refine jr_lconst (z := 0) (pc := 25) hh dX4_year_25 (by decide) ?_
    refine jr_lstore_n (lv' := [(3, .long (lI 0)), (0, .ref (h 0)), (1, .int (iI sc)), (2, .int (iI i))]) (pc := 26) hh dX4_year_26 rfl (by decide) rfl ?_
    refine jr_iconst (pc := 27) hh dX4_year_27 ?_
    refine jr_istore (lv' := [(5, .int (iI 0)), (3, .long (lI 0)), (0, .ref (h 0)), (1, .int (iI sc)), (2, .int (iI i))]) (pc := 28) hh dX4_year_28 (by decide) rfl ?_
    refine jr_iload (pc := 30) hh 0 dX4_year_30 rfl ?_
    refine jr_bipush (pc := 32) hh dX4_year_32 (by decide) ?_
    refine jr_icmp_ge (tgt := 77) (pc := 34) hh dX4_year_34 (by decide) ⟨by omega, by omega⟩ ⟨by omega, by omega⟩ (fun c1 => absurd c1 (by omega)) (fun c1 => ?_)
    refine jr_aload_n (pc := 37) hh 2 dX4_year_37 rfl rfl ?_
    refine jr_get (v := .int (iI cd)) (pc := 38) hh in_X4_year_X4 0 rfl rfl 16 (by decide) (by decide +kernel : Cond.fieldLink RX4 61 (TX4 16).1 (TX4 16).2.1 (TX4 16).2.2.1 ∈ wsX4_year) rfl dX4_year_38 ?_
    refine jr_if_ne (tgt := 77) (pc := 41) hh dX4_year_41 (by decide) ⟨by omega, by omega⟩ (fun c2 => ?_) (fun c2 => absurd c2 (by omega))
    refine jr_aload_n (pc := 77) hh 2 dX4_year_77 rfl rfl ?_
    refine jr_get (v := .int (iI cd)) (pc := 78) hh in_X4_year_X4 0 rfl rfl 16 (by decide) (by decide +kernel : Cond.fieldLink RX4 61 (TX4 16).1 (TX4 16).2.1 (TX4 16).2.2.1 ∈ wsX4_year) rfl dX4_year_78 ?_
    refine jr_if_le (tgt := 88) (pc := 81) hh dX4_year_81 (by decide) ⟨by omega, by omega⟩ (fun c3 => absurd c3 (by omega)) (fun c3 => ?_)
    refine jr_lconst (z := 0) (pc := 84) hh dX4_year_84 (by decide) ?_
    refine jr_goto (tgt := 89) (pc := 85) hh dX4_year_85 (by decide) ?_
    exact jr_lret (pc := 89) hh hret ⟨0, _, _, _, rfl, rfl, fun _ => ⟨mSc_rf _, by rw [hcut22]; congr 1; unfold cdYear; omega⟩, fun q => absurd q (by unfold cdYear; omega)⟩ (by decide) (by decide) dX4_year_89
  · try dsimp only at cut22
    refine jr_aload_n (pc := 0) hh 0 dX4_year_0 rfl rfl ?_
    refine jr_aload_n (pc := 1) hh 0 dX4_year_1 rfl rfl ?_
    refine jr_iload_n (pc := 2) hh 1 dX4_year_2 rfl rfl ?_
    refine jr_callV (pc := 3) hh [.int (iI sc)] [.ref (h 0)] (c_X4_isScenario l G h F V fd sc ⟨by omega, by omega⟩ ⟨by omega, by omega⟩) gX4_year_X4_isScenario rfl (by decide) (by decide) [0, 1, 2, 3, 4, 5, 6, 7, 8, 9, 10, 11, 12, 13, 14, 15, 16] [] rfl rfl rfl rfl (by decide) 0 rfl rfl 1 rfl rfl (Nat.le_of_ble_eq_true rfl) (by decide +kernel) dX4_year_3 (fun rvu5 wu5 hu5 => ?_)
    obtain ⟨rfl, rfl⟩ := hu5
    refine jr_perm (ws' := (wM G h F V fd)) (st := [.int (iI (inI sc 0 (V 3 - 1))), .ref (h 0)]) [0, 1, 2, 3, 4, 5, 6, 7, 8, 9, 10, 11, 12, 13, 14, 15, 16] rfl rfl ?_
    have hin4 : (inI sc 0 (V 3 - 1)) = if 0 ≤ sc ∧ sc ≤ V 3 - 1 then 1 else 0 := rfl
    refine jr_if_eq (tgt := 17) (pc := 6) hh dX4_year_6 (by decide) ⟨by omega, by omega⟩ (fun c6 => ?_) (fun c6 => ?_)
    · skip
      refine jr_iconst (pc := 17) hh dX4_year_17 ?_
      refine jr_goto (tgt := 22) (pc := 18) hh dX4_year_18 (by decide) ?_
      refine jr_loc (lv' := [(0, .ref (h 0)), (1, .int (iI sc)), (2, .int (iI i))]) [0, 1, 2] rfl ?_
      exact cut22 (1) (by omega)
    · skip
      refine jr_aload_n (pc := 9) hh 0 dX4_year_9 rfl rfl ?_
      refine jr_iload_n (pc := 10) hh 2 dX4_year_10 rfl rfl ?_
      refine jr_callV (pc := 11) hh [.int (iI i)] [.ref (h 0)] (c_X4_isLine l G h F V fd i ⟨by omega, by omega⟩ ⟨by omega, by omega⟩) gX4_year_X4_isLine rfl (by decide) (by decide) [0, 1, 2, 3, 4, 5, 6, 7, 8, 9, 10, 11, 12, 13, 14, 15, 16] [] rfl rfl rfl rfl (by decide) 0 rfl rfl 1 rfl rfl (Nat.le_of_ble_eq_true rfl) (by decide +kernel) dX4_year_11 (fun rvu8 wu8 hu8 => ?_)
      obtain ⟨rfl, rfl⟩ := hu8
      refine jr_perm (ws' := (wM G h F V fd)) (st := [.int (iI (inI i 0 (V 2 - 1))), .ref (h 0)]) [0, 1, 2, 3, 4, 5, 6, 7, 8, 9, 10, 11, 12, 13, 14, 15, 16] rfl rfl ?_
      have hin7 : (inI i 0 (V 2 - 1)) = if 0 ≤ i ∧ i ≤ V 2 - 1 then 1 else 0 := rfl
      refine jr_if_ne (tgt := 21) (pc := 14) hh dX4_year_14 (by decide) ⟨by omega, by omega⟩ (fun c9 => ?_) (fun c9 => ?_)
      · skip
        refine jr_iconst (pc := 21) hh dX4_year_21 ?_
        refine jr_loc (lv' := [(0, .ref (h 0)), (1, .int (iI sc)), (2, .int (iI i))]) [0, 1, 2] rfl ?_
        exact cut22 (0) (by omega)
      · skip
        refine jr_iconst (pc := 17) hh dX4_year_17 ?_
        refine jr_goto (tgt := 22) (pc := 18) hh dX4_year_18 (by decide) ?_
        refine jr_loc (lv' := [(0, .ref (h 0)), (1, .int (iI sc)), (2, .int (iI i))]) [0, 1, 2] rfl ?_
        exact cut22 (1) (by omega)
set_option maxHeartbeats 4000000 in
set_option maxRecDepth 100000 in
theorem d_X4_year (l : Launch) (G : jG) (h : Nat → Nat) (F : Nat → Nat → Int) (V : Nat → Int) (fd : Nat → Int) (sN iN : Nat) (hk : okM F V) (hs : (sN : Int) < V 3) (hi : (iN : Int) < V 2) : jMet l yX4_year wsX4_year { frames := 6, cells := 0, slots := 0, locals := 300 } G (wM G h F V fd) [.ref (h 0), .int (iI (sN : Int)), .int (iI (iN : Int))] (fun rv w1 => ∃ (v : Int) (F' : Nat → Nat → Int) (V' fd' : Nat → Int), rv = some (.long (lI v)) ∧ w1 = wM G h F' V' fd' ∧ (cdYear (V 3) (V 2) sN iN (cntTo (yrM F V sN iN) (-1000000000) 12) ≠ 0 → mSc F F' ∧ V' = jU V 0 (cdYear (V 3) (V 2) sN iN (cntTo (yrM F V sN iN) (-1000000000) 12))) ∧ (cdYear (V 3) (V 2) sN iN (cntTo (yrM F V sN iN) (-1000000000) 12) = 0 → v = sumTo (yrM F V sN iN) 12 ∧ mSc F F' ∧ V' = jU V 0 0)) := by
  refine jMet_of (cc := cX4_year) (maxL := 6) (ret := (some .long)) (by decide +kernel) rfl (Nat.le_of_ble_eq_true rfl) ?_
  intro p e s m args below meth c A hh hret hinit
  refine jr_loc (lv' := [(0, .ref (h 0)), (1, .int (iI (sN : Int))), (2, .int (iI (iN : Int)))]) [0, 1, 2] rfl ?_
  obtain ⟨hV1, hV2, hV3, hV4, hV5, -⟩ := id hk
  refine jr_cut (σ := Int) 22 (fun (cd : Int) => cd = 0) (fun (cd : Int) => (wM G h F V fd)) (fun (cd : Int) => [(0, .ref (h 0)), (1, .int (iI (sN : Int))), (2, .int (iI (iN : Int)))]) (fun (cd : Int) => [.int (iI cd), .ref (h 0)]) ?_ (fun cut22 => ?_)
  · rintro cd hcut22
    try dsimp only
    try dsimp only at hcut22
    refine jr_put (ws' := (wM G h F (jU V 0 cd) fd)) (pc := 22) hh in_X4_year_X4 tyX4_ok nmX4 0 rfl rfl 16 (by decide) (by decide +kernel : Cond.fieldLink RX4 61 (TX4 16).1 (TX4 16).2.1 (TX4 16).2.2.1 ∈ wsX4_year) rfl rfl (Nat.le_of_ble_eq_true rfl) rfl dX4_year_22 ?_
    refine jr_lconst (z := 0) (pc := 25) hh dX4_year_25 (by decide) ?_
    refine jr_lstore_n (lv' := [(3, .long (lI 0)), (0, .ref (h 0)), (1, .int (iI (sN : Int))), (2, .int (iI (iN : Int)))]) (pc := 26) hh dX4_year_26 rfl (by decide) rfl ?_
    refine jr_iconst (pc := 27) hh dX4_year_27 ?_
    refine jr_istore (lv' := [(5, .int (iI 0)), (3, .long (lI 0)), (0, .ref (h 0)), (1, .int (iI (sN : Int))), (2, .int (iI (iN : Int)))]) (pc := 28) hh dX4_year_28 (by decide) rfl ?_
    refine jr_loc (lv' := [(0, .ref (h 0)), (1, .int (iI (sN : Int))), (2, .int (iI (iN : Int))), (3, .long (lI 0)), (5, .int (iI 0))]) [2, 3, 4, 1, 0] rfl ?_
    refine jr_lvset (a := 0) (b := (0 : Int)) (lv' := [(0, .ref (h 0)), (1, .int (iI (sN : Int))), (2, .int (iI (iN : Int))), (3, .long (lI 0)), (5, .int (iI (0 : Int)))]) 4 rfl (by first | rfl | omega) rfl ?_
    refine jr_ws (ws' := (wM G h (uF F 13 (F 13)) (jU V 0 cd) fd)) rfl ?_
    refine jr_loop (σ := Nat × Int × Int × (Nat → Int) × (Nat → Int)) (fun (x : Nat × Int × Int × (Nat → Int) × (Nat → Int)) => match x with | (t, c, sm, isf, fnd) => (t ≤ 12) ∧ ((c = 0 ∧ (∀ u : Nat, u < t → yrM F V sN iN u ≠ -1000000000) ∧ sm = sumTo (yrM F V sN iN) t) ∨ (c = 2 ∧ 0 < cntTo (yrM F V sN iN) (-1000000000) 12))) (fun (x : Nat × Int × Int × (Nat → Int) × (Nat → Int)) => match x with | (t, c, sm, isf, fnd) => 12 - t) (fun (x : Nat × Int × Int × (Nat → Int) × (Nat → Int)) => match x with | (t, c, sm, isf, fnd) => (wM G h (uF F 13 isf) (jU V 0 c) fnd)) (fun (x : Nat × Int × Int × (Nat → Int) × (Nat → Int)) => match x with | (t, c, sm, isf, fnd) => [(0, .ref (h 0)), (1, .int (iI (sN : Int))), (2, .int (iI (iN : Int))), (3, .long (lI sm)), (5, .int (iI (t : Int)))]) (fun (x : Nat × Int × Int × (Nat → Int) × (Nat → Int)) => match x with | (t, c, sm, isf, fnd) => []) ?_ (0, cd, 0, (F 13), fd) ⟨by (try dsimp only); omega, Or.inl ⟨by (try dsimp only); omega, fun u hu => absurd hu (Nat.not_lt_zero _), rfl⟩⟩
    rintro ⟨t, c, sm, isf, fnd⟩ ⟨ht, hc⟩ ih1
    try dsimp only at ih1 ⊢
    try dsimp only at ht hc
    refine jr_iload (pc := 30) hh 4 dX4_year_30 rfl ?_
    refine jr_bipush (pc := 32) hh dX4_year_32 (by decide) ?_
    refine jr_icmp_ge (tgt := 77) (pc := 34) hh dX4_year_34 (by decide) ⟨by omega, by omega⟩ ⟨by omega, by omega⟩ (fun c2 => ?_) (fun c2 => ?_)
    · skip
      have hc1 : c = 0 ∨ c = 2 := by
        rcases hc with ⟨q, -⟩ | ⟨q, -⟩
        · exact Or.inl q
        · exact Or.inr q
      have hz : c = 0 → (∀ u : Nat, u < t → yrM F V sN iN u ≠ -1000000000) ∧ sm = sumTo (yrM F V sN iN) t := by
        intro q
        rcases hc with ⟨-, q2⟩ | ⟨q2, -⟩
        · exact q2
        · exact absurd q2 (by omega)
      have hz2 : c = 2 → 0 < cntTo (yrM F V sN iN) (-1000000000) 12 := by
        intro q
        rcases hc with ⟨q2, -⟩ | ⟨-, q2⟩
        · exact absurd q2 (by omega)
        · exact q2
      refine jr_aload_n (pc := 77) hh 0 dX4_year_77 rfl rfl ?_
      refine jr_get (v := .int (iI c)) (pc := 78) hh in_X4_year_X4 0 rfl rfl 16 (by decide) (by decide +kernel : Cond.fieldLink RX4 61 (TX4 16).1 (TX4 16).2.1 (TX4 16).2.2.1 ∈ wsX4_year) rfl dX4_year_78 ?_
      refine jr_if_le (tgt := 88) (pc := 81) hh dX4_year_81 (by decide) ⟨by omega, by omega⟩ (fun c3 => ?_) (fun c3 => ?_)
      · skip
        refine jr_lload_n (pc := 88) hh 3 dX4_year_88 rfl rfl ?_
        exact jr_lret (pc := 89) hh hret ⟨sm, _, _, _, rfl, rfl, fun q => absurd (by have hz12 := cntTo_zero (f := yrM F V sN iN) (w := -1000000000) (n := 12) (fun k hk9 => (hz (by omega)).1 k (by omega)); unfold cdYear; omega) q, fun _ => ⟨by rw [(hz (by omega)).2, show t = 12 by omega], mSc_13 _ _, by congr 1; omega⟩⟩ (by decide) (by decide) dX4_year_89
      · skip
        refine jr_lconst (z := 0) (pc := 84) hh dX4_year_84 (by decide) ?_
        refine jr_goto (tgt := 89) (pc := 85) hh dX4_year_85 (by decide) ?_
        exact jr_lret (pc := 89) hh hret ⟨0, _, _, _, rfl, rfl, fun _ => ⟨mSc_13 _ _, by congr 1; have h2 := hz2 (by omega); unfold cdYear; omega⟩, fun q => absurd q (by have h2 := hz2 (by omega); unfold cdYear; omega)⟩ (by decide) (by decide) dX4_year_89
    · skip
      refine jr_aload_n (pc := 37) hh 0 dX4_year_37 rfl rfl ?_
      refine jr_get (v := .int (iI c)) (pc := 38) hh in_X4_year_X4 0 rfl rfl 16 (by decide) (by decide +kernel : Cond.fieldLink RX4 61 (TX4 16).1 (TX4 16).2.1 (TX4 16).2.2.1 ∈ wsX4_year) rfl dX4_year_38 ?_
      refine jr_if_ne (tgt := 77) (pc := 41) hh dX4_year_41 (by decide) ⟨by omega, by omega⟩ (fun c4 => ?_) (fun c4 => ?_)
      · skip
        have hc1 : c = 0 ∨ c = 2 := by
          rcases hc with ⟨q, -⟩ | ⟨q, -⟩
          · exact Or.inl q
          · exact Or.inr q
        have hz : c = 0 → (∀ u : Nat, u < t → yrM F V sN iN u ≠ -1000000000) ∧ sm = sumTo (yrM F V sN iN) t := by
          intro q
          rcases hc with ⟨-, q2⟩ | ⟨q2, -⟩
          · exact q2
          · exact absurd q2 (by omega)
        have hz2 : c = 2 → 0 < cntTo (yrM F V sN iN) (-1000000000) 12 := by
          intro q
          rcases hc with ⟨q2, -⟩ | ⟨-, q2⟩
          · exact absurd q2 (by omega)
          · exact q2
        refine jr_aload_n (pc := 77) hh 0 dX4_year_77 rfl rfl ?_
        refine jr_get (v := .int (iI c)) (pc := 78) hh in_X4_year_X4 0 rfl rfl 16 (by decide) (by decide +kernel : Cond.fieldLink RX4 61 (TX4 16).1 (TX4 16).2.1 (TX4 16).2.2.1 ∈ wsX4_year) rfl dX4_year_78 ?_
        refine jr_if_le (tgt := 88) (pc := 81) hh dX4_year_81 (by decide) ⟨by omega, by omega⟩ (fun c5 => ?_) (fun c5 => ?_)
        · skip
          refine jr_lload_n (pc := 88) hh 3 dX4_year_88 rfl rfl ?_
          exact jr_lret (pc := 89) hh hret ⟨sm, _, _, _, rfl, rfl, fun q => absurd (by have hz12 := cntTo_zero (f := yrM F V sN iN) (w := -1000000000) (n := 12) (fun k hk9 => (hz (by omega)).1 k (by omega)); unfold cdYear; omega) q, fun _ => ⟨by rw [(hz (by omega)).2, show t = 12 by omega], mSc_13 _ _, by congr 1; omega⟩⟩ (by decide) (by decide) dX4_year_89
        · skip
          refine jr_lconst (z := 0) (pc := 84) hh dX4_year_84 (by decide) ?_
          refine jr_goto (tgt := 89) (pc := 85) hh dX4_year_85 (by decide) ?_
          exact jr_lret (pc := 89) hh hret ⟨0, _, _, _, rfl, rfl, fun _ => ⟨mSc_13 _ _, by congr 1; have h2 := hz2 (by omega); unfold cdYear; omega⟩, fun q => absurd q (by have h2 := hz2 (by omega); unfold cdYear; omega)⟩ (by decide) (by decide) dX4_year_89
      · skip
        refine jr_aload_n (pc := 44) hh 0 dX4_year_44 rfl rfl ?_
        refine jr_iload_n (pc := 45) hh 1 dX4_year_45 rfl rfl ?_
        refine jr_iload_n (pc := 46) hh 2 dX4_year_46 rfl rfl ?_
        refine jr_iload (pc := 47) hh 4 dX4_year_47 rfl ?_
        refine jr_bipush (pc := 49) hh dX4_year_49 (by decide) ?_
        refine jr_callV (pc := 51) hh [.int (iI (sN : Int)), .int (iI (iN : Int)), .int (iI (t : Int)), .int (iI 6)] [] (c_X4_finds l G h (uF F 13 isf) (jU V 0 c) fnd sN iN t 6 hk hs hi (by omega) (by decide)) gX4_year_X4_finds rfl (by decide) (by decide) [0, 1, 2, 3, 4, 5, 6, 7, 8, 9, 10, 11, 12, 13, 14, 15, 16] [] rfl rfl rfl rfl (by decide) 0 rfl rfl 4 rfl rfl (Nat.le_of_ble_eq_true rfl) (by decide +kernel) dX4_year_51 (fun rvu6 wu6 hu6 => ?_)
        obtain ⟨rfl, isfz, fdz, hfdz, rfl⟩ := hu6
        refine jr_perm (ws' := (wM G h (uF F 13 isfz) (jU V 0 c) fdz)) (st := [.int (iI (if yrM F V sN iN t = -1000000000 then 0 else 1))]) [0, 1, 2, 3, 4, 5, 6, 7, 8, 9, 10, 11, 12, 13, 14, 15, 16] rfl rfl ?_
        replace hfdz : yrM F V sN iN t ≠ -1000000000 → fdz iN = yrM F V sN iN t := hfdz
        have hc0 : (∀ u : Nat, u < t → yrM F V sN iN u ≠ -1000000000) ∧ sm = sumTo (yrM F V sN iN) t := by
          rcases hc with ⟨-, q⟩ | ⟨q, -⟩
          · exact q
          · exact absurd q (by omega)
        refine jr_if_ne (tgt := 62) (pc := 54) hh dX4_year_54 (by decide) ⟨by omega, by omega⟩ (fun c7 => ?_) (fun c7 => ?_)
        · skip
          refine jr_lload_n (pc := 62) hh 3 dX4_year_62 rfl rfl ?_
          refine jr_aload_n (pc := 63) hh 0 dX4_year_63 rfl rfl ?_
          refine jr_get (v := .ref (h 16)) (pc := 64) hh in_X4_year_X4 0 rfl rfl 15 (by decide) (by decide +kernel : Cond.fieldLink RX4 57 (TX4 15).1 (TX4 15).2.1 (TX4 15).2.2.1 ∈ wsX4_year) rfl dX4_year_64 ?_
          refine jr_iload_n (pc := 67) hh 2 dX4_year_67 rfl rfl ?_
          refine jr_lald (F := fdz) (pc := 68) hh 16 rfl iN (by omega) (by omega) (by decide) dX4_year_68 ?_
          refine jr_ladd (pc := 69) hh dX4_year_69 ?_
          refine jr_lstore_n (lv' := [(3, .long (lI (sm + (fdz iN)))), (0, .ref (h 0)), (1, .int (iI (sN : Int))), (2, .int (iI (iN : Int))), (5, .int (iI (t : Int)))]) (pc := 70) hh dX4_year_70 rfl (by decide) rfl ?_
          refine jr_iinc (a := (t : Int)) (b := (((t + 1) : Nat) : Int)) (lv' := [(5, .int (iI (((t + 1) : Nat) : Int))), (3, .long (lI (sm + (fdz iN)))), (0, .ref (h 0)), (1, .int (iI (sN : Int))), (2, .int (iI (iN : Int)))]) (pc := 71) hh 4 dX4_year_71 rfl (by omega) (by decide) rfl ?_
          refine jr_goto (tgt := 30) (pc := 74) hh dX4_year_74 (by decide) ?_
          have hc2 : (c = 0 ∧ (∀ u : Nat, u < t + 1 → yrM F V sN iN u ≠ -1000000000) ∧ (sm + (fdz iN)) = sumTo (yrM F V sN iN) (t + 1)) ∨ (c = 2 ∧ 0 < cntTo (yrM F V sN iN) (-1000000000) 12) := by
            have hne : yrM F V sN iN t ≠ -1000000000 := by omega
            have hf := hfdz hne
            refine Or.inl ⟨by omega, fun u hu => ?_, ?_⟩
            · by_cases hq : u = t
              · subst hq; exact hne
              · exact hc0.1 u (by omega)
            · rw [sumTo_s, hf, hc0.2]
          refine jr_loc (lv' := [(0, .ref (h 0)), (1, .int (iI (sN : Int))), (2, .int (iI (iN : Int))), (3, .long (lI (sm + (fdz iN)))), (5, .int (iI (((t + 1) : Nat) : Int)))]) [2, 3, 4, 1, 0] rfl ?_
          exact ih1 ((t + 1), c, (sm + (fdz iN)), isfz, fdz) ⟨by (try dsimp only); omega, hc2⟩ (by (try dsimp only); omega)
        · skip
          refine jr_aload_n (pc := 57) hh 0 dX4_year_57 rfl rfl ?_
          refine jr_iconst (pc := 58) hh dX4_year_58 ?_
          refine jr_put (ws' := (wM G h (uF F 13 isfz) (jU V 0 2) fdz)) (pc := 59) hh in_X4_year_X4 tyX4_ok nmX4 0 rfl rfl 16 (by decide) (by decide +kernel : Cond.fieldLink RX4 61 (TX4 16).1 (TX4 16).2.1 (TX4 16).2.2.1 ∈ wsX4_year) rfl rfl (Nat.le_of_ble_eq_true rfl) rfl dX4_year_59 ?_
          refine jr_lload_n (pc := 62) hh 3 dX4_year_62 rfl rfl ?_
          refine jr_aload_n (pc := 63) hh 0 dX4_year_63 rfl rfl ?_
          refine jr_get (v := .ref (h 16)) (pc := 64) hh in_X4_year_X4 0 rfl rfl 15 (by decide) (by decide +kernel : Cond.fieldLink RX4 57 (TX4 15).1 (TX4 15).2.1 (TX4 15).2.2.1 ∈ wsX4_year) rfl dX4_year_64 ?_
          refine jr_iload_n (pc := 67) hh 2 dX4_year_67 rfl rfl ?_
          refine jr_lald (F := fdz) (pc := 68) hh 16 rfl iN (by omega) (by omega) (by decide) dX4_year_68 ?_
          refine jr_ladd (pc := 69) hh dX4_year_69 ?_
          refine jr_lstore_n (lv' := [(3, .long (lI (sm + (fdz iN)))), (0, .ref (h 0)), (1, .int (iI (sN : Int))), (2, .int (iI (iN : Int))), (5, .int (iI (t : Int)))]) (pc := 70) hh dX4_year_70 rfl (by decide) rfl ?_
          refine jr_iinc (a := (t : Int)) (b := (((t + 1) : Nat) : Int)) (lv' := [(5, .int (iI (((t + 1) : Nat) : Int))), (3, .long (lI (sm + (fdz iN)))), (0, .ref (h 0)), (1, .int (iI (sN : Int))), (2, .int (iI (iN : Int)))]) (pc := 71) hh 4 dX4_year_71 rfl (by omega) (by decide) rfl ?_
          refine jr_goto (tgt := 30) (pc := 74) hh dX4_year_74 (by decide) ?_
          have hpz := cntTo_pos (f := yrM F V sN iN) (w := -1000000000) (n := 12) t (by omega) (by omega)
          have hc2 : ((2 : Int) = 0 ∧ (∀ u : Nat, u < t + 1 → yrM F V sN iN u ≠ -1000000000) ∧ (sm + (fdz iN)) = sumTo (yrM F V sN iN) (t + 1)) ∨ ((2 : Int) = 2 ∧ 0 < cntTo (yrM F V sN iN) (-1000000000) 12) := Or.inr ⟨rfl, hpz⟩
          refine jr_loc (lv' := [(0, .ref (h 0)), (1, .int (iI (sN : Int))), (2, .int (iI (iN : Int))), (3, .long (lI (sm + (fdz iN)))), (5, .int (iI (((t + 1) : Nat) : Int)))]) [2, 3, 4, 1, 0] rfl ?_
          exact ih1 ((t + 1), 2, (sm + (fdz iN)), isfz, fdz) ⟨by (try dsimp only); omega, hc2⟩ (by (try dsimp only); omega)
  · try dsimp only at cut22
    refine jr_aload_n (pc := 0) hh 0 dX4_year_0 rfl rfl ?_
    refine jr_aload_n (pc := 1) hh 0 dX4_year_1 rfl rfl ?_
    refine jr_iload_n (pc := 2) hh 1 dX4_year_2 rfl rfl ?_
    refine jr_callV (pc := 3) hh [.int (iI (sN : Int))] [.ref (h 0)] (c_X4_isScenario l G h F V fd (sN : Int) ⟨by omega, by omega⟩ ⟨by omega, by omega⟩) gX4_year_X4_isScenario rfl (by decide) (by decide) [0, 1, 2, 3, 4, 5, 6, 7, 8, 9, 10, 11, 12, 13, 14, 15, 16] [] rfl rfl rfl rfl (by decide) 0 rfl rfl 1 rfl rfl (Nat.le_of_ble_eq_true rfl) (by decide +kernel) dX4_year_3 (fun rvu9 wu9 hu9 => ?_)
    obtain ⟨rfl, rfl⟩ := hu9
    refine jr_perm (ws' := (wM G h F V fd)) (st := [.int (iI (inI (sN : Int) 0 (V 3 - 1))), .ref (h 0)]) [0, 1, 2, 3, 4, 5, 6, 7, 8, 9, 10, 11, 12, 13, 14, 15, 16] rfl rfl ?_
    have hin8 : (inI (sN : Int) 0 (V 3 - 1)) = if 0 ≤ (sN : Int) ∧ (sN : Int) ≤ V 3 - 1 then 1 else 0 := rfl
    refine jr_if_eq (tgt := 17) (pc := 6) hh dX4_year_6 (by decide) ⟨by omega, by omega⟩ (fun c10 => ?_) (fun c10 => ?_)
    · skip
      refine jr_iconst (pc := 17) hh dX4_year_17 ?_
      refine jr_goto (tgt := 22) (pc := 18) hh dX4_year_18 (by decide) ?_
      refine jr_loc (lv' := [(0, .ref (h 0)), (1, .int (iI (sN : Int))), (2, .int (iI (iN : Int)))]) [0, 1, 2] rfl ?_
      exact cut22 (1) (by omega)
    · skip
      refine jr_aload_n (pc := 9) hh 0 dX4_year_9 rfl rfl ?_
      refine jr_iload_n (pc := 10) hh 2 dX4_year_10 rfl rfl ?_
      refine jr_callV (pc := 11) hh [.int (iI (iN : Int))] [.ref (h 0)] (c_X4_isLine l G h F V fd (iN : Int) ⟨by omega, by omega⟩ ⟨by omega, by omega⟩) gX4_year_X4_isLine rfl (by decide) (by decide) [0, 1, 2, 3, 4, 5, 6, 7, 8, 9, 10, 11, 12, 13, 14, 15, 16] [] rfl rfl rfl rfl (by decide) 0 rfl rfl 1 rfl rfl (Nat.le_of_ble_eq_true rfl) (by decide +kernel) dX4_year_11 (fun rvu12 wu12 hu12 => ?_)
      obtain ⟨rfl, rfl⟩ := hu12
      refine jr_perm (ws' := (wM G h F V fd)) (st := [.int (iI (inI (iN : Int) 0 (V 2 - 1))), .ref (h 0)]) [0, 1, 2, 3, 4, 5, 6, 7, 8, 9, 10, 11, 12, 13, 14, 15, 16] rfl rfl ?_
      have hin11 : (inI (iN : Int) 0 (V 2 - 1)) = if 0 ≤ (iN : Int) ∧ (iN : Int) ≤ V 2 - 1 then 1 else 0 := rfl
      refine jr_if_ne (tgt := 21) (pc := 14) hh dX4_year_14 (by decide) ⟨by omega, by omega⟩ (fun c13 => ?_) (fun c13 => ?_)
      · skip
        refine jr_iconst (pc := 21) hh dX4_year_21 ?_
        refine jr_loc (lv' := [(0, .ref (h 0)), (1, .int (iI (sN : Int))), (2, .int (iI (iN : Int)))]) [0, 1, 2] rfl ?_
        exact cut22 (0) (by omega)
      · skip
        refine jr_iconst (pc := 17) hh dX4_year_17 ?_
        refine jr_goto (tgt := 22) (pc := 18) hh dX4_year_18 (by decide) ?_
        refine jr_loc (lv' := [(0, .ref (h 0)), (1, .int (iI (sN : Int))), (2, .int (iI (iN : Int)))]) [0, 1, 2] rfl ?_
        exact cut22 (1) (by omega)
theorem c_X4_year (l : Launch) (G : jG) (h : Nat → Nat) (F : Nat → Nat → Int) (V : Nat → Int) (fd : Nat → Int) (sc i : Int) (hrsc : jR sc) (hri : jR i) (hk : okM F V) : jMet l yX4_year wsX4_year { frames := 6, cells := 0, slots := 0, locals := 300 } G (wM G h F V fd) [.ref (h 0), .int (iI sc), .int (iI i)] (fun rv w1 => ∃ (v : Int) (F' : Nat → Nat → Int) (V' fd' : Nat → Int), rv = some (.long (lI v)) ∧ w1 = wM G h F' V' fd' ∧ (cdYear (V 3) (V 2) sc i (cntTo (yrM F V sc.toNat i.toNat) (-1000000000) 12) ≠ 0 → mSc F F' ∧ V' = jU V 0 (cdYear (V 3) (V 2) sc i (cntTo (yrM F V sc.toNat i.toNat) (-1000000000) 12))) ∧ (cdYear (V 3) (V 2) sc i (cntTo (yrM F V sc.toNat i.toNat) (-1000000000) 12) = 0 → v = sumTo (yrM F V sc.toNat i.toNat) 12 ∧ mSc F F' ∧ V' = jU V 0 0)) := by
  by_cases q : (0 ≤ sc ∧ sc < V 3) ∧ (0 ≤ i ∧ i < V 2)
  · obtain ⟨sN, rfl⟩ : ∃ k : Nat, sc = (k : Int) := ⟨sc.toNat, by omega⟩
    obtain ⟨iN, rfl⟩ : ∃ k : Nat, i = (k : Int) := ⟨i.toNat, by omega⟩
    exact d_X4_year l G h F V fd sN iN hk (by omega) (by omega)
  · exact e_X4_year l G h F V fd sc i hrsc hri hk q
