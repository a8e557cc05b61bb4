/-! the reference: actuals, approvals -/
def acX (F : Nat → Nat → Int) (c : Nat) : Int := if F 12 c = 1 then F 9 c else -1000000000
theorem mSc_app (F : Nat → Nat → Int) (isf a b c : Nat → Int) : mSc (uF (uF (uF F 14 a) 10 b) 11 c) (uF (uF (uF (uF F 10 b) 11 c) 13 isf) 14 a) := fun k h => by
  by_cases h14 : k = 14
  · subst h14; rfl
  · by_cases h11 : k = 11
    · subst h11; rfl
    · by_cases h10 : k = 10
      · subst h10; rfl
      · rw [uF_n h14, uF_n h, uF_n h11, uF_n h10, uF_n h11, uF_n h10, uF_n h14]
def tolM (F : Nat → Nat → Int) (k : Nat) : Int := if F 14 k = 45 then 0 else F 11 k
set_option maxRecDepth 20000 in
theorem in_X4_actual_X4 : ∀ w ∈ u_ws RX4 TX4 22, w ∈ wsX4_actual := by decide +kernel
set_option maxHeartbeats 4000000 in
set_option maxRecDepth 100000 in
theorem c_X4_actual (l : Launch) (G : jG) (h : Nat → Nat) (F : Nat → Nat → Int) (V : Nat → Int) (fd : Nat → Int) (i t x : Int) (hri : jR i) (hrt : jR t) (hrx : jR x) (hk : okM F V) : jMet l yX4_actual wsX4_actual { frames := 6, cells := 0, slots := 0, locals := 300 } G (wM G h F V fd) [.ref (h 0), .int (iI i), .int (iI t), .int (iI x)] (fun rv w1 => ∃ (v : Int) (F' : Nat → Nat → Int) (V' fd' : Nat → Int), rv = some (.int (iI v)) ∧ w1 = wM G h F' V' fd' ∧ (cdActual (V 2) (V 5) i t x ≠ 0 → mSc F F' ∧ V' = jU V 0 (cdActual (V 2) (V 5) i t x)) ∧ (cdActual (V 2) (V 5) i t x = 0 → v = cntM (uF (uF F 9 (jU (F 9) (i.toNat * 12 + t.toNat) x)) 12 (jU (F 12) (i.toNat * 12 + t.toNat) 1)) V ∧ mSc (uF (uF (uF F 9 (jU (F 9) (i.toNat * 12 + t.toNat) x)) 12 (jU (F 12) (i.toNat * 12 + t.toNat) 1)) 14 (stM (uF (uF F 9 (jU (F 9) (i.toNat * 12 + t.toNat) x)) 12 (jU (F 12) (i.toNat * 12 + t.toNat) 1)) V)) F' ∧ V' = (jU V 0 0))) := by
  refine jMet_of (cc := cX4_actual) (maxL := 4) (ret := (some .int)) (by decide +kernel) rfl (Nat.le_of_ble_eq_true rfl) ?_
  intro p e s m args below meth c A hh hret hinit
  refine jr_loc (lv' := [(0, .ref (h 0)), (1, .int (iI i)), (2, .int (iI t)), (3, .int (iI x))]) [0, 1, 2, 3] rfl ?_
  obtain ⟨hV1, hV2, hV3, hV4, hV5, -⟩ := id hk
  have hri1 := hri.1
  have hrt1 := hrt.1
  have hrx1 := hrx.1
  have hri2 := hri.2
  have hrt2 := hrt.2
  have hrx2 := hrx.2
  refine jr_cut (σ := Int) 44 (fun (cd : Int) => cd = cdActual (V 2) (V 5) i t x) (fun (cd : Int) => (wM G h F V fd)) (fun (cd : Int) => [(0, .ref (h 0)), (1, .int (iI i)), (2, .int (iI t)), (3, .int (iI x))]) (fun (cd : Int) => [.int (iI cd), .ref (h 0)]) ?_ (fun cut44 => ?_)
  · rintro cd hcut44
    try dsimp only
    try dsimp only at hcut44
    have hcd2 := hcut44
    unfold cdActual at hcd2
    refine jr_put (ws' := (wM G h F (jU V 0 cd) fd)) (pc := 44) hh in_X4_actual_X4 tyX4_ok nmX4 0 rfl rfl 16 (by decide) (by decide +kernel : Cond.fieldLink RX4 61 (TX4 16).1 (TX4 16).2.1 (TX4 16).2.2.1 ∈ wsX4_actual) rfl rfl (Nat.le_of_ble_eq_true rfl) rfl dX4_actual_44 ?_
    refine jr_aload_n (pc := 47) hh 0 dX4_actual_47 rfl rfl ?_
    refine jr_get (v := .int (iI cd)) (pc := 48) hh in_X4_actual_X4 0 rfl rfl 16 (by decide) (by decide +kernel : Cond.fieldLink RX4 61 (TX4 16).1 (TX4 16).2.1 (TX4 16).2.2.1 ∈ wsX4_actual) rfl dX4_actual_48 ?_
    refine jr_if_le (tgt := 56) (pc := 51) hh dX4_actual_51 (by decide) ⟨by omega, by omega⟩ (fun c1 => ?_) (fun c1 => ?_)
    · skip
      obtain ⟨iN, rfl⟩ : ∃ k : Nat, i = (k : Int) := ⟨i.toNat, by omega⟩
      obtain ⟨tN, rfl⟩ : ∃ k : Nat, t = (k : Int) := ⟨t.toNat, by omega⟩
      have hk1 := okM_V0 (okM_act hk (iN * 12 + tN) (z := x) (by omega)) cd
      refine jr_aload_n (pc := 56) hh 0 dX4_actual_56 rfl rfl ?_
      refine jr_get (v := .ref (h 13)) (pc := 57) hh in_X4_actual_X4 0 rfl rfl 12 (by decide) (by decide +kernel : Cond.fieldLink RX4 46 (TX4 12).1 (TX4 12).2.1 (TX4 12).2.2.1 ∈ wsX4_actual) rfl dX4_actual_57 ?_
      refine jr_iload_n (pc := 60) hh 1 dX4_actual_60 rfl rfl ?_
      refine jr_iload_n (pc := 61) hh 2 dX4_actual_61 rfl rfl ?_
      refine jr_callS (pc := 62) hh [.int (iI (iN : Int)), .int (iI (tN : Int))] [.ref (h 13)] (c_X4_at l G iN tN) gX4_actual_X4_at rfl (by decide) (by decide) [] [0, 1, 2, 3, 4, 5, 6, 7, 8, 9, 10, 11, 12, 13, 14, 15, 16] rfl rfl rfl rfl (by decide) 2 rfl rfl (Nat.le_of_ble_eq_true rfl) (by decide +kernel) dX4_actual_62 (fun rvu2 wu2 hu2 => ?_)
      obtain ⟨rfl, rfl⟩ := hu2
      refine jr_perm (ws' := (wM G h F (jU V 0 cd) fd)) (st := [.int (iI ((iN * 12 + tN : Nat) : Int)), .ref (h 13)]) [0, 1, 2, 3, 4, 5, 6, 7, 8, 9, 10, 11, 12, 13, 14, 15, 16] rfl rfl ?_
      refine jr_iconst (pc := 65) hh dX4_actual_65 ?_
      refine jr_zast (F := (F 12)) (ws' := (wM G h (uF F 12 (jU (F 12) (iN * 12 + tN) 1)) (jU V 0 cd) fd)) (pc := 66) hh 13 rfl (iN * 12 + tN) (by omega) (by omega) (by decide) (by omega) rfl dX4_actual_66 ?_
      refine jr_aload_n (pc := 67) hh 0 dX4_actual_67 rfl rfl ?_
      refine jr_get (v := .ref (h 10)) (pc := 68) hh in_X4_actual_X4 0 rfl rfl 9 (by decide) (by decide +kernel : Cond.fieldLink RX4 37 (TX4 9).1 (TX4 9).2.1 (TX4 9).2.2.1 ∈ wsX4_actual) rfl dX4_actual_68 ?_
      refine jr_iload_n (pc := 71) hh 1 dX4_actual_71 rfl rfl ?_
      refine jr_iload_n (pc := 72) hh 2 dX4_actual_72 rfl rfl ?_
      refine jr_callS (pc := 73) hh [.int (iI (iN : Int)), .int (iI (tN : Int))] [.ref (h 10)] (c_X4_at l G iN tN) gX4_actual_X4_at rfl (by decide) (by decide) [] [0, 1, 2, 3, 4, 5, 6, 7, 8, 9, 10, 11, 12, 13, 14, 15, 16] rfl rfl rfl rfl (by decide) 2 rfl rfl (Nat.le_of_ble_eq_true rfl) (by decide +kernel) dX4_actual_73 (fun rvu3 wu3 hu3 => ?_)
      obtain ⟨rfl, rfl⟩ := hu3
      refine jr_perm (ws' := (wM G h (uF F 12 (jU (F 12) (iN * 12 + tN) 1)) (jU V 0 cd) fd)) (st := [.int (iI ((iN * 12 + tN : Nat) : Int)), .ref (h 10)]) [0, 1, 2, 3, 4, 5, 6, 7, 8, 9, 10, 11, 12, 13, 14, 15, 16] rfl rfl ?_
      refine jr_iload_n (pc := 76) hh 3 dX4_actual_76 rfl rfl ?_
      refine jr_iast (F := (F 9)) (ws' := (wM G h (uF (uF F 9 (jU (F 9) (iN * 12 + tN) x)) 12 (jU (F 12) (iN * 12 + tN) 1)) (jU V 0 cd) fd)) (pc := 77) hh 10 rfl (iN * 12 + tN) (by omega) (by omega) (by decide) rfl dX4_actual_77 ?_
      refine jr_aload_n (pc := 78) hh 0 dX4_actual_78 rfl rfl ?_
      refine jr_callV (pc := 79) hh [] [] (c_X4_looks l G h (uF (uF F 9 (jU (F 9) (iN * 12 + tN) x)) 12 (jU (F 12) (iN * 12 + tN) 1)) (jU V 0 cd) fd hk1) gX4_actual_X4_looks rfl (by decide) (by decide) [0, 1, 2, 3, 4, 5, 6, 7, 8, 9, 10, 11, 12, 13, 14, 15, 16] [] rfl rfl rfl rfl (by decide) 0 rfl rfl 0 rfl rfl (Nat.le_of_ble_eq_true rfl) (by decide +kernel) dX4_actual_79 (fun rvu4 wu4 hu4 => ?_)
      obtain ⟨rfl, isf, fd2, rfl⟩ := hu4
      refine jr_perm (ws' := (wM G h (uF (uF (uF (uF F 9 (jU (F 9) (iN * 12 + tN) x)) 12 (jU (F 12) (iN * 12 + tN) 1)) 13 isf) 14 (stM (uF (uF F 9 (jU (F 9) (iN * 12 + tN) x)) 12 (jU (F 12) (iN * 12 + tN) 1)) (jU V 0 cd))) (jU V 0 cd) fd2)) (st := [.int (iI (cntM (uF (uF F 9 (jU (F 9) (iN * 12 + tN) x)) 12 (jU (F 12) (iN * 12 + tN) 1)) (jU V 0 cd)))]) [0, 1, 2, 3, 4, 5, 6, 7, 8, 9, 10, 11, 12, 13, 14, 15, 16] rfl rfl ?_
      exact jr_iret (pc := 82) hh hret rfl ⟨_, _, _, _, rfl, rfl, fun q => absurd q (by omega), fun _ => ⟨rfl, mSc_14 _ _ _, by rw [show cd = 0 by omega]⟩⟩ (by decide) (by decide) dX4_actual_82
    · skip
      refine jr_iconst (pc := 54) hh dX4_actual_54 ?_
      exact jr_iret (pc := 55) hh hret rfl ⟨0, _, _, _, rfl, rfl, fun _ => ⟨(mSc_rf _), by rw [hcut44]⟩, fun q => absurd q (by omega)⟩ (by decide) (by decide) dX4_actual_55
  · try dsimp only at cut44
    refine jr_aload_n (pc := 0) hh 0 dX4_actual_0 rfl rfl ?_
    refine jr_aload_n (pc := 1) hh 0 dX4_actual_1 rfl rfl ?_
    refine jr_iload_n (pc := 2) hh 1 dX4_actual_2 rfl rfl ?_
    refine jr_callV (pc := 3) hh [.int (iI i)] [.ref (h 0)] (c_X4_isLine l G h F V fd i ⟨by omega, by omega⟩ ⟨by omega, by omega⟩) gX4_actual_X4_isLine rfl (by decide) (by decide) [0, 1, 2, 3, 4, 5, 6, 7, 8, 9, 10, 11, 12, 13, 14, 15, 16] [] rfl rfl rfl rfl (by decide) 0 rfl rfl 1 rfl rfl (Nat.le_of_ble_eq_true rfl) (by decide +kernel) dX4_actual_3 (fun rvu6 wu6 hu6 => ?_)
    obtain ⟨rfl, rfl⟩ := hu6
    refine jr_perm (ws' := (wM G h F V fd)) (st := [.int (iI (inI i 0 (V 2 - 1))), .ref (h 0)]) [0, 1, 2, 3, 4, 5, 6, 7, 8, 9, 10, 11, 12, 13, 14, 15, 16] rfl rfl ?_
    have hin5 : (inI i 0 (V 2 - 1)) = if 0 ≤ i ∧ i ≤ V 2 - 1 then 1 else 0 := rfl
    refine jr_if_eq (tgt := 16) (pc := 6) hh dX4_actual_6 (by decide) ⟨by omega, by omega⟩ (fun c7 => ?_) (fun c7 => ?_)
    · skip
      refine jr_iconst (pc := 16) hh dX4_actual_16 ?_
      refine jr_goto (tgt := 44) (pc := 17) hh dX4_actual_17 (by decide) ?_
      refine jr_loc (lv' := [(0, .ref (h 0)), (1, .int (iI i)), (2, .int (iI t)), (3, .int (iI x))]) [0, 1, 2, 3] rfl ?_
      exact cut44 (1) (by unfold cdActual; omega)
    · skip
      refine jr_iload_n (pc := 9) hh 2 dX4_actual_9 rfl rfl ?_
      refine jr_callS (pc := 10) hh [.int (iI t)] [.ref (h 0)] (c_X4_isMonth l G t ⟨by omega, by omega⟩) gX4_actual_X4_isMonth rfl (by decide) (by decide) [] [0, 1, 2, 3, 4, 5, 6, 7, 8, 9, 10, 11, 12, 13, 14, 15, 16] rfl rfl rfl rfl (by decide) 1 rfl rfl (Nat.le_of_ble_eq_true rfl) (by decide +kernel) dX4_actual_10 (fun rvu9 wu9 hu9 => ?_)
      obtain ⟨rfl, rfl⟩ := hu9
      refine jr_perm (ws' := (wM G h F V fd)) (st := [.int (iI (inI t 0 11)), .ref (h 0)]) [0, 1, 2, 3, 4, 5, 6, 7, 8, 9, 10, 11, 12, 13, 14, 15, 16] rfl rfl ?_
      have hin8 : (inI t 0 11) = if 0 ≤ t ∧ t ≤ 11 then 1 else 0 := rfl
      refine jr_if_ne (tgt := 20) (pc := 13) hh dX4_actual_13 (by decide) ⟨by omega, by omega⟩ (fun c10 => ?_) (fun c10 => ?_)
      · skip
        refine jr_iload_n (pc := 20) hh 2 dX4_actual_20 rfl rfl ?_
        refine jr_aload_n (pc := 21) hh 0 dX4_actual_21 rfl rfl ?_
        refine jr_get (v := .int (iI (V 5))) (pc := 22) hh in_X4_actual_X4 0 rfl rfl 21 (by decide) (by decide +kernel : Cond.fieldLink RX4 77 (TX4 21).1 (TX4 21).2.1 (TX4 21).2.2.1 ∈ wsX4_actual) rfl dX4_actual_22 ?_
        refine jr_icmp_gt (tgt := 39) (pc := 25) hh dX4_actual_25 (by decide) ⟨by omega, by omega⟩ ⟨by omega, by omega⟩ (fun c11 => ?_) (fun c11 => ?_)
        · skip
          refine jr_iconst (pc := 39) hh dX4_actual_39 ?_
          refine jr_goto (tgt := 44) (pc := 40) hh dX4_actual_40 (by decide) ?_
          refine jr_loc (lv' := [(0, .ref (h 0)), (1, .int (iI i)), (2, .int (iI t)), (3, .int (iI x))]) [0, 1, 2, 3] rfl ?_
          exact cut44 (2) (by unfold cdActual; omega)
        · skip
          refine jr_iload_n (pc := 28) hh 3 dX4_actual_28 rfl rfl ?_
          refine jr_ldc (z := (-9999999)) (v := -9999999) (pc := 29) hh (by decide) (by decide +kernel : Cond.constant RX4 135 (-9999999) ∈ wsX4_actual) dX4_actual_29 ?_
          refine jr_ldc (z := 9999999) (v := 9999999) (pc := 31) hh (by decide) (by decide +kernel : Cond.constant RX4 136 (9999999) ∈ wsX4_actual) dX4_actual_31 ?_
          refine jr_callS (pc := 33) hh [.int (iI x), .int (iI (-9999999)), .int (iI 9999999)] [.ref (h 0)] (c_X4_in l G x (-9999999) 9999999 ⟨by omega, by omega⟩ ⟨by omega, by omega⟩ ⟨by omega, by omega⟩) gX4_actual_X4_in rfl (by decide) (by decide) [] [0, 1, 2, 3, 4, 5, 6, 7, 8, 9, 10, 11, 12, 13, 14, 15, 16] rfl rfl rfl rfl (by decide) 3 rfl rfl (Nat.le_of_ble_eq_true rfl) (by decide +kernel) dX4_actual_33 (fun rvu13 wu13 hu13 => ?_)
          obtain ⟨rfl, rfl⟩ := hu13
          refine jr_perm (ws' := (wM G h F V fd)) (st := [.int (iI (inI x (-9999999) 9999999)), .ref (h 0)]) [0, 1, 2, 3, 4, 5, 6, 7, 8, 9, 10, 11, 12, 13, 14, 15, 16] rfl rfl ?_
          have hin12 : (inI x (-9999999) 9999999) = if (-9999999) ≤ x ∧ x ≤ 9999999 then 1 else 0 := rfl
          refine jr_if_ne (tgt := 43) (pc := 36) hh dX4_actual_36 (by decide) ⟨by omega, by omega⟩ (fun c14 => ?_) (fun c14 => ?_)
          · skip
            refine jr_iconst (pc := 43) hh dX4_actual_43 ?_
            refine jr_loc (lv' := [(0, .ref (h 0)), (1, .int (iI i)), (2, .int (iI t)), (3, .int (iI x))]) [0, 1, 2, 3] rfl ?_
            exact cut44 (0) (by unfold cdActual; omega)
          · skip
            refine jr_iconst (pc := 39) hh dX4_actual_39 ?_
            refine jr_goto (tgt := 44) (pc := 40) hh dX4_actual_40 (by decide) ?_
            refine jr_loc (lv' := [(0, .ref (h 0)), (1, .int (iI i)), (2, .int (iI t)), (3, .int (iI x))]) [0, 1, 2, 3] rfl ?_
            exact cut44 (2) (by unfold cdActual; omega)
      · skip
        refine jr_iconst (pc := 16) hh dX4_actual_16 ?_
        refine jr_goto (tgt := 44) (pc := 17) hh dX4_actual_17 (by decide) ?_
        refine jr_loc (lv' := [(0, .ref (h 0)), (1, .int (iI i)), (2, .int (iI t)), (3, .int (iI x))]) [0, 1, 2, 3] rfl ?_
        exact cut44 (1) (by unfold cdActual; omega)
set_option maxRecDepth 20000 in
theorem in_X4_takeActual_X4 : ∀ w ∈ u_ws RX4 TX4 22, w ∈ wsX4_takeActual := by decide +kernel
set_option maxHeartbeats 4000000 in
set_option maxRecDepth 100000 in
theorem c_X4_takeActual (l : Launch) (G : jG) (h : Nat → Nat) (F : Nat → Nat → Int) (V : Nat → Int) (fd : Nat → Int) (i t : Int) (hri : jR i) (hrt : jR t) (hk : okM F V) : jMet l yX4_takeActual wsX4_takeActual { frames := 6, cells := 0, slots := 0, locals := 300 } G (wM G h F V fd) [.ref (h 0), .int (iI i), .int (iI t)] (fun rv w1 => ∃ (v : Int) (F' : Nat → Nat → Int) (V' fd' : Nat → Int), rv = some (.int (iI v)) ∧ w1 = wM G h F' V' fd' ∧ (cdTake (V 2) i t (acX F (i.toNat * 12 + t.toNat)) ≠ 0 → mSc F F' ∧ V' = jU V 0 (cdTake (V 2) i t (acX F (i.toNat * 12 + t.toNat)))) ∧ (cdTake (V 2) i t (acX F (i.toNat * 12 + t.toNat)) = 0 → v = cntM (uF F 12 (jU (F 12) (i.toNat * 12 + t.toNat) 0)) V ∧ mSc (uF (uF F 12 (jU (F 12) (i.toNat * 12 + t.toNat) 0)) 14 (stM (uF F 12 (jU (F 12) (i.toNat * 12 + t.toNat) 0)) V)) F' ∧ V' = (jU V 0 0))) := by
  refine jMet_of (cc := cX4_takeActual) (maxL := 3) (ret := (some .int)) (by decide +kernel) rfl (Nat.le_of_ble_eq_true rfl) ?_
  intro p e s m args below meth c A hh hret hinit
  refine jr_loc (lv' := [(0, .ref (h 0)), (1, .int (iI i)), (2, .int (iI t))]) [0, 1, 2] rfl ?_
  obtain ⟨hV1, hV2, hV3, hV4, hV5, -⟩ := id hk
  have hri1 := hri.1
  have hrt1 := hrt.1
  have hri2 := hri.2
  have hrt2 := hrt.2
  refine jr_cut (σ := Int) 38 (fun (cd : Int) => cd = cdTake (V 2) i t (acX F (i.toNat * 12 + t.toNat))) (fun (cd : Int) => (wM G h F V fd)) (fun (cd : Int) => [(0, .ref (h 0)), (1, .int (iI i)), (2, .int (iI t))]) (fun (cd : Int) => [.int (iI cd), .ref (h 0)]) ?_ (fun cut38 => ?_)
  · rintro cd hcut38
    try dsimp only
    try dsimp only at hcut38
    have hcd2 := hcut38
    unfold cdTake at hcd2
    refine jr_put (ws' := (wM G h F (jU V 0 cd) fd)) (pc := 38) hh in_X4_takeActual_X4 tyX4_ok nmX4 0 rfl rfl 16 (by decide) (by decide +kernel : Cond.fieldLink RX4 61 (TX4 16).1 (TX4 16).2.1 (TX4 16).2.2.1 ∈ wsX4_takeActual) rfl rfl (Nat.le_of_ble_eq_true rfl) rfl dX4_takeActual_38 ?_
    refine jr_aload_n (pc := 41) hh 0 dX4_takeActual_41 rfl rfl ?_
    refine jr_get (v := .int (iI cd)) (pc := 42) hh in_X4_takeActual_X4 0 rfl rfl 16 (by decide) (by decide +kernel : Cond.fieldLink RX4 61 (TX4 16).1 (TX4 16).2.1 (TX4 16).2.2.1 ∈ wsX4_takeActual) rfl dX4_takeActual_42 ?_
    refine jr_if_le (tgt := 50) (pc := 45) hh dX4_takeActual_45 (by decide) ⟨by omega, by omega⟩ (fun c1 => ?_) (fun c1 => ?_)
    · skip
      obtain ⟨iN, rfl⟩ : ∃ k : Nat, i = (k : Int) := ⟨i.toNat, by omega⟩
      obtain ⟨tN, rfl⟩ : ∃ k : Nat, t = (k : Int) := ⟨t.toNat, by omega⟩
      have hk1 := okM_V0 (okM_tk hk (iN * 12 + tN)) cd
      refine jr_aload_n (pc := 50) hh 0 dX4_takeActual_50 rfl rfl ?_
      refine jr_get (v := .ref (h 13)) (pc := 51) hh in_X4_takeActual_X4 0 rfl rfl 12 (by decide) (by decide +kernel : Cond.fieldLink RX4 46 (TX4 12).1 (TX4 12).2.1 (TX4 12).2.2.1 ∈ wsX4_takeActual) rfl dX4_takeActual_51 ?_
      refine jr_iload_n (pc := 54) hh 1 dX4_takeActual_54 rfl rfl ?_
      refine jr_iload_n (pc := 55) hh 2 dX4_takeActual_55 rfl rfl ?_
      refine jr_callS (pc := 56) hh [.int (iI (iN : Int)), .int (iI (tN : Int))] [.ref (h 13)] (c_X4_at l G iN tN) gX4_takeActual_X4_at rfl (by decide) (by decide) [] [0, 1, 2, 3, 4, 5, 6, 7, 8, 9, 10, 11, 12, 13, 14, 15, 16] rfl rfl rfl rfl (by decide) 2 rfl rfl (Nat.le_of_ble_eq_true rfl) (by decide +kernel) dX4_takeActual_56 (fun rvu2 wu2 hu2 => ?_)
      obtain ⟨rfl, rfl⟩ := hu2
      refine jr_perm (ws' := (wM G h F (jU V 0 cd) fd)) (st := [.int (iI ((iN * 12 + tN : Nat) : Int)), .ref (h 13)]) [0, 1, 2, 3, 4, 5, 6, 7, 8, 9, 10, 11, 12, 13, 14, 15, 16] rfl rfl ?_
      refine jr_iconst (pc := 59) hh dX4_takeActual_59 ?_
      refine jr_zast (F := (F 12)) (ws' := (wM G h (uF F 12 (jU (F 12) (iN * 12 + tN) 0)) (jU V 0 cd) fd)) (pc := 60) hh 13 rfl (iN * 12 + tN) (by omega) (by omega) (by decide) (by omega) rfl dX4_takeActual_60 ?_
      refine jr_aload_n (pc := 61) hh 0 dX4_takeActual_61 rfl rfl ?_
      refine jr_callV (pc := 62) hh [] [] (c_X4_looks l G h (uF F 12 (jU (F 12) (iN * 12 + tN) 0)) (jU V 0 cd) fd hk1) gX4_takeActual_X4_looks rfl (by decide) (by decide) [0, 1, 2, 3, 4, 5, 6, 7, 8, 9, 10, 11, 12, 13, 14, 15, 16] [] rfl rfl rfl rfl (by decide) 0 rfl rfl 0 rfl rfl (Nat.le_of_ble_eq_true rfl) (by decide +kernel) dX4_takeActual_62 (fun rvu3 wu3 hu3 => ?_)
      obtain ⟨rfl, isf, fd2, rfl⟩ := hu3
      refine jr_perm (ws' := (wM G h (uF (uF (uF F 12 (jU (F 12) (iN * 12 + tN) 0)) 13 isf) 14 (stM (uF F 12 (jU (F 12) (iN * 12 + tN) 0)) (jU V 0 cd))) (jU V 0 cd) fd2)) (st := [.int (iI (cntM (uF F 12 (jU (F 12) (iN * 12 + tN) 0)) (jU V 0 cd)))]) [0, 1, 2, 3, 4, 5, 6, 7, 8, 9, 10, 11, 12, 13, 14, 15, 16] rfl rfl ?_
      exact jr_iret (pc := 65) hh hret rfl ⟨_, _, _, _, rfl, rfl, fun q => absurd q (by omega), fun _ => ⟨rfl, mSc_14 _ _ _, by rw [show cd = 0 by omega]⟩⟩ (by decide) (by decide) dX4_takeActual_65
    · skip
      refine jr_iconst (pc := 48) hh dX4_takeActual_48 ?_
      exact jr_iret (pc := 49) hh hret rfl ⟨0, _, _, _, rfl, rfl, fun _ => ⟨(mSc_rf _), by rw [hcut38]⟩, fun q => absurd q (by omega)⟩ (by decide) (by decide) dX4_takeActual_49
  · try dsimp only at cut38
    refine jr_aload_n (pc := 0) hh 0 dX4_takeActual_0 rfl rfl ?_
    refine jr_aload_n (pc := 1) hh 0 dX4_takeActual_1 rfl rfl ?_
    refine jr_iload_n (pc := 2) hh 1 dX4_takeActual_2 rfl rfl ?_
    refine jr_callV (pc := 3) hh [.int (iI i)] [.ref (h 0)] (c_X4_isLine l G h F V fd i ⟨by omega, by omega⟩ ⟨by omega, by omega⟩) gX4_takeActual_X4_isLine rfl (by decide) (by decide) [0, 1, 2, 3, 4, 5, 6, 7, 8, 9, 10, 11, 12, 13, 14, 15, 16] [] rfl rfl rfl rfl (by decide) 0 rfl rfl 1 rfl rfl (Nat.le_of_ble_eq_true rfl) (by decide +kernel) dX4_takeActual_3 (fun rvu5 wu5 hu5 => ?_)
    obtain ⟨rfl, rfl⟩ := hu5
    refine jr_perm (ws' := (wM G h F V fd)) (st := [.int (iI (inI i 0 (V 2 - 1))), .ref (h 0)]) [0, 1, 2, 3, 4, 5, 6, 7, 8, 9, 10, 11, 12, 13, 14, 15, 16] rfl rfl ?_
    have hin4 : (inI i 0 (V 2 - 1)) = if 0 ≤ i ∧ i ≤ V 2 - 1 then 1 else 0 := rfl
    refine jr_if_eq (tgt := 16) (pc := 6) hh dX4_takeActual_6 (by decide) ⟨by omega, by omega⟩ (fun c6 => ?_) (fun c6 => ?_)
    · skip
      refine jr_iconst (pc := 16) hh dX4_takeActual_16 ?_
      refine jr_goto (tgt := 38) (pc := 17) hh dX4_takeActual_17 (by decide) ?_
      refine jr_loc (lv' := [(0, .ref (h 0)), (1, .int (iI i)), (2, .int (iI t))]) [0, 1, 2] rfl ?_
      exact cut38 (1) (by unfold cdTake; (try simp only [Int.toNat_natCast]); omega)
    · skip
      refine jr_iload_n (pc := 9) hh 2 dX4_takeActual_9 rfl rfl ?_
      refine jr_callS (pc := 10) hh [.int (iI t)] [.ref (h 0)] (c_X4_isMonth l G t ⟨by omega, by omega⟩) gX4_takeActual_X4_isMonth rfl (by decide) (by decide) [] [0, 1, 2, 3, 4, 5, 6, 7, 8, 9, 10, 11, 12, 13, 14, 15, 16] rfl rfl rfl rfl (by decide) 1 rfl rfl (Nat.le_of_ble_eq_true rfl) (by decide +kernel) dX4_takeActual_10 (fun rvu8 wu8 hu8 => ?_)
      obtain ⟨rfl, rfl⟩ := hu8
      refine jr_perm (ws' := (wM G h F V fd)) (st := [.int (iI (inI t 0 11)), .ref (h 0)]) [0, 1, 2, 3, 4, 5, 6, 7, 8, 9, 10, 11, 12, 13, 14, 15, 16] rfl rfl ?_
      have hin7 : (inI t 0 11) = if 0 ≤ t ∧ t ≤ 11 then 1 else 0 := rfl
      refine jr_if_ne (tgt := 20) (pc := 13) hh dX4_takeActual_13 (by decide) ⟨by omega, by omega⟩ (fun c9 => ?_) (fun c9 => ?_)
      · skip
        obtain ⟨iN, rfl⟩ : ∃ k : Nat, i = (k : Int) := ⟨i.toNat, by omega⟩
        obtain ⟨tN, rfl⟩ : ∃ k : Nat, t = (k : Int) := ⟨t.toNat, by omega⟩
        have hA := hk.2.2.2.2.2.2.2.2.2 (iN * 12 + tN) (by omega)
        have hac : acX F (iN * 12 + tN) = if F 12 (iN * 12 + tN) = 1 then F 9 (iN * 12 + tN) else -1000000000 := rfl
        refine jr_aload_n (pc := 20) hh 0 dX4_takeActual_20 rfl rfl ?_
        refine jr_get (v := .ref (h 13)) (pc := 21) hh in_X4_takeActual_X4 0 rfl rfl 12 (by decide) (by decide +kernel : Cond.fieldLink RX4 46 (TX4 12).1 (TX4 12).2.1 (TX4 12).2.2.1 ∈ wsX4_takeActual) rfl dX4_takeActual_21 ?_
        refine jr_iload_n (pc := 24) hh 1 dX4_takeActual_24 rfl rfl ?_
        refine jr_iload_n (pc := 25) hh 2 dX4_takeActual_25 rfl rfl ?_
        refine jr_callS (pc := 26) hh [.int (iI (iN : Int)), .int (iI (tN : Int))] [.ref (h 13), .ref (h 0)] (c_X4_at l G iN tN) gX4_takeActual_X4_at rfl (by decide) (by decide) [] [0, 1, 2, 3, 4, 5, 6, 7, 8, 9, 10, 11, 12, 13, 14, 15, 16] rfl rfl rfl rfl (by decide) 2 rfl rfl (Nat.le_of_ble_eq_true rfl) (by decide +kernel) dX4_takeActual_26 (fun rvu10 wu10 hu10 => ?_)
        obtain ⟨rfl, rfl⟩ := hu10
        refine jr_perm (ws' := (wM G h F V fd)) (st := [.int (iI ((iN * 12 + tN : Nat) : Int)), .ref (h 13), .ref (h 0)]) [0, 1, 2, 3, 4, 5, 6, 7, 8, 9, 10, 11, 12, 13, 14, 15, 16] rfl rfl ?_
        refine jr_zald (F := (F 12)) (pc := 29) hh 13 rfl (iN * 12 + tN) (by omega) (by omega) (by decide) dX4_takeActual_29 ?_
        refine jr_if_ne (tgt := 37) (pc := 30) hh dX4_takeActual_30 (by decide) ⟨by omega, by omega⟩ (fun c11 => ?_) (fun c11 => ?_)
        · skip
          refine jr_iconst (pc := 37) hh dX4_takeActual_37 ?_
          refine jr_loc (lv' := [(0, .ref (h 0)), (1, .int (iI (iN : Int))), (2, .int (iI (tN : Int)))]) [0, 1, 2] rfl ?_
          exact cut38 (0) (by unfold cdTake; (try simp only [Int.toNat_natCast]); omega)
        · skip
          refine jr_iconst (pc := 33) hh dX4_takeActual_33 ?_
          refine jr_goto (tgt := 38) (pc := 34) hh dX4_takeActual_34 (by decide) ?_
          refine jr_loc (lv' := [(0, .ref (h 0)), (1, .int (iI (iN : Int))), (2, .int (iI (tN : Int)))]) [0, 1, 2] rfl ?_
          exact cut38 (2) (by unfold cdTake; (try simp only [Int.toNat_natCast]); omega)
      · skip
        refine jr_iconst (pc := 16) hh dX4_takeActual_16 ?_
        refine jr_goto (tgt := 38) (pc := 17) hh dX4_takeActual_17 (by decide) ?_
        refine jr_loc (lv' := [(0, .ref (h 0)), (1, .int (iI i)), (2, .int (iI t))]) [0, 1, 2] rfl ?_
        exact cut38 (1) (by unfold cdTake; (try simp only [Int.toNat_natCast]); omega)
set_option maxRecDepth 20000 in
theorem in_X4_pass_X4 : ∀ w ∈ u_ws RX4 TX4 22, w ∈ wsX4_pass := by decide +kernel
set_option maxHeartbeats 4000000 in
set_option maxRecDepth 100000 in
theorem c_X4_pass (l : Launch) (G : jG) (h : Nat → Nat) (F : Nat → Nat → Int) (V : Nat → Int) (fd : Nat → Int) (hk : okM F V) : jMet l yX4_pass wsX4_pass { frames := 2, cells := 0, slots := 0, locals := 60 } G (wM G h F V fd) [.ref (h 0)] (fun rv w1 => ∃ (v : Int) (F' : Nat → Nat → Int) (V' fd' : Nat → Int), rv = some (.int (iI v)) ∧ w1 = wM G h F' V' fd' ∧ (cdPass (V 5) ≠ 0 → mSc F F' ∧ V' = jU V 0 (cdPass (V 5))) ∧ (cdPass (V 5) = 0 → v = V 5 + 1 ∧ mSc F F' ∧ V' = (jU (jU V 0 0) 5 (V 5 + 1)))) := by
  refine jMet_of (cc := cX4_pass) (maxL := 1) (ret := (some .int)) (by decide +kernel) rfl (Nat.le_of_ble_eq_true rfl) ?_
  intro p e s m args below meth c A hh hret hinit
  refine jr_loc (lv' := [(0, .ref (h 0))]) [0] rfl ?_
  obtain ⟨hV1, hV2, hV3, hV4, hV5, -⟩ := id hk
  refine jr_cut (σ := Int) 15 (fun (z : Int) => z = 1 - cdPass (V 5)) (fun (z : Int) => (wM G h F V fd)) (fun (z : Int) => [(0, .ref (h 0))]) (fun (z : Int) => [.int (iI z), .ref (h 0)]) ?_ (fun cut15 => ?_)
  · rintro z hcut15
    try dsimp only
    try dsimp only at hcut15
    have hcd2 := hcut15
    unfold cdPass at hcd2
    refine jr_callV (pc := 15) hh [.int (iI z)] [] (c_X4_checked l G h F V fd z (by omega)) gX4_pass_X4_checked rfl (by decide) (by decide) [0, 1, 2, 3, 4, 5, 6, 7, 8, 9, 10, 11, 12, 13, 14, 15, 16] [] rfl rfl rfl rfl (by decide) 0 rfl rfl 1 rfl rfl (Nat.le_of_ble_eq_true rfl) (by decide +kernel) dX4_pass_15 (fun rvu1 wu1 hu1 => ?_)
    obtain ⟨rfl, rfl⟩ := hu1
    refine jr_perm (ws' := (wM G h F (jU V 0 (1 - z)) fd)) (st := [.int (iI (1 - z))]) [0, 1, 2, 3, 4, 5, 6, 7, 8, 9, 10, 11, 12, 13, 14, 15, 16] rfl rfl ?_
    refine jr_if_le (tgt := 23) (pc := 18) hh dX4_pass_18 (by decide) ⟨by omega, by omega⟩ (fun c2 => ?_) (fun c2 => ?_)
    · skip
      refine jr_aload_n (pc := 23) hh 0 dX4_pass_23 rfl rfl ?_
      refine jr_dup (pc := 24) hh dX4_pass_24 rfl ?_
      refine jr_get (v := .int (iI (V 5))) (pc := 25) hh in_X4_pass_X4 0 rfl rfl 21 (by decide) (by decide +kernel : Cond.fieldLink RX4 77 (TX4 21).1 (TX4 21).2.1 (TX4 21).2.2.1 ∈ wsX4_pass) rfl dX4_pass_25 ?_
      refine jr_iconst (pc := 28) hh dX4_pass_28 ?_
      refine jr_iadd (pc := 29) hh dX4_pass_29 ?_
      refine jr_put (ws' := (wM G h F (jU (jU V 0 (1 - z)) 5 ((V 5) + 1)) fd)) (pc := 30) hh in_X4_pass_X4 tyX4_ok nmX4 0 rfl rfl 21 (by decide) (by decide +kernel : Cond.fieldLink RX4 77 (TX4 21).1 (TX4 21).2.1 (TX4 21).2.2.1 ∈ wsX4_pass) rfl rfl (Nat.le_of_ble_eq_true rfl) rfl dX4_pass_30 ?_
      refine jr_aload_n (pc := 33) hh 0 dX4_pass_33 rfl rfl ?_
      refine jr_get (v := .int (iI ((V 5) + 1))) (pc := 34) hh in_X4_pass_X4 0 rfl rfl 21 (by decide) (by decide +kernel : Cond.fieldLink RX4 77 (TX4 21).1 (TX4 21).2.1 (TX4 21).2.2.1 ∈ wsX4_pass) rfl dX4_pass_34 ?_
      exact jr_iret (pc := 37) hh hret rfl ⟨_, _, _, _, rfl, rfl, fun q => absurd q (by omega), fun _ => ⟨rfl, mSc_rf _, by rw [show 1 - z = 0 by omega]⟩⟩ (by decide) (by decide) dX4_pass_37
    · skip
      refine jr_iconst (pc := 21) hh dX4_pass_21 ?_
      exact jr_iret (pc := 22) hh hret rfl ⟨0, _, _, _, rfl, rfl, fun _ => ⟨(mSc_rf _), by congr 1; omega⟩, fun q => absurd q (by omega)⟩ (by decide) (by decide) dX4_pass_22
  · try dsimp only at cut15
    refine jr_aload_n (pc := 0) hh 0 dX4_pass_0 rfl rfl ?_
    refine jr_aload_n (pc := 1) hh 0 dX4_pass_1 rfl rfl ?_
    refine jr_get (v := .int (iI (V 5))) (pc := 2) hh in_X4_pass_X4 0 rfl rfl 21 (by decide) (by decide +kernel : Cond.fieldLink RX4 77 (TX4 21).1 (TX4 21).2.1 (TX4 21).2.2.1 ∈ wsX4_pass) rfl dX4_pass_2 ?_
    refine jr_bipush (pc := 5) hh dX4_pass_5 (by decide) ?_
    refine jr_icmp_ge (tgt := 14) (pc := 7) hh dX4_pass_7 (by decide) ⟨by omega, by omega⟩ ⟨by omega, by omega⟩ (fun c3 => ?_) (fun c3 => ?_)
    · skip
      refine jr_iconst (pc := 14) hh dX4_pass_14 ?_
      refine jr_loc (lv' := [(0, .ref (h 0))]) [0] rfl ?_
      exact cut15 (0) (by unfold cdPass; omega)
    · skip
      refine jr_iconst (pc := 10) hh dX4_pass_10 ?_
      refine jr_goto (tgt := 15) (pc := 11) hh dX4_pass_11 (by decide) ?_
      refine jr_loc (lv' := [(0, .ref (h 0))]) [0] rfl ?_
      exact cut15 (1) (by unfold cdPass; omega)
set_option maxRecDepth 20000 in
theorem in_X4_month_X4 : ∀ w ∈ u_ws RX4 TX4 22, w ∈ wsX4_month := by decide +kernel
set_option maxHeartbeats 4000000 in
set_option maxRecDepth 100000 in
theorem c_X4_month (l : Launch) (G : jG) (h : Nat → Nat) (F : Nat → Nat → Int) (V : Nat → Int) (fd : Nat → Int) : jMet l yX4_month wsX4_month { frames := 1, cells := 0, slots := 0, locals := 30 } G (wM G h F V fd) [.ref (h 0)] (fun rv w1 => rv = some (.int (iI (V 5))) ∧ w1 = wM G h F (jU V 0 0) fd) := by
  refine jMet_of (cc := cX4_month) (maxL := 1) (ret := (some .int)) (by decide +kernel) rfl (Nat.le_of_ble_eq_true rfl) ?_
  intro p e s m args below meth c A hh hret hinit
  refine jr_loc (lv' := [(0, .ref (h 0))]) [0] rfl ?_
  refine jr_aload_n (pc := 0) hh 0 dX4_month_0 rfl rfl ?_
  refine jr_iconst (pc := 1) hh dX4_month_1 ?_
  refine jr_put (ws' := (wM G h F (jU V 0 0) fd)) (pc := 2) hh in_X4_month_X4 tyX4_ok nmX4 0 rfl rfl 16 (by decide) (by decide +kernel : Cond.fieldLink RX4 61 (TX4 16).1 (TX4 16).2.1 (TX4 16).2.2.1 ∈ wsX4_month) rfl rfl (Nat.le_of_ble_eq_true rfl) rfl dX4_month_2 ?_
  refine jr_aload_n (pc := 5) hh 0 dX4_month_5 rfl rfl ?_
  refine jr_get (v := .int (iI (V 5))) (pc := 6) hh in_X4_month_X4 0 rfl rfl 21 (by decide) (by decide +kernel : Cond.fieldLink RX4 77 (TX4 21).1 (TX4 21).2.1 (TX4 21).2.2.1 ∈ wsX4_month) rfl dX4_month_6 ?_
  exact jr_iret (pc := 9) hh hret rfl ⟨rfl, rfl⟩ (by decide) (by decide) dX4_month_9
set_option maxRecDepth 20000 in
theorem in_X4_approve_X4 : ∀ w ∈ u_ws RX4 TX4 22, w ∈ wsX4_approve := by decide +kernel
set_option maxHeartbeats 4000000 in
set_option maxRecDepth 100000 in
theorem c_X4_approve (l : Launch) (G : jG) (h : Nat → Nat) (F : Nat → Nat → Int) (V : Nat → Int) (fd : Nat → Int) (i t tol : Int) (hri : jR i) (hrt : jR t) (hrtol : jR tol) (hk : okM F V) : jMet l yX4_approve wsX4_approve { frames := 6, cells := 0, slots := 0, locals := 300 } G (wM G h F V fd) [.ref (h 0), .int (iI i), .int (iI t), .int (iI tol)] (fun rv w1 => ∃ (v : Int) (F' : Nat → Nat → Int) (V' fd' : Nat → Int), rv = some (.int (iI v)) ∧ w1 = wM G h F' V' fd' ∧ (cdApprove (V 2) i t tol (enc (nmM F V 0 t.toNat 6 i.toNat)) ≠ 0 → mSc F F' ∧ V' = jU V 0 (cdApprove (V 2) i t tol (enc (nmM F V 0 t.toNat 6 i.toNat)))) ∧ (cdApprove (V 2) i t tol (enc (nmM F V 0 t.toNat 6 i.toNat)) = 0 → v = (enc (nmM F V 0 t.toNat 6 i.toNat)) ∧ mSc (uF (uF (uF F 14 (jU (F 14) (i.toNat * 12 + t.toNat) 97)) 10 (jU (F 10) (i.toNat * 12 + t.toNat) (enc (nmM F V 0 t.toNat 6 i.toNat)))) 11 (jU (F 11) (i.toNat * 12 + t.toNat) tol)) F' ∧ V' = (jU V 0 0))) := by
  refine jMet_of (cc := cX4_approve) (maxL := 4) (ret := (some .int)) (by decide +kernel) rfl (Nat.le_of_ble_eq_true rfl) ?_
  intro p e s m args below meth c A hh hret hinit
  refine jr_loc (lv' := [(0, .ref (h 0)), (1, .int (iI i)), (2, .int (iI t)), (3, .int (iI tol))]) [0, 1, 2, 3] rfl ?_
  obtain ⟨hV1, hV2, hV3, hV4, hV5, -⟩ := id hk
  have hri1 := hri.1
  have hrt1 := hrt.1
  have hrtol1 := hrtol.1
  have hri2 := hri.2
  have hrt2 := hrt.2
  have hrtol2 := hrtol.2
  refine jr_cut (σ := Int × (Nat → Int) × (Nat → Int)) 52 (fun (x : Int × (Nat → Int) × (Nat → Int)) => match x with | (cd, isf, fnd) => cd = cdApprove (V 2) i t tol (enc (nmM F V 0 t.toNat 6 i.toNat)) ∧ (cd = 0 → fnd i.toNat = enc (nmM F V 0 t.toNat 6 i.toNat))) (fun (x : Int × (Nat → Int) × (Nat → Int)) => match x with | (cd, isf, fnd) => (wM G h (uF F 13 isf) V fnd)) (fun (x : Int × (Nat → Int) × (Nat → Int)) => match x with | (cd, isf, fnd) => [(0, .ref (h 0)), (1, .int (iI i)), (2, .int (iI t)), (3, .int (iI tol))]) (fun (x : Int × (Nat → Int) × (Nat → Int)) => match x with | (cd, isf, fnd) => [.int (iI cd), .ref (h 0)]) ?_ (fun cut52 => ?_)
  · rintro ⟨cd, isf, fnd⟩ hcut52
    try dsimp only
    try dsimp only at hcut52
    obtain ⟨hcut52, hfnd⟩ := hcut52
    have hcd2 := hcut52
    unfold cdApprove at hcd2
    refine jr_put (ws' := (wM G h (uF F 13 isf) (jU V 0 cd) fnd)) (pc := 52) hh in_X4_approve_X4 tyX4_ok nmX4 0 rfl rfl 16 (by decide) (by decide +kernel : Cond.fieldLink RX4 61 (TX4 16).1 (TX4 16).2.1 (TX4 16).2.2.1 ∈ wsX4_approve) rfl rfl (Nat.le_of_ble_eq_true rfl) rfl dX4_approve_52 ?_
    refine jr_aload_n (pc := 55) hh 0 dX4_approve_55 rfl rfl ?_
    refine jr_get (v := .int (iI cd)) (pc := 56) hh in_X4_approve_X4 0 rfl rfl 16 (by decide) (by decide +kernel : Cond.fieldLink RX4 61 (TX4 16).1 (TX4 16).2.1 (TX4 16).2.2.1 ∈ wsX4_approve) rfl dX4_approve_56 ?_
    refine jr_if_le (tgt := 64) (pc := 59) hh dX4_approve_59 (by decide) ⟨by omega, by omega⟩ (fun c1 => ?_) (fun c1 => ?_)
    · skip
      obtain ⟨iN, rfl⟩ : ∃ k : Nat, i = (k : Int) := ⟨i.toNat, by omega⟩
      obtain ⟨tN, rfl⟩ : ∃ k : Nat, t = (k : Int) := ⟨t.toNat, by omega⟩
      have hfe : fnd iN = enc (nmM F V 0 tN 6 iN) := hfnd (by omega)
      refine jr_aload_n (pc := 64) hh 0 dX4_approve_64 rfl rfl ?_
      refine jr_get (v := .ref (h 15)) (pc := 65) hh in_X4_approve_X4 0 rfl rfl 14 (by decide) (by decide +kernel : Cond.fieldLink RX4 53 (TX4 14).1 (TX4 14).2.1 (TX4 14).2.2.1 ∈ wsX4_approve) rfl dX4_approve_65 ?_
      refine jr_iload_n (pc := 68) hh 1 dX4_approve_68 rfl rfl ?_
      refine jr_iload_n (pc := 69) hh 2 dX4_approve_69 rfl rfl ?_
      refine jr_callS (pc := 70) hh [.int (iI (iN : Int)), .int (iI (tN : Int))] [.ref (h 15)] (c_X4_at l G iN tN) gX4_approve_X4_at rfl (by decide) (by decide) [] [0, 1, 2, 3, 4, 5, 6, 7, 8, 9, 10, 11, 12, 13, 14, 15, 16] rfl rfl rfl rfl (by decide) 2 rfl rfl (Nat.le_of_ble_eq_true rfl) (by decide +kernel) dX4_approve_70 (fun rvu2 wu2 hu2 => ?_)
      obtain ⟨rfl, rfl⟩ := hu2
      refine jr_perm (ws' := (wM G h (uF F 13 isf) (jU V 0 cd) fnd)) (st := [.int (iI ((iN * 12 + tN : Nat) : Int)), .ref (h 15)]) [0, 1, 2, 3, 4, 5, 6, 7, 8, 9, 10, 11, 12, 13, 14, 15, 16] rfl rfl ?_
      refine jr_bipush (pc := 73) hh dX4_approve_73 (by decide) ?_
      refine jr_cast (F := (F 14)) (ws' := (wM G h (uF (uF F 13 isf) 14 (jU (F 14) (iN * 12 + tN) 97)) (jU V 0 cd) fnd)) (pc := 75) hh 15 rfl (iN * 12 + tN) (by omega) (by omega) (by decide) ⟨by omega, by omega⟩ rfl dX4_approve_75 ?_
      refine jr_aload_n (pc := 76) hh 0 dX4_approve_76 rfl rfl ?_
      refine jr_get (v := .ref (h 11)) (pc := 77) hh in_X4_approve_X4 0 rfl rfl 10 (by decide) (by decide +kernel : Cond.fieldLink RX4 40 (TX4 10).1 (TX4 10).2.1 (TX4 10).2.2.1 ∈ wsX4_approve) rfl dX4_approve_77 ?_
      refine jr_iload_n (pc := 80) hh 1 dX4_approve_80 rfl rfl ?_
      refine jr_iload_n (pc := 81) hh 2 dX4_approve_81 rfl rfl ?_
      refine jr_callS (pc := 82) hh [.int (iI (iN : Int)), .int (iI (tN : Int))] [.ref (h 11)] (c_X4_at l G iN tN) gX4_approve_X4_at rfl (by decide) (by decide) [] [0, 1, 2, 3, 4, 5, 6, 7, 8, 9, 10, 11, 12, 13, 14, 15, 16] rfl rfl rfl rfl (by decide) 2 rfl rfl (Nat.le_of_ble_eq_true rfl) (by decide +kernel) dX4_approve_82 (fun rvu3 wu3 hu3 => ?_)
      obtain ⟨rfl, rfl⟩ := hu3
      refine jr_perm (ws' := (wM G h (uF (uF F 13 isf) 14 (jU (F 14) (iN * 12 + tN) 97)) (jU V 0 cd) fnd)) (st := [.int (iI ((iN * 12 + tN : Nat) : Int)), .ref (h 11)]) [0, 1, 2, 3, 4, 5, 6, 7, 8, 9, 10, 11, 12, 13, 14, 15, 16] rfl rfl ?_
      refine jr_aload_n (pc := 85) hh 0 dX4_approve_85 rfl rfl ?_
      refine jr_get (v := .ref (h 16)) (pc := 86) hh in_X4_approve_X4 0 rfl rfl 15 (by decide) (by decide +kernel : Cond.fieldLink RX4 57 (TX4 15).1 (TX4 15).2.1 (TX4 15).2.2.1 ∈ wsX4_approve) rfl dX4_approve_86 ?_
      refine jr_iload_n (pc := 89) hh 1 dX4_approve_89 rfl rfl ?_
      refine jr_lald (F := fnd) (pc := 90) hh 16 rfl iN (by omega) (by omega) (by decide) dX4_approve_90 ?_
      refine jr_l2i (pc := 91) hh dX4_approve_91 ?_
      refine jr_iast (F := (F 10)) (ws' := (wM G h (uF (uF (uF F 10 (jU (F 10) (iN * 12 + tN) (fnd iN))) 13 isf) 14 (jU (F 14) (iN * 12 + tN) 97)) (jU V 0 cd) fnd)) (pc := 92) hh 11 rfl (iN * 12 + tN) (by omega) (by omega) (by decide) rfl dX4_approve_92 ?_
      refine jr_aload_n (pc := 93) hh 0 dX4_approve_93 rfl rfl ?_
      refine jr_get (v := .ref (h 12)) (pc := 94) hh in_X4_approve_X4 0 rfl rfl 11 (by decide) (by decide +kernel : Cond.fieldLink RX4 43 (TX4 11).1 (TX4 11).2.1 (TX4 11).2.2.1 ∈ wsX4_approve) rfl dX4_approve_94 ?_
      refine jr_iload_n (pc := 97) hh 1 dX4_approve_97 rfl rfl ?_
      refine jr_iload_n (pc := 98) hh 2 dX4_approve_98 rfl rfl ?_
      refine jr_callS (pc := 99) hh [.int (iI (iN : Int)), .int (iI (tN : Int))] [.ref (h 12)] (c_X4_at l G iN tN) gX4_approve_X4_at rfl (by decide) (by decide) [] [0, 1, 2, 3, 4, 5, 6, 7, 8, 9, 10, 11, 12, 13, 14, 15, 16] rfl rfl rfl rfl (by decide) 2 rfl rfl (Nat.le_of_ble_eq_true rfl) (by decide +kernel) dX4_approve_99 (fun rvu4 wu4 hu4 => ?_)
      obtain ⟨rfl, rfl⟩ := hu4
      refine jr_perm (ws' := (wM G h (uF (uF (uF F 10 (jU (F 10) (iN * 12 + tN) (fnd iN))) 13 isf) 14 (jU (F 14) (iN * 12 + tN) 97)) (jU V 0 cd) fnd)) (st := [.int (iI ((iN * 12 + tN : Nat) : Int)), .ref (h 12)]) [0, 1, 2, 3, 4, 5, 6, 7, 8, 9, 10, 11, 12, 13, 14, 15, 16] rfl rfl ?_
      refine jr_iload_n (pc := 102) hh 3 dX4_approve_102 rfl rfl ?_
      refine jr_iast (F := (F 11)) (ws' := (wM G h (uF (uF (uF (uF F 10 (jU (F 10) (iN * 12 + tN) (fnd iN))) 11 (jU (F 11) (iN * 12 + tN) tol)) 13 isf) 14 (jU (F 14) (iN * 12 + tN) 97)) (jU V 0 cd) fnd)) (pc := 103) hh 12 rfl (iN * 12 + tN) (by omega) (by omega) (by decide) rfl dX4_approve_103 ?_
      refine jr_aload_n (pc := 104) hh 0 dX4_approve_104 rfl rfl ?_
      refine jr_get (v := .ref (h 16)) (pc := 105) hh in_X4_approve_X4 0 rfl rfl 15 (by decide) (by decide +kernel : Cond.fieldLink RX4 57 (TX4 15).1 (TX4 15).2.1 (TX4 15).2.2.1 ∈ wsX4_approve) rfl dX4_approve_105 ?_
      refine jr_iload_n (pc := 108) hh 1 dX4_approve_108 rfl rfl ?_
      refine jr_lald (F := fnd) (pc := 109) hh 16 rfl iN (by omega) (by omega) (by decide) dX4_approve_109 ?_
      refine jr_l2i (pc := 110) hh dX4_approve_110 ?_
      exact jr_iret (pc := 111) hh hret rfl ⟨_, _, _, _, jsi hfe, rfl, fun q => absurd q (by omega), fun _ => ⟨rfl, (mSc_eq (mSc_app F isf (jU (F 14) (iN * 12 + tN) 97) (jU (F 10) (iN * 12 + tN) (fnd iN)) (jU (F 11) (iN * 12 + tN) tol)) (congrArg (fun q => uF (uF (uF F 14 (jU (F 14) (iN * 12 + tN) 97)) 10 (jU (F 10) (iN * 12 + tN) q)) 11 (jU (F 11) (iN * 12 + tN) tol)) hfe)), by rw [show cd = 0 by omega]⟩⟩ (by decide) (by decide) dX4_approve_111
    · skip
      refine jr_iconst (pc := 62) hh dX4_approve_62 ?_
      exact jr_iret (pc := 63) hh hret rfl ⟨0, _, _, _, rfl, rfl, fun _ => ⟨(mSc_13 _ _), by rw [hcut52]⟩, fun q => absurd q (by omega)⟩ (by decide) (by decide) dX4_approve_63
  · try dsimp only at cut52
    refine jr_aload_n (pc := 0) hh 0 dX4_approve_0 rfl rfl ?_
    refine jr_aload_n (pc := 1) hh 0 dX4_approve_1 rfl rfl ?_
    refine jr_iload_n (pc := 2) hh 1 dX4_approve_2 rfl rfl ?_
    refine jr_callV (pc := 3) hh [.int (iI i)] [.ref (h 0)] (c_X4_isLine l G h F V fd i ⟨by omega, by omega⟩ ⟨by omega, by omega⟩) gX4_approve_X4_isLine rfl (by decide) (by decide) [0, 1, 2, 3, 4, 5, 6, 7, 8, 9, 10, 11, 12, 13, 14, 15, 16] [] rfl rfl rfl rfl (by decide) 0 rfl rfl 1 rfl rfl (Nat.le_of_ble_eq_true rfl) (by decide +kernel) dX4_approve_3 (fun rvu6 wu6 hu6 => ?_)
    obtain ⟨rfl, rfl⟩ := hu6
    refine jr_perm (ws' := (wM G h F V fd)) (st := [.int (iI (inI i 0 (V 2 - 1))), .ref (h 0)]) [0, 1, 2, 3, 4, 5, 6, 7, 8, 9, 10, 11, 12, 13, 14, 15, 16] rfl rfl ?_
    have hin5 : (inI i 0 (V 2 - 1)) = if 0 ≤ i ∧ i ≤ V 2 - 1 then 1 else 0 := rfl
    refine jr_if_eq (tgt := 16) (pc := 6) hh dX4_approve_6 (by decide) ⟨by omega, by omega⟩ (fun c7 => ?_) (fun c7 => ?_)
    · skip
      refine jr_iconst (pc := 16) hh dX4_approve_16 ?_
      refine jr_goto (tgt := 52) (pc := 17) hh dX4_approve_17 (by decide) ?_
      refine jr_loc (lv' := [(0, .ref (h 0)), (1, .int (iI i)), (2, .int (iI t)), (3, .int (iI tol))]) [0, 1, 2, 3] rfl ?_
      exact cut52 (1, (F 13), fd) ⟨(by unfold cdApprove; (try simp only [Int.toNat_natCast]); omega), (by intro q9; exfalso; omega)⟩
    · skip
      refine jr_iload_n (pc := 9) hh 2 dX4_approve_9 rfl rfl ?_
      refine jr_callS (pc := 10) hh [.int (iI t)] [.ref (h 0)] (c_X4_isMonth l G t ⟨by omega, by omega⟩) gX4_approve_X4_isMonth rfl (by decide) (by decide) [] [0, 1, 2, 3, 4, 5, 6, 7, 8, 9, 10, 11, 12, 13, 14, 15, 16] rfl rfl rfl rfl (by decide) 1 rfl rfl (Nat.le_of_ble_eq_true rfl) (by decide +kernel) dX4_approve_10 (fun rvu9 wu9 hu9 => ?_)
      obtain ⟨rfl, rfl⟩ := hu9
      refine jr_perm (ws' := (wM G h F V fd)) (st := [.int (iI (inI t 0 11)), .ref (h 0)]) [0, 1, 2, 3, 4, 5, 6, 7, 8, 9, 10, 11, 12, 13, 14, 15, 16] rfl rfl ?_
      have hin8 : (inI t 0 11) = if 0 ≤ t ∧ t ≤ 11 then 1 else 0 := rfl
      refine jr_if_ne (tgt := 20) (pc := 13) hh dX4_approve_13 (by decide) ⟨by omega, by omega⟩ (fun c10 => ?_) (fun c10 => ?_)
      · skip
        refine jr_iload_n (pc := 20) hh 3 dX4_approve_20 rfl rfl ?_
        refine jr_iconst (pc := 21) hh dX4_approve_21 ?_
        refine jr_sipush (pc := 22) hh dX4_approve_22 (by decide) ?_
        refine jr_callS (pc := 25) hh [.int (iI tol), .int (iI 0), .int (iI 9999)] [.ref (h 0)] (c_X4_in l G tol 0 9999 ⟨by omega, by omega⟩ ⟨by omega, by omega⟩ ⟨by omega, by omega⟩) gX4_approve_X4_in rfl (by decide) (by decide) [] [0, 1, 2, 3, 4, 5, 6, 7, 8, 9, 10, 11, 12, 13, 14, 15, 16] rfl rfl rfl rfl (by decide) 3 rfl rfl (Nat.le_of_ble_eq_true rfl) (by decide +kernel) dX4_approve_25 (fun rvu12 wu12 hu12 => ?_)
        obtain ⟨rfl, rfl⟩ := hu12
        refine jr_perm (ws' := (wM G h F V fd)) (st := [.int (iI (inI tol 0 9999)), .ref (h 0)]) [0, 1, 2, 3, 4, 5, 6, 7, 8, 9, 10, 11, 12, 13, 14, 15, 16] rfl rfl ?_
        have hin11 : (inI tol 0 9999) = if 0 ≤ tol ∧ tol ≤ 9999 then 1 else 0 := rfl
        refine jr_if_ne (tgt := 35) (pc := 28) hh dX4_approve_28 (by decide) ⟨by omega, by omega⟩ (fun c13 => ?_) (fun c13 => ?_)
        · skip
          obtain ⟨iN, rfl⟩ : ∃ k : Nat, i = (k : Int) := ⟨i.toNat, by omega⟩
          obtain ⟨tN, rfl⟩ : ∃ k : Nat, t = (k : Int) := ⟨t.toNat, by omega⟩
          refine jr_aload_n (pc := 35) hh 0 dX4_approve_35 rfl rfl ?_
          refine jr_iconst (pc := 36) hh dX4_approve_36 ?_
          refine jr_iload_n (pc := 37) hh 1 dX4_approve_37 rfl rfl ?_
          refine jr_iload_n (pc := 38) hh 2 dX4_approve_38 rfl rfl ?_
          refine jr_bipush (pc := 39) hh dX4_approve_39 (by decide) ?_
          refine jr_callV (pc := 41) hh [.int (iI 0), .int (iI (iN : Int)), .int (iI (tN : Int)), .int (iI 6)] [.ref (h 0)] (c_X4_finds l G h F V fd 0 iN tN 6 hk (by show (_ : Int) < V 3; omega) (by show (_ : Int) < V 2; omega) (by omega) (by omega)) gX4_approve_X4_finds rfl (by decide) (by decide) [0, 1, 2, 3, 4, 5, 6, 7, 8, 9, 10, 11, 12, 13, 14, 15, 16] [] rfl rfl rfl rfl (by decide) 0 rfl rfl 4 rfl rfl (Nat.le_of_ble_eq_true rfl) (by decide +kernel) dX4_approve_41 (fun rvu15 wu15 hu15 => ?_)
          obtain ⟨rfl, isfz14, fdz14, hfdz14, rfl⟩ := hu15
          refine jr_perm (ws' := (wM G h (uF F 13 isfz14) V fdz14)) (st := [.int (iI (if enc (nmM F V 0 tN 6 iN) = -1000000000 then 0 else 1)), .ref (h 0)]) [0, 1, 2, 3, 4, 5, 6, 7, 8, 9, 10, 11, 12, 13, 14, 15, 16] rfl rfl ?_
          replace hfdz14 : enc (nmM F V 0 tN 6 iN) ≠ -1000000000 → fdz14 iN = enc (nmM F V 0 tN 6 iN) := hfdz14
          refine jr_if_ne (tgt := 51) (pc := 44) hh dX4_approve_44 (by decide) ⟨by omega, by omega⟩ (fun c16 => ?_) (fun c16 => ?_)
          · skip
            refine jr_iconst (pc := 51) hh dX4_approve_51 ?_
            refine jr_loc (lv' := [(0, .ref (h 0)), (1, .int (iI (iN : Int))), (2, .int (iI (tN : Int))), (3, .int (iI tol))]) [0, 1, 2, 3] rfl ?_
            exact cut52 (0, isfz14, fdz14) ⟨(by unfold cdApprove; (try simp only [Int.toNat_natCast]); omega), (by first | exact (fun _ => hfdz14 (by omega)) | (intro q9; exfalso; omega))⟩
          · skip
            refine jr_iconst (pc := 47) hh dX4_approve_47 ?_
            refine jr_goto (tgt := 52) (pc := 48) hh dX4_approve_48 (by decide) ?_
            refine jr_loc (lv' := [(0, .ref (h 0)), (1, .int (iI (iN : Int))), (2, .int (iI (tN : Int))), (3, .int (iI tol))]) [0, 1, 2, 3] rfl ?_
            exact cut52 (3, isfz14, fdz14) ⟨(by unfold cdApprove; (try simp only [Int.toNat_natCast]); omega), (by first | exact (fun _ => hfdz14 (by omega)) | (intro q9; exfalso; omega))⟩
        · skip
          refine jr_iconst (pc := 31) hh dX4_approve_31 ?_
          refine jr_goto (tgt := 52) (pc := 32) hh dX4_approve_32 (by decide) ?_
          refine jr_loc (lv' := [(0, .ref (h 0)), (1, .int (iI i)), (2, .int (iI t)), (3, .int (iI tol))]) [0, 1, 2, 3] rfl ?_
          exact cut52 (2, (F 13), fd) ⟨(by unfold cdApprove; (try simp only [Int.toNat_natCast]); omega), (by intro q9; exfalso; omega)⟩
      · skip
        refine jr_iconst (pc := 16) hh dX4_approve_16 ?_
        refine jr_goto (tgt := 52) (pc := 17) hh dX4_approve_17 (by decide) ?_
        refine jr_loc (lv' := [(0, .ref (h 0)), (1, .int (iI i)), (2, .int (iI t)), (3, .int (iI tol))]) [0, 1, 2, 3] rfl ?_
        exact cut52 (1, (F 13), fd) ⟨(by unfold cdApprove; (try simp only [Int.toNat_natCast]); omega), (by intro q9; exfalso; omega)⟩
set_option maxRecDepth 20000 in
theorem in_X4_state_X4 : ∀ w ∈ u_ws RX4 TX4 22, w ∈ wsX4_state := by decide +kernel
set_option maxHeartbeats 4000000 in
set_option maxRecDepth 100000 in
theorem c_X4_state (l : Launch) (G : jG) (h : Nat → Nat) (F : Nat → Nat → Int) (V : Nat → Int) (fd : Nat → Int) (i t : Int) (hri : jR i) (hrt : jR t) (hk : okM F V) : jMet l yX4_state wsX4_state { frames := 4, cells := 0, slots := 0, locals := 180 } G (wM G h F V fd) [.ref (h 0), .int (iI i), .int (iI t)] (fun rv w1 => ∃ (v : Int) (F' : Nat → Nat → Int) (V' fd' : Nat → Int), rv = some (.int (iI v)) ∧ w1 = wM G h F' V' fd' ∧ (cdState (V 2) i t ≠ 0 → mSc F F' ∧ V' = jU V 0 (cdState (V 2) i t)) ∧ (cdState (V 2) i t = 0 → v = F 14 (i.toNat * 12 + t.toNat) ∧ mSc F F' ∧ V' = (jU V 0 0))) := by
  refine jMet_of (cc := cX4_state) (maxL := 3) (ret := (some .char)) (by decide +kernel) rfl (Nat.le_of_ble_eq_true rfl) ?_
  intro p e s m args below meth c A hh hret hinit
  refine jr_loc (lv' := [(0, .ref (h 0)), (1, .int (iI i)), (2, .int (iI t))]) [0, 1, 2] rfl ?_
  obtain ⟨hV1, hV2, hV3, hV4, hV5, -⟩ := id hk
  have hri1 := hri.1
  have hrt1 := hrt.1
  have hri2 := hri.2
  have hrt2 := hrt.2
  refine jr_cut (σ := Int) 21 (fun (z : Int) => z = 1 - cdState (V 2) i t) (fun (z : Int) => (wM G h F V fd)) (fun (z : Int) => [(0, .ref (h 0)), (1, .int (iI i)), (2, .int (iI t))]) (fun (z : Int) => [.int (iI z), .ref (h 0)]) ?_ (fun cut21 => ?_)
  · rintro z hcut21
    try dsimp only
    try dsimp only at hcut21
    have hcd2 := hcut21
    unfold cdState at hcd2
    refine jr_callV (pc := 21) hh [.int (iI z)] [] (c_X4_checked l G h F V fd z (by omega)) gX4_state_X4_checked rfl (by decide) (by decide) [0, 1, 2, 3, 4, 5, 6, 7, 8, 9, 10, 11, 12, 13, 14, 15, 16] [] rfl rfl rfl rfl (by decide) 0 rfl rfl 1 rfl rfl (Nat.le_of_ble_eq_true rfl) (by decide +kernel) dX4_state_21 (fun rvu1 wu1 hu1 => ?_)
    obtain ⟨rfl, rfl⟩ := hu1
    refine jr_perm (ws' := (wM G h F (jU V 0 (1 - z)) fd)) (st := [.int (iI (1 - z))]) [0, 1, 2, 3, 4, 5, 6, 7, 8, 9, 10, 11, 12, 13, 14, 15, 16] rfl rfl ?_
    refine jr_if_le (tgt := 32) (pc := 24) hh dX4_state_24 (by decide) ⟨by omega, by omega⟩ (fun c2 => ?_) (fun c2 => ?_)
    · skip
      obtain ⟨iN, rfl⟩ : ∃ k : Nat, i = (k : Int) := ⟨i.toNat, by omega⟩
      obtain ⟨tN, rfl⟩ : ∃ k : Nat, t = (k : Int) := ⟨t.toNat, by omega⟩
      have hA := hk.2.2.2.2.2.2.2.2.2 (iN * 12 + tN) (by omega)
      have hac : acX F (iN * 12 + tN) = if F 12 (iN * 12 + tN) = 1 then F 9 (iN * 12 + tN) else -1000000000 := rfl
      refine jr_aload_n (pc := 32) hh 0 dX4_state_32 rfl rfl ?_
      refine jr_get (v := .ref (h 15)) (pc := 33) hh in_X4_state_X4 0 rfl rfl 14 (by decide) (by decide +kernel : Cond.fieldLink RX4 53 (TX4 14).1 (TX4 14).2.1 (TX4 14).2.2.1 ∈ wsX4_state) rfl dX4_state_33 ?_
      refine jr_iload_n (pc := 36) hh 1 dX4_state_36 rfl rfl ?_
      refine jr_iload_n (pc := 37) hh 2 dX4_state_37 rfl rfl ?_
      refine jr_callS (pc := 38) hh [.int (iI (iN : Int)), .int (iI (tN : Int))] [.ref (h 15)] (c_X4_at l G iN tN) gX4_state_X4_at rfl (by decide) (by decide) [] [0, 1, 2, 3, 4, 5, 6, 7, 8, 9, 10, 11, 12, 13, 14, 15, 16] rfl rfl rfl rfl (by decide) 2 rfl rfl (Nat.le_of_ble_eq_true rfl) (by decide +kernel) dX4_state_38 (fun rvu3 wu3 hu3 => ?_)
      obtain ⟨rfl, rfl⟩ := hu3
      refine jr_perm (ws' := (wM G h F (jU V 0 (1 - z)) fd)) (st := [.int (iI ((iN * 12 + tN : Nat) : Int)), .ref (h 15)]) [0, 1, 2, 3, 4, 5, 6, 7, 8, 9, 10, 11, 12, 13, 14, 15, 16] rfl rfl ?_
      refine jr_cald (F := (F 14)) (pc := 41) hh 15 rfl (iN * 12 + tN) (by omega) (by omega) (by decide) dX4_state_41 ?_
      exact jr_iret (pc := 42) hh hret (jnarC ⟨by omega, by omega⟩) ⟨_, _, _, _, rfl, rfl, fun q => absurd q (by omega), fun _ => ⟨rfl, mSc_rf _, by congr 1; omega⟩⟩ (by decide) (by decide) dX4_state_42
    · skip
      refine jr_bipush (pc := 27) hh dX4_state_27 (by decide) ?_
      refine jr_goto (tgt := 42) (pc := 29) hh dX4_state_29 (by decide) ?_
      exact jr_iret (pc := 42) hh hret (jnarC ⟨by omega, by omega⟩) ⟨32, _, _, _, rfl, rfl, fun _ => ⟨(mSc_rf _), by congr 1; omega⟩, fun q => absurd q (by omega)⟩ (by decide) (by decide) dX4_state_42
  · try dsimp only at cut21
    refine jr_aload_n (pc := 0) hh 0 dX4_state_0 rfl rfl ?_
    refine jr_aload_n (pc := 1) hh 0 dX4_state_1 rfl rfl ?_
    refine jr_iload_n (pc := 2) hh 1 dX4_state_2 rfl rfl ?_
    refine jr_callV (pc := 3) hh [.int (iI i)] [.ref (h 0)] (c_X4_isLine l G h F V fd i ⟨by omega, by omega⟩ ⟨by omega, by omega⟩) gX4_state_X4_isLine rfl (by decide) (by decide) [0, 1, 2, 3, 4, 5, 6, 7, 8, 9, 10, 11, 12, 13, 14, 15, 16] [] rfl rfl rfl rfl (by decide) 0 rfl rfl 1 rfl rfl (Nat.le_of_ble_eq_true rfl) (by decide +kernel) dX4_state_3 (fun rvu5 wu5 hu5 => ?_)
    obtain ⟨rfl, rfl⟩ := hu5
    refine jr_perm (ws' := (wM G h F V fd)) (st := [.int (iI (inI i 0 (V 2 - 1))), .ref (h 0)]) [0, 1, 2, 3, 4, 5, 6, 7, 8, 9, 10, 11, 12, 13, 14, 15, 16] rfl rfl ?_
    have hin4 : (inI i 0 (V 2 - 1)) = if 0 ≤ i ∧ i ≤ V 2 - 1 then 1 else 0 := rfl
    refine jr_if_eq (tgt := 20) (pc := 6) hh dX4_state_6 (by decide) ⟨by omega, by omega⟩ (fun c6 => ?_) (fun c6 => ?_)
    · skip
      refine jr_iconst (pc := 20) hh dX4_state_20 ?_
      refine jr_loc (lv' := [(0, .ref (h 0)), (1, .int (iI i)), (2, .int (iI t))]) [0, 1, 2] rfl ?_
      exact cut21 (0) (by unfold cdState; omega)
    · skip
      refine jr_iload_n (pc := 9) hh 2 dX4_state_9 rfl rfl ?_
      refine jr_callS (pc := 10) hh [.int (iI t)] [.ref (h 0)] (c_X4_isMonth l G t ⟨by omega, by omega⟩) gX4_state_X4_isMonth rfl (by decide) (by decide) [] [0, 1, 2, 3, 4, 5, 6, 7, 8, 9, 10, 11, 12, 13, 14, 15, 16] rfl rfl rfl rfl (by decide) 1 rfl rfl (Nat.le_of_ble_eq_true rfl) (by decide +kernel) dX4_state_10 (fun rvu8 wu8 hu8 => ?_)
      obtain ⟨rfl, rfl⟩ := hu8
      refine jr_perm (ws' := (wM G h F V fd)) (st := [.int (iI (inI t 0 11)), .ref (h 0)]) [0, 1, 2, 3, 4, 5, 6, 7, 8, 9, 10, 11, 12, 13, 14, 15, 16] rfl rfl ?_
      have hin7 : (inI t 0 11) = if 0 ≤ t ∧ t ≤ 11 then 1 else 0 := rfl
      refine jr_if_eq (tgt := 20) (pc := 13) hh dX4_state_13 (by decide) ⟨by omega, by omega⟩ (fun c9 => ?_) (fun c9 => ?_)
      · skip
        refine jr_iconst (pc := 20) hh dX4_state_20 ?_
        refine jr_loc (lv' := [(0, .ref (h 0)), (1, .int (iI i)), (2, .int (iI t))]) [0, 1, 2] rfl ?_
        exact cut21 (0) (by unfold cdState; omega)
      · skip
        refine jr_iconst (pc := 16) hh dX4_state_16 ?_
        refine jr_goto (tgt := 21) (pc := 17) hh dX4_state_17 (by decide) ?_
        refine jr_loc (lv' := [(0, .ref (h 0)), (1, .int (iI i)), (2, .int (iI t))]) [0, 1, 2] rfl ?_
        exact cut21 (1) (by unfold cdState; omega)
set_option maxRecDepth 20000 in
theorem in_X4_drift_X4 : ∀ w ∈ u_ws RX4 TX4 22, w ∈ wsX4_drift := by decide +kernel
set_option maxHeartbeats 4000000 in
set_option maxRecDepth 100000 in
theorem c_X4_drift (l : Launch) (G : jG) (h : Nat → Nat) (F : Nat → Nat → Int) (V : Nat → Int) (fd : Nat → Int) (i t : Int) (hri : jR i) (hrt : jR t) (hk : okM F V) : jMet l yX4_drift wsX4_drift { frames := 6, cells := 0, slots := 0, locals := 300 } G (wM G h F V fd) [.ref (h 0), .int (iI i), .int (iI t)] (fun rv w1 => ∃ (v : Int) (F' : Nat → Nat → Int) (V' fd' : Nat → Int), rv = some (.int (iI v)) ∧ w1 = wM G h F' V' fd' ∧ (cdDrift (V 2) i t (F 14 (i.toNat * 12 + t.toNat)) (enc (nmM F V 0 t.toNat 6 i.toNat)) ≠ 0 → mSc F F' ∧ V' = jU V 0 (cdDrift (V 2) i t (F 14 (i.toNat * 12 + t.toNat)) (enc (nmM F V 0 t.toNat 6 i.toNat)))) ∧ (cdDrift (V 2) i t (F 14 (i.toNat * 12 + t.toNat)) (enc (nmM F V 0 t.toNat 6 i.toNat)) = 0 → v = (enc (nmM F V 0 t.toNat 6 i.toNat)) - F 10 (i.toNat * 12 + t.toNat) ∧ mSc F F' ∧ V' = (jU V 0 0))) := by
  refine jMet_of (cc := cX4_drift) (maxL := 3) (ret := (some .int)) (by decide +kernel) rfl (Nat.le_of_ble_eq_true rfl) ?_
  intro p e s m args below meth c A hh hret hinit
  refine jr_loc (lv' := [(0, .ref (h 0)), (1, .int (iI i)), (2, .int (iI t))]) [0, 1, 2] rfl ?_
  obtain ⟨hV1, hV2, hV3, hV4, hV5, -⟩ := id hk
  have hri1 := hri.1
  have hrt1 := hrt.1
  have hri2 := hri.2
  have hrt2 := hrt.2
  refine jr_cut (σ := Int × (Nat → Int) × (Nat → Int)) 56 (fun (x : Int × (Nat → Int) × (Nat → Int)) => match x with | (cd, isf, fnd) => cd = cdDrift (V 2) i t (F 14 (i.toNat * 12 + t.toNat)) (enc (nmM F V 0 t.toNat 6 i.toNat)) ∧ (cd = 0 → fnd i.toNat = enc (nmM F V 0 t.toNat 6 i.toNat))) (fun (x : Int × (Nat → Int) × (Nat → Int)) => match x with | (cd, isf, fnd) => (wM G h (uF F 13 isf) V fnd)) (fun (x : Int × (Nat → Int) × (Nat → Int)) => match x with | (cd, isf, fnd) => [(0, .ref (h 0)), (1, .int (iI i)), (2, .int (iI t))]) (fun (x : Int × (Nat → Int) × (Nat → Int)) => match x with | (cd, isf, fnd) => [.int (iI cd), .ref (h 0)]) ?_ (fun cut56 => ?_)
  · rintro ⟨cd, isf, fnd⟩ hcut56
    try dsimp only
    try dsimp only at hcut56
    obtain ⟨hcut56, hfnd⟩ := hcut56
    have hcd2 := hcut56
    unfold cdDrift at hcd2
    refine jr_put (ws' := (wM G h (uF F 13 isf) (jU V 0 cd) fnd)) (pc := 56) hh in_X4_drift_X4 tyX4_ok nmX4 0 rfl rfl 16 (by decide) (by decide +kernel : Cond.fieldLink RX4 61 (TX4 16).1 (TX4 16).2.1 (TX4 16).2.2.1 ∈ wsX4_drift) rfl rfl (Nat.le_of_ble_eq_true rfl) rfl dX4_drift_56 ?_
    refine jr_aload_n (pc := 59) hh 0 dX4_drift_59 rfl rfl ?_
    refine jr_get (v := .int (iI cd)) (pc := 60) hh in_X4_drift_X4 0 rfl rfl 16 (by decide) (by decide +kernel : Cond.fieldLink RX4 61 (TX4 16).1 (TX4 16).2.1 (TX4 16).2.2.1 ∈ wsX4_drift) rfl dX4_drift_60 ?_
    refine jr_if_le (tgt := 70) (pc := 63) hh dX4_drift_63 (by decide) ⟨by omega, by omega⟩ (fun c1 => ?_) (fun c1 => ?_)
    · skip
      obtain ⟨iN, rfl⟩ : ∃ k : Nat, i = (k : Int) := ⟨i.toNat, by omega⟩
      obtain ⟨tN, rfl⟩ : ∃ k : Nat, t = (k : Int) := ⟨t.toNat, by omega⟩
      have hfe : fnd iN = enc (nmM F V 0 tN 6 iN) := hfnd (by omega)
      refine jr_aload_n (pc := 70) hh 0 dX4_drift_70 rfl rfl ?_
      refine jr_get (v := .ref (h 16)) (pc := 71) hh in_X4_drift_X4 0 rfl rfl 15 (by decide) (by decide +kernel : Cond.fieldLink RX4 57 (TX4 15).1 (TX4 15).2.1 (TX4 15).2.2.1 ∈ wsX4_drift) rfl dX4_drift_71 ?_
      refine jr_iload_n (pc := 74) hh 1 dX4_drift_74 rfl rfl ?_
      refine jr_lald (F := fnd) (pc := 75) hh 16 rfl iN (by omega) (by omega) (by decide) dX4_drift_75 ?_
      refine jr_l2i (pc := 76) hh dX4_drift_76 ?_
      refine jr_aload_n (pc := 77) hh 0 dX4_drift_77 rfl rfl ?_
      refine jr_get (v := .ref (h 11)) (pc := 78) hh in_X4_drift_X4 0 rfl rfl 10 (by decide) (by decide +kernel : Cond.fieldLink RX4 40 (TX4 10).1 (TX4 10).2.1 (TX4 10).2.2.1 ∈ wsX4_drift) rfl dX4_drift_78 ?_
      refine jr_iload_n (pc := 81) hh 1 dX4_drift_81 rfl rfl ?_
      refine jr_iload_n (pc := 82) hh 2 dX4_drift_82 rfl rfl ?_
      refine jr_callS (pc := 83) hh [.int (iI (iN : Int)), .int (iI (tN : Int))] [.ref (h 11), .int (iI (fnd iN))] (c_X4_at l G iN tN) gX4_drift_X4_at rfl (by decide) (by decide) [] [0, 1, 2, 3, 4, 5, 6, 7, 8, 9, 10, 11, 12, 13, 14, 15, 16] rfl rfl rfl rfl (by decide) 2 rfl rfl (Nat.le_of_ble_eq_true rfl) (by decide +kernel) dX4_drift_83 (fun rvu2 wu2 hu2 => ?_)
      obtain ⟨rfl, rfl⟩ := hu2
      refine jr_perm (ws' := (wM G h (uF F 13 isf) (jU V 0 cd) fnd)) (st := [.int (iI ((iN * 12 + tN : Nat) : Int)), .ref (h 11), .int (iI (fnd iN))]) [0, 1, 2, 3, 4, 5, 6, 7, 8, 9, 10, 11, 12, 13, 14, 15, 16] rfl rfl ?_
      refine jr_iald (F := (F 10)) (pc := 86) hh 11 rfl (iN * 12 + tN) (by omega) (by omega) (by decide) dX4_drift_86 ?_
      refine jr_isub (pc := 87) hh dX4_drift_87 ?_
      exact jr_iret (pc := 88) hh hret rfl ⟨_, _, _, _, jsi (by rw [hfe]; rfl), rfl, fun q => absurd q (by omega), fun _ => ⟨rfl, mSc_13 _ _, by rw [show cd = 0 by omega]⟩⟩ (by decide) (by decide) dX4_drift_88
    · skip
      refine jr_iconst (pc := 66) hh dX4_drift_66 ?_
      refine jr_goto (tgt := 88) (pc := 67) hh dX4_drift_67 (by decide) ?_
      exact jr_iret (pc := 88) hh hret rfl ⟨0, _, _, _, rfl, rfl, fun _ => ⟨(mSc_13 _ _), by rw [hcut56]⟩, fun q => absurd q (by omega)⟩ (by decide) (by decide) dX4_drift_88
  · try dsimp only at cut56
    refine jr_aload_n (pc := 0) hh 0 dX4_drift_0 rfl rfl ?_
    refine jr_aload_n (pc := 1) hh 0 dX4_drift_1 rfl rfl ?_
    refine jr_iload_n (pc := 2) hh 1 dX4_drift_2 rfl rfl ?_
    refine jr_callV (pc := 3) hh [.int (iI i)] [.ref (h 0)] (c_X4_isLine l G h F V fd i ⟨by omega, by omega⟩ ⟨by omega, by omega⟩) gX4_drift_X4_isLine rfl (by decide) (by decide) [0, 1, 2, 3, 4, 5, 6, 7, 8, 9, 10, 11, 12, 13, 14, 15, 16] [] rfl rfl rfl rfl (by decide) 0 rfl rfl 1 rfl rfl (Nat.le_of_ble_eq_true rfl) (by decide +kernel) dX4_drift_3 (fun rvu4 wu4 hu4 => ?_)
    obtain ⟨rfl, rfl⟩ := hu4
    refine jr_perm (ws' := (wM G h F V fd)) (st := [.int (iI (inI i 0 (V 2 - 1))), .ref (h 0)]) [0, 1, 2, 3, 4, 5, 6, 7, 8, 9, 10, 11, 12, 13, 14, 15, 16] rfl rfl ?_
    have hin3 : (inI i 0 (V 2 - 1)) = if 0 ≤ i ∧ i ≤ V 2 - 1 then 1 else 0 := rfl
    refine jr_if_eq (tgt := 16) (pc := 6) hh dX4_drift_6 (by decide) ⟨by omega, by omega⟩ (fun c5 => ?_) (fun c5 => ?_)
    · skip
      refine jr_iconst (pc := 16) hh dX4_drift_16 ?_
      refine jr_goto (tgt := 56) (pc := 17) hh dX4_drift_17 (by decide) ?_
      refine jr_loc (lv' := [(0, .ref (h 0)), (1, .int (iI i)), (2, .int (iI t))]) [0, 1, 2] rfl ?_
      exact cut56 (1, (F 13), fd) ⟨(by unfold cdDrift; (try simp only [Int.toNat_natCast]); omega), (by intro q9; exfalso; omega)⟩
    · skip
      refine jr_iload_n (pc := 9) hh 2 dX4_drift_9 rfl rfl ?_
      refine jr_callS (pc := 10) hh [.int (iI t)] [.ref (h 0)] (c_X4_isMonth l G t ⟨by omega, by omega⟩) gX4_drift_X4_isMonth rfl (by decide) (by decide) [] [0, 1, 2, 3, 4, 5, 6, 7, 8, 9, 10, 11, 12, 13, 14, 15, 16] rfl rfl rfl rfl (by decide) 1 rfl rfl (Nat.le_of_ble_eq_true rfl) (by decide +kernel) dX4_drift_10 (fun rvu7 wu7 hu7 => ?_)
      obtain ⟨rfl, rfl⟩ := hu7
      refine jr_perm (ws' := (wM G h F V fd)) (st := [.int (iI (inI t 0 11)), .ref (h 0)]) [0, 1, 2, 3, 4, 5, 6, 7, 8, 9, 10, 11, 12, 13, 14, 15, 16] rfl rfl ?_
      have hin6 : (inI t 0 11) = if 0 ≤ t ∧ t ≤ 11 then 1 else 0 := rfl
      refine jr_if_ne (tgt := 20) (pc := 13) hh dX4_drift_13 (by decide) ⟨by omega, by omega⟩ (fun c8 => ?_) (fun c8 => ?_)
      · skip
        obtain ⟨iN, rfl⟩ : ∃ k : Nat, i = (k : Int) := ⟨i.toNat, by omega⟩
        obtain ⟨tN, rfl⟩ : ∃ k : Nat, t = (k : Int) := ⟨t.toNat, by omega⟩
        have hA := hk.2.2.2.2.2.2.2.2.2 (iN * 12 + tN) (by omega)
        have hac : acX F (iN * 12 + tN) = if F 12 (iN * 12 + tN) = 1 then F 9 (iN * 12 + tN) else -1000000000 := rfl
        refine jr_aload_n (pc := 20) hh 0 dX4_drift_20 rfl rfl ?_
        refine jr_get (v := .ref (h 15)) (pc := 21) hh in_X4_drift_X4 0 rfl rfl 14 (by decide) (by decide +kernel : Cond.fieldLink RX4 53 (TX4 14).1 (TX4 14).2.1 (TX4 14).2.2.1 ∈ wsX4_drift) rfl dX4_drift_21 ?_
        refine jr_iload_n (pc := 24) hh 1 dX4_drift_24 rfl rfl ?_
        refine jr_iload_n (pc := 25) hh 2 dX4_drift_25 rfl rfl ?_
        refine jr_callS (pc := 26) hh [.int (iI (iN : Int)), .int (iI (tN : Int))] [.ref (h 15), .ref (h 0)] (c_X4_at l G iN tN) gX4_drift_X4_at rfl (by decide) (by decide) [] [0, 1, 2, 3, 4, 5, 6, 7, 8, 9, 10, 11, 12, 13, 14, 15, 16] rfl rfl rfl rfl (by decide) 2 rfl rfl (Nat.le_of_ble_eq_true rfl) (by decide +kernel) dX4_drift_26 (fun rvu9 wu9 hu9 => ?_)
        obtain ⟨rfl, rfl⟩ := hu9
        refine jr_perm (ws' := (wM G h F V fd)) (st := [.int (iI ((iN * 12 + tN : Nat) : Int)), .ref (h 15), .ref (h 0)]) [0, 1, 2, 3, 4, 5, 6, 7, 8, 9, 10, 11, 12, 13, 14, 15, 16] rfl rfl ?_
        refine jr_cald (F := (F 14)) (pc := 29) hh 15 rfl (iN * 12 + tN) (by omega) (by omega) (by decide) dX4_drift_29 ?_
        refine jr_bipush (pc := 30) hh dX4_drift_30 (by decide) ?_
        refine jr_icmp_ne (tgt := 39) (pc := 32) hh dX4_drift_32 (by decide) ⟨by omega, by omega⟩ ⟨by omega, by omega⟩ (fun c10 => ?_) (fun c10 => ?_)
        · skip
          refine jr_aload_n (pc := 39) hh 0 dX4_drift_39 rfl rfl ?_
          refine jr_iconst (pc := 40) hh dX4_drift_40 ?_
          refine jr_iload_n (pc := 41) hh 1 dX4_drift_41 rfl rfl ?_
          refine jr_iload_n (pc := 42) hh 2 dX4_drift_42 rfl rfl ?_
          refine jr_bipush (pc := 43) hh dX4_drift_43 (by decide) ?_
          refine jr_callV (pc := 45) hh [.int (iI 0), .int (iI (iN : Int)), .int (iI (tN : Int)), .int (iI 6)] [.ref (h 0)] (c_X4_finds l G h F V fd 0 iN tN 6 hk (by show (_ : Int) < V 3; omega) (by show (_ : Int) < V 2; omega) (by omega) (by omega)) gX4_drift_X4_finds rfl (by decide) (by decide) [0, 1, 2, 3, 4, 5, 6, 7, 8, 9, 10, 11, 12, 13, 14, 15, 16] [] rfl rfl rfl rfl (by decide) 0 rfl rfl 4 rfl rfl (Nat.le_of_ble_eq_true rfl) (by decide +kernel) dX4_drift_45 (fun rvu12 wu12 hu12 => ?_)
          obtain ⟨rfl, isfz11, fdz11, hfdz11, rfl⟩ := hu12
          refine jr_perm (ws' := (wM G h (uF F 13 isfz11) V fdz11)) (st := [.int (iI (if enc (nmM F V 0 tN 6 iN) = -1000000000 then 0 else 1)), .ref (h 0)]) [0, 1, 2, 3, 4, 5, 6, 7, 8, 9, 10, 11, 12, 13, 14, 15, 16] rfl rfl ?_
          replace hfdz11 : enc (nmM F V 0 tN 6 iN) ≠ -1000000000 → fdz11 iN = enc (nmM F V 0 tN 6 iN) := hfdz11
          refine jr_if_ne (tgt := 55) (pc := 48) hh dX4_drift_48 (by decide) ⟨by omega, by omega⟩ (fun c13 => ?_) (fun c13 => ?_)
          · skip
            refine jr_iconst (pc := 55) hh dX4_drift_55 ?_
            refine jr_loc (lv' := [(0, .ref (h 0)), (1, .int (iI (iN : Int))), (2, .int (iI (tN : Int)))]) [0, 1, 2] rfl ?_
            exact cut56 (0, isfz11, fdz11) ⟨(by unfold cdDrift; (try simp only [Int.toNat_natCast]); omega), (by first | exact (fun _ => hfdz11 (by omega)) | (intro q9; exfalso; omega))⟩
          · skip
            refine jr_iconst (pc := 51) hh dX4_drift_51 ?_
            refine jr_goto (tgt := 56) (pc := 52) hh dX4_drift_52 (by decide) ?_
            refine jr_loc (lv' := [(0, .ref (h 0)), (1, .int (iI (iN : Int))), (2, .int (iI (tN : Int)))]) [0, 1, 2] rfl ?_
            exact cut56 (3, isfz11, fdz11) ⟨(by unfold cdDrift; (try simp only [Int.toNat_natCast]); omega), (by first | exact (fun _ => hfdz11 (by omega)) | (intro q9; exfalso; omega))⟩
        · skip
          refine jr_iconst (pc := 35) hh dX4_drift_35 ?_
          refine jr_goto (tgt := 56) (pc := 36) hh dX4_drift_36 (by decide) ?_
          refine jr_loc (lv' := [(0, .ref (h 0)), (1, .int (iI (iN : Int))), (2, .int (iI (tN : Int)))]) [0, 1, 2] rfl ?_
          exact cut56 (2, (F 13), fd) ⟨(by unfold cdDrift; (try simp only [Int.toNat_natCast]); omega), (by intro q9; exfalso; omega)⟩
      · skip
        refine jr_iconst (pc := 16) hh dX4_drift_16 ?_
        refine jr_goto (tgt := 56) (pc := 17) hh dX4_drift_17 (by decide) ?_
        refine jr_loc (lv' := [(0, .ref (h 0)), (1, .int (iI i)), (2, .int (iI t))]) [0, 1, 2] rfl ?_
        exact cut56 (1, (F 13), fd) ⟨(by unfold cdDrift; (try simp only [Int.toNat_natCast]); omega), (by intro q9; exfalso; omega)⟩
set_option maxRecDepth 20000 in
theorem in_X4_many_X4 : ∀ w ∈ u_ws RX4 TX4 22, w ∈ wsX4_many := by decide +kernel
set_option maxHeartbeats 4000000 in
set_option maxRecDepth 100000 in
theorem c_X4_many (l : Launch) (G : jG) (h : Nat → Nat) (F : Nat → Nat → Int) (V : Nat → Int) (fd : Nat → Int) (kd : Int) (hkd : 0 ≤ kd ∧ kd ≤ 65535) (hk : okM F V) : jMet l yX4_many wsX4_many { frames := 1, cells := 0, slots := 0, locals := 30 } G (wM G h F V fd) [.ref (h 0), .int (iI kd)] (fun rv w1 => rv = some (.int (iI (cntTo (F 14) kd 120))) ∧ w1 = wM G h F V fd) := by
  refine jMet_of (cc := cX4_many) (maxL := 4) (ret := (some .int)) (by decide +kernel) rfl (Nat.le_of_ble_eq_true rfl) ?_
  intro p e s m args below meth c A hh hret hinit
  refine jr_loc (lv' := [(0, .ref (h 0)), (1, .int (iI kd))]) [0, 1] rfl ?_
  refine jr_iconst (pc := 0) hh dX4_many_0 ?_
  refine jr_istore_n (lv' := [(2, .int (iI 0)), (0, .ref (h 0)), (1, .int (iI kd))]) (pc := 1) hh dX4_many_1 rfl (by decide) rfl ?_
  refine jr_iconst (pc := 2) hh dX4_many_2 ?_
  refine jr_istore_n (lv' := [(3, .int (iI 0)), (2, .int (iI 0)), (0, .ref (h 0)), (1, .int (iI kd))]) (pc := 3) hh dX4_many_3 rfl (by decide) rfl ?_
  refine jr_loc (lv' := [(0, .ref (h 0)), (1, .int (iI kd)), (2, .int (iI 0)), (3, .int (iI 0))]) [2, 3, 1, 0] rfl ?_
  refine jr_lvset (a := 0) (b := (cntTo (F 14) kd 0)) (lv' := [(0, .ref (h 0)), (1, .int (iI kd)), (2, .int (iI (cntTo (F 14) kd 0))), (3, .int (iI 0))]) 2 rfl (by first | rfl | (rw [cntTo_s, if_pos (by assumption)]) | (rw [cntTo_s, if_neg (by assumption)])) rfl ?_
  refine jr_lvset (a := 0) (b := (0 : Int)) (lv' := [(0, .ref (h 0)), (1, .int (iI kd)), (2, .int (iI (cntTo (F 14) kd 0))), (3, .int (iI (0 : Int)))]) 3 rfl (by first | rfl | omega) rfl ?_
  refine jr_loop (σ := Nat) (fun (k : Nat) => (k ≤ 120)) (fun (k : Nat) => 120 - k) (fun (k : Nat) => (wM G h F V fd)) (fun (k : Nat) => [(0, .ref (h 0)), (1, .int (iI kd)), (2, .int (iI (cntTo (F 14) kd k))), (3, .int (iI (k : Int)))]) (fun (k : Nat) => []) ?_ (0) (by (try dsimp only); omega)
  rintro k hkk ih1
  try dsimp only at ih1 ⊢
  try dsimp only at hkk
  have hcb := cntTo_bound (F 14) kd k
  refine jr_iload_n (pc := 4) hh 3 dX4_many_4 rfl rfl ?_
  refine jr_bipush (pc := 5) hh dX4_many_5 (by decide) ?_
  refine jr_icmp_ge (tgt := 34) (pc := 7) hh dX4_many_7 (by decide) ⟨by omega, by omega⟩ ⟨by omega, by omega⟩ (fun c2 => ?_) (fun c2 => ?_)
  · skip
    refine jr_iload_n (pc := 34) hh 2 dX4_many_34 rfl rfl ?_
    exact jr_iret (pc := 35) hh hret rfl ⟨jsi (by rw [show k = 120 by omega]), rfl⟩ (by decide) (by decide) dX4_many_35
  · skip
    have h14 := (hk.2.2.2.2.2.2.2.2.2 k (by omega)).2.2.2.2
    refine jr_iload_n (pc := 10) hh 2 dX4_many_10 rfl rfl ?_
    refine jr_aload_n (pc := 11) hh 0 dX4_many_11 rfl rfl ?_
    refine jr_get (v := .ref (h 15)) (pc := 12) hh in_X4_many_X4 0 rfl rfl 14 (by decide) (by decide +kernel : Cond.fieldLink RX4 53 (TX4 14).1 (TX4 14).2.1 (TX4 14).2.2.1 ∈ wsX4_many) rfl dX4_many_12 ?_
    refine jr_iload_n (pc := 15) hh 3 dX4_many_15 rfl rfl ?_
    refine jr_cald (F := (F 14)) (pc := 16) hh 15 rfl k (by omega) (by omega) (by decide) dX4_many_16 ?_
    refine jr_iload_n (pc := 17) hh 1 dX4_many_17 rfl rfl ?_
    refine jr_icmp_ne (tgt := 25) (pc := 18) hh dX4_many_18 (by decide) ⟨by omega, by omega⟩ ⟨by omega, by omega⟩ (fun c3 => ?_) (fun c3 => ?_)
    · skip
      refine jr_iconst (pc := 25) hh dX4_many_25 ?_
      refine jr_iadd (pc := 26) hh dX4_many_26 ?_
      refine jr_istore_n (lv' := [(2, .int (iI ((cntTo (F 14) kd k) + 0))), (0, .ref (h 0)), (1, .int (iI kd)), (3, .int (iI (k : Int)))]) (pc := 27) hh dX4_many_27 rfl (by decide) rfl ?_
      refine jr_iinc (a := (k : Int)) (b := (((k + 1) : Nat) : Int)) (lv' := [(3, .int (iI (((k + 1) : Nat) : Int))), (2, .int (iI ((cntTo (F 14) kd k) + 0))), (0, .ref (h 0)), (1, .int (iI kd))]) (pc := 28) hh 3 dX4_many_28 rfl (by omega) (by decide) rfl ?_
      refine jr_goto (tgt := 4) (pc := 31) hh dX4_many_31 (by decide) ?_
      refine jr_loc (lv' := [(0, .ref (h 0)), (1, .int (iI kd)), (2, .int (iI ((cntTo (F 14) kd k) + 0))), (3, .int (iI (((k + 1) : Nat) : Int)))]) [2, 3, 1, 0] rfl ?_
      refine jr_lvset (a := ((cntTo (F 14) kd k) + 0)) (b := (cntTo (F 14) kd (k + 1))) (lv' := [(0, .ref (h 0)), (1, .int (iI kd)), (2, .int (iI (cntTo (F 14) kd (k + 1)))), (3, .int (iI (((k + 1) : Nat) : Int)))]) 2 rfl (by first | rfl | (rw [cntTo_s, if_pos (by assumption)]) | (rw [cntTo_s, if_neg (by assumption)])) rfl ?_
      exact ih1 ((k + 1)) (by (try dsimp only); omega) (by (try dsimp only); omega)
    · skip
      refine jr_iconst (pc := 21) hh dX4_many_21 ?_
      refine jr_goto (tgt := 26) (pc := 22) hh dX4_many_22 (by decide) ?_
      refine jr_iadd (pc := 26) hh dX4_many_26 ?_
      refine jr_istore_n (lv' := [(2, .int (iI ((cntTo (F 14) kd k) + 1))), (0, .ref (h 0)), (1, .int (iI kd)), (3, .int (iI (k : Int)))]) (pc := 27) hh dX4_many_27 rfl (by decide) rfl ?_
      refine jr_iinc (a := (k : Int)) (b := (((k + 1) : Nat) : Int)) (lv' := [(3, .int (iI (((k + 1) : Nat) : Int))), (2, .int (iI ((cntTo (F 14) kd k) + 1))), (0, .ref (h 0)), (1, .int (iI kd))]) (pc := 28) hh 3 dX4_many_28 rfl (by omega) (by decide) rfl ?_
      refine jr_goto (tgt := 4) (pc := 31) hh dX4_many_31 (by decide) ?_
      refine jr_loc (lv' := [(0, .ref (h 0)), (1, .int (iI kd)), (2, .int (iI ((cntTo (F 14) kd k) + 1))), (3, .int (iI (((k + 1) : Nat) : Int)))]) [2, 3, 1, 0] rfl ?_
      refine jr_lvset (a := ((cntTo (F 14) kd k) + 1)) (b := (cntTo (F 14) kd (k + 1))) (lv' := [(0, .ref (h 0)), (1, .int (iI kd)), (2, .int (iI (cntTo (F 14) kd (k + 1)))), (3, .int (iI (((k + 1) : Nat) : Int)))]) 2 rfl (by first | rfl | (rw [cntTo_s, if_pos (by assumption)]) | (rw [cntTo_s, if_neg (by assumption)])) rfl ?_
      exact ih1 ((k + 1)) (by (try dsimp only); omega) (by (try dsimp only); omega)
set_option maxRecDepth 20000 in
theorem in_X4_open_X4 : ∀ w ∈ u_ws RX4 TX4 22, w ∈ wsX4_open := by decide +kernel
set_option maxHeartbeats 4000000 in
set_option maxRecDepth 100000 in
theorem c_X4_open (l : Launch) (G : jG) (h : Nat → Nat) (F : Nat → Nat → Int) (V : Nat → Int) (fd : Nat → Int) (hk : okM F V) : jMet l yX4_open wsX4_open { frames := 2, cells := 0, slots := 0, locals := 60 } G (wM G h F V fd) [.ref (h 0)] (fun rv w1 => rv = some (.int (iI (cntTo (F 14) 111 120))) ∧ w1 = wM G h F (jU V 0 0) fd) := by
  refine jMet_of (cc := cX4_open) (maxL := 1) (ret := (some .int)) (by decide +kernel) rfl (Nat.le_of_ble_eq_true rfl) ?_
  intro p e s m args below meth c A hh hret hinit
  refine jr_loc (lv' := [(0, .ref (h 0))]) [0] rfl ?_
  refine jr_aload_n (pc := 0) hh 0 dX4_open_0 rfl rfl ?_
  refine jr_iconst (pc := 1) hh dX4_open_1 ?_
  refine jr_put (ws' := (wM G h F (jU V 0 0) fd)) (pc := 2) hh in_X4_open_X4 tyX4_ok nmX4 0 rfl rfl 16 (by decide) (by decide +kernel : Cond.fieldLink RX4 61 (TX4 16).1 (TX4 16).2.1 (TX4 16).2.2.1 ∈ wsX4_open) rfl rfl (Nat.le_of_ble_eq_true rfl) rfl dX4_open_2 ?_
  refine jr_aload_n (pc := 5) hh 0 dX4_open_5 rfl rfl ?_
  refine jr_bipush (pc := 6) hh dX4_open_6 (by decide) ?_
  refine jr_callV (pc := 8) hh [.int (iI 111)] [] (c_X4_many l G h F (jU V 0 0) fd 111 (by decide) hk) gX4_open_X4_many rfl (by decide) (by decide) [0, 1, 2, 3, 4, 5, 6, 7, 8, 9, 10, 11, 12, 13, 14, 15, 16] [] rfl rfl rfl rfl (by decide) 0 rfl rfl 1 rfl rfl (Nat.le_of_ble_eq_true rfl) (by decide +kernel) dX4_open_8 (fun rvu2 wu2 hu2 => ?_)
  obtain ⟨rfl, rfl⟩ := hu2
  refine jr_perm (ws' := (wM G h F (jU V 0 0) fd)) (st := [.int (iI (cntTo (F 14) 111 120))]) [0, 1, 2, 3, 4, 5, 6, 7, 8, 9, 10, 11, 12, 13, 14, 15, 16] rfl rfl ?_
  have hcb1 := cntTo_bound (F 14) 111 120
  exact jr_iret (pc := 11) hh hret rfl ⟨rfl, rfl⟩ (by decide) (by decide) dX4_open_11
set_option maxHeartbeats 4000000 in
set_option maxRecDepth 100000 in
theorem c_X4_approvedShare (l : Launch) (G : jG) (h : Nat → Nat) (F : Nat → Nat → Int) (V : Nat → Int) (fd : Nat → Int) (hk : okM F V) : jMet l yX4_approvedShare wsX4_approvedShare { frames := 3, cells := 0, slots := 0, locals := 120 } G (wM G h F V fd) [.ref (h 0)] (fun rv w1 => ∃ x : UInt32, rv = some (.float x) ∧ w1 = wM G h F (jU V 0 (cdShare (cntTo (F 14) 97 120 + cntTo (F 14) 111 120))) fd ∧ (cdShare (cntTo (F 14) 97 120 + cntTo (F 14) 111 120) = 0 → x = FP.fdiv (FP.i2f (iI (cntTo (F 14) 97 120))) (FP.i2f (iI (cntTo (F 14) 97 120 + cntTo (F 14) 111 120))))) := by
  refine jMet_of (cc := cX4_approvedShare) (maxL := 2) (ret := (some .float)) (by decide +kernel) rfl (Nat.le_of_ble_eq_true rfl) ?_
  intro p e s m args below meth c A hh hret hinit
  refine jr_loc (lv' := [(0, .ref (h 0))]) [0] rfl ?_
  refine jr_aload_n (pc := 0) hh 0 dX4_approvedShare_0 rfl rfl ?_
  refine jr_bipush (pc := 1) hh dX4_approvedShare_1 (by decide) ?_
  refine jr_callV (pc := 3) hh [.int (iI 97)] [] (c_X4_many l G h F V fd 97 (by decide) hk) gX4_approvedShare_X4_many rfl (by decide) (by decide) [0, 1, 2, 3, 4, 5, 6, 7, 8, 9, 10, 11, 12, 13, 14, 15, 16] [] rfl rfl rfl rfl (by decide) 0 rfl rfl 1 rfl rfl (Nat.le_of_ble_eq_true rfl) (by decide +kernel) dX4_approvedShare_3 (fun rvu2 wu2 hu2 => ?_)
  obtain ⟨rfl, rfl⟩ := hu2
  refine jr_perm (ws' := (wM G h F V fd)) (st := [.int (iI (cntTo (F 14) 97 120))]) [0, 1, 2, 3, 4, 5, 6, 7, 8, 9, 10, 11, 12, 13, 14, 15, 16] rfl rfl ?_
  have hcb1 := cntTo_bound (F 14) 97 120
  refine jr_aload_n (pc := 6) hh 0 dX4_approvedShare_6 rfl rfl ?_
  refine jr_bipush (pc := 7) hh dX4_approvedShare_7 (by decide) ?_
  refine jr_callV (pc := 9) hh [.int (iI 111)] [.int (iI (cntTo (F 14) 97 120))] (c_X4_many l G h F V fd 111 (by decide) hk) gX4_approvedShare_X4_many rfl (by decide) (by decide) [0, 1, 2, 3, 4, 5, 6, 7, 8, 9, 10, 11, 12, 13, 14, 15, 16] [] rfl rfl rfl rfl (by decide) 0 rfl rfl 1 rfl rfl (Nat.le_of_ble_eq_true rfl) (by decide +kernel) dX4_approvedShare_9 (fun rvu4 wu4 hu4 => ?_)
  obtain ⟨rfl, rfl⟩ := hu4
  refine jr_perm (ws' := (wM G h F V fd)) (st := [.int (iI (cntTo (F 14) 111 120)), .int (iI (cntTo (F 14) 97 120))]) [0, 1, 2, 3, 4, 5, 6, 7, 8, 9, 10, 11, 12, 13, 14, 15, 16] rfl rfl ?_
  have hcb3 := cntTo_bound (F 14) 111 120
  refine jr_iadd (pc := 12) hh dX4_approvedShare_12 ?_
  refine jr_istore_n (lv' := [(1, .int (iI ((cntTo (F 14) 97 120) + (cntTo (F 14) 111 120)))), (0, .ref (h 0))]) (pc := 13) hh dX4_approvedShare_13 rfl (by decide) rfl ?_
  refine jr_cut (σ := Int) 24 (fun (z : Int) => z = 1 - cdShare (cntTo (F 14) 97 120 + cntTo (F 14) 111 120)) (fun (z : Int) => (wM G h F V fd)) (fun (z : Int) => [(1, .int (iI ((cntTo (F 14) 97 120) + (cntTo (F 14) 111 120)))), (0, .ref (h 0))]) (fun (z : Int) => [.int (iI z), .ref (h 0)]) ?_ (fun cut24 => ?_)
  · rintro z hcut24
    try dsimp only
    try dsimp only at hcut24
    have hcd2 := hcut24
    unfold cdShare at hcd2
    refine jr_callV (pc := 24) hh [.int (iI z)] [] (c_X4_checked l G h F V fd z (by omega)) gX4_approvedShare_X4_checked rfl (by decide) (by decide) [0, 1, 2, 3, 4, 5, 6, 7, 8, 9, 10, 11, 12, 13, 14, 15, 16] [] rfl rfl rfl rfl (by decide) 0 rfl rfl 1 rfl rfl (Nat.le_of_ble_eq_true rfl) (by decide +kernel) dX4_approvedShare_24 (fun rvu5 wu5 hu5 => ?_)
    obtain ⟨rfl, rfl⟩ := hu5
    refine jr_perm (ws' := (wM G h F (jU V 0 (1 - z)) fd)) (st := [.int (iI (1 - z))]) [0, 1, 2, 3, 4, 5, 6, 7, 8, 9, 10, 11, 12, 13, 14, 15, 16] rfl rfl ?_
    refine jr_if_le (tgt := 34) (pc := 27) hh dX4_approvedShare_27 (by decide) ⟨by omega, by omega⟩ (fun c6 => ?_) (fun c6 => ?_)
    · skip
      refine jr_aload_n (pc := 34) hh 1 dX4_approvedShare_34 rfl rfl ?_
      refine jr_bipush (pc := 35) hh dX4_approvedShare_35 (by decide) ?_
      refine jr_callV (pc := 37) hh [.int (iI 97)] [] (c_X4_many l G h F (jU V 0 (1 - z)) fd 97 (by decide) hk) gX4_approvedShare_X4_many rfl (by decide) (by decide) [0, 1, 2, 3, 4, 5, 6, 7, 8, 9, 10, 11, 12, 13, 14, 15, 16] [] rfl rfl rfl rfl (by decide) 0 rfl rfl 1 rfl rfl (Nat.le_of_ble_eq_true rfl) (by decide +kernel) dX4_approvedShare_37 (fun rvu8 wu8 hu8 => ?_)
      obtain ⟨rfl, rfl⟩ := hu8
      refine jr_perm (ws' := (wM G h F (jU V 0 (1 - z)) fd)) (st := [.int (iI (cntTo (F 14) 97 120))]) [0, 1, 2, 3, 4, 5, 6, 7, 8, 9, 10, 11, 12, 13, 14, 15, 16] rfl rfl ?_
      have hcb7 := cntTo_bound (F 14) 97 120
      refine jr_i2f (pc := 40) hh dX4_approvedShare_40 ?_
      refine jr_iload_n (pc := 41) hh 0 dX4_approvedShare_41 rfl rfl ?_
      refine jr_i2f (pc := 42) hh dX4_approvedShare_42 ?_
      refine jr_fdiv (pc := 43) hh dX4_approvedShare_43 (jn32 (fdiv_ok ⟨by omega, by omega⟩ (by omega))) ?_
      exact jr_fret (pc := 44) hh hret ⟨_, rfl, by rw [show 1 - z = cdShare (cntTo (F 14) 97 120 + cntTo (F 14) 111 120) by omega], fun _ => rfl⟩ (by decide) (by decide) dX4_approvedShare_44
    · skip
      refine jr_fconst0 (pc := 30) hh dX4_approvedShare_30 ?_
      refine jr_goto (tgt := 44) (pc := 31) hh dX4_approvedShare_31 (by decide) ?_
      exact jr_fret (pc := 44) hh hret ⟨_, rfl, by rw [show 1 - z = cdShare (cntTo (F 14) 97 120 + cntTo (F 14) 111 120) by omega], fun q => absurd q (by omega)⟩ (by decide) (by decide) dX4_approvedShare_44
  · try dsimp only at cut24
    refine jr_aload_n (pc := 14) hh 1 dX4_approvedShare_14 rfl rfl ?_
    refine jr_iload_n (pc := 15) hh 0 dX4_approvedShare_15 rfl rfl ?_
    refine jr_if_le (tgt := 23) (pc := 16) hh dX4_approvedShare_16 (by decide) ⟨by omega, by omega⟩ (fun c9 => ?_) (fun c9 => ?_)
    · skip
      refine jr_iconst (pc := 23) hh dX4_approvedShare_23 ?_
      refine jr_loc (lv' := [(1, .int (iI ((cntTo (F 14) 97 120) + (cntTo (F 14) 111 120)))), (0, .ref (h 0))]) [0, 1] rfl ?_
      exact cut24 (0) (by unfold cdShare; omega)
    · skip
      refine jr_iconst (pc := 19) hh dX4_approvedShare_19 ?_
      refine jr_goto (tgt := 24) (pc := 20) hh dX4_approvedShare_20 (by decide) ?_
      refine jr_loc (lv' := [(1, .int (iI ((cntTo (F 14) 97 120) + (cntTo (F 14) 111 120)))), (0, .ref (h 0))]) [0, 1] rfl ?_
      exact cut24 (1) (by unfold cdShare; omega)
set_option maxRecDepth 20000 in
theorem in_X4_meanTolerance_X4 : ∀ w ∈ u_ws RX4 TX4 22, w ∈ wsX4_meanTolerance := by decide +kernel
set_option maxHeartbeats 4000000 in
set_option maxRecDepth 100000 in
theorem c_X4_meanTolerance (l : Launch) (G : jG) (h : Nat → Nat) (F : Nat → Nat → Int) (V : Nat → Int) (fd : Nat → Int) (hk : okM F V) : jMet l yX4_meanTolerance wsX4_meanTolerance { frames := 3, cells := 0, slots := 0, locals := 120 } G (wM G h F V fd) [.ref (h 0)] (fun rv w1 => ∃ x : UInt64, rv = some (.double x) ∧ w1 = wM G h F (jU V 0 (cdShare (cntTo (F 14) 97 120 + cntTo (F 14) 111 120))) fd ∧ (cdShare (cntTo (F 14) 97 120 + cntTo (F 14) 111 120) = 0 → x = FP.ddiv (FP.i2d (iI (sumTo (tolM F) 120))) (FP.i2d (iI (cntTo (F 14) 97 120 + cntTo (F 14) 111 120))))) := by
  refine jMet_of (cc := cX4_meanTolerance) (maxL := 3) (ret := (some .double)) (by decide +kernel) rfl (Nat.le_of_ble_eq_true rfl) ?_
  intro p e s m args below meth c A hh hret hinit
  refine jr_loc (lv' := [(0, .ref (h 0))]) [0] rfl ?_
  refine jr_iconst (pc := 0) hh dX4_meanTolerance_0 ?_
  refine jr_istore_n (lv' := [(1, .int (iI 0)), (0, .ref (h 0))]) (pc := 1) hh dX4_meanTolerance_1 rfl (by decide) rfl ?_
  refine jr_iconst (pc := 2) hh dX4_meanTolerance_2 ?_
  refine jr_istore_n (lv' := [(2, .int (iI 0)), (1, .int (iI 0)), (0, .ref (h 0))]) (pc := 3) hh dX4_meanTolerance_3 rfl (by decide) rfl ?_
  refine jr_loc (lv' := [(0, .ref (h 0)), (1, .int (iI 0)), (2, .int (iI 0))]) [2, 1, 0] rfl ?_
  refine jr_lvset (a := 0) (b := (sumTo (tolM F) 0)) (lv' := [(0, .ref (h 0)), (1, .int (iI (sumTo (tolM F) 0))), (2, .int (iI 0))]) 1 rfl (by first | rfl | (rw [sumTo_s]; unfold tolM; first | rw [if_pos (by assumption)] | rw [if_neg (by assumption)])) rfl ?_
  refine jr_lvset (a := 0) (b := (0 : Int)) (lv' := [(0, .ref (h 0)), (1, .int (iI (sumTo (tolM F) 0))), (2, .int (iI (0 : Int)))]) 2 rfl (by first | rfl | omega) rfl ?_
  refine jr_loop (σ := Nat) (fun (k : Nat) => (k ≤ 120)) (fun (k : Nat) => 120 - k) (fun (k : Nat) => (wM G h F V fd)) (fun (k : Nat) => [(0, .ref (h 0)), (1, .int (iI (sumTo (tolM F) k))), (2, .int (iI (k : Int)))]) (fun (k : Nat) => []) ?_ (0) (by (try dsimp only); omega)
  rintro k hkk ih1
  try dsimp only at ih1 ⊢
  try dsimp only at hkk
  refine jr_iload_n (pc := 4) hh 2 dX4_meanTolerance_4 rfl rfl ?_
  refine jr_bipush (pc := 5) hh dX4_meanTolerance_5 (by decide) ?_
  refine jr_icmp_ge (tgt := 40) (pc := 7) hh dX4_meanTolerance_7 (by decide) ⟨by omega, by omega⟩ ⟨by omega, by omega⟩ (fun c2 => ?_) (fun c2 => ?_)
  · skip
    have hk120 : k = 120 := by omega
    refine jr_lvset (a := (sumTo (tolM F) k)) (b := (sumTo (tolM F) 120)) (lv' := [(0, .ref (h 0)), (1, .int (iI (sumTo (tolM F) 120))), (2, .int (iI (k : Int)))]) 1 rfl (by rw [hk120]) rfl ?_
    refine jr_aload_n (pc := 40) hh 0 dX4_meanTolerance_40 rfl rfl ?_
    refine jr_bipush (pc := 41) hh dX4_meanTolerance_41 (by decide) ?_
    refine jr_callV (pc := 43) hh [.int (iI 97)] [] (c_X4_many l G h F V fd 97 (by decide) hk) gX4_meanTolerance_X4_many rfl (by decide) (by decide) [0, 1, 2, 3, 4, 5, 6, 7, 8, 9, 10, 11, 12, 13, 14, 15, 16] [] rfl rfl rfl rfl (by decide) 0 rfl rfl 1 rfl rfl (Nat.le_of_ble_eq_true rfl) (by decide +kernel) dX4_meanTolerance_43 (fun rvu4 wu4 hu4 => ?_)
    obtain ⟨rfl, rfl⟩ := hu4
    refine jr_perm (ws' := (wM G h F V fd)) (st := [.int (iI (cntTo (F 14) 97 120))]) [0, 1, 2, 3, 4, 5, 6, 7, 8, 9, 10, 11, 12, 13, 14, 15, 16] rfl rfl ?_
    have hcb3 := cntTo_bound (F 14) 97 120
    refine jr_aload_n (pc := 46) hh 0 dX4_meanTolerance_46 rfl rfl ?_
    refine jr_bipush (pc := 47) hh dX4_meanTolerance_47 (by decide) ?_
    refine jr_callV (pc := 49) hh [.int (iI 111)] [.int (iI (cntTo (F 14) 97 120))] (c_X4_many l G h F V fd 111 (by decide) hk) gX4_meanTolerance_X4_many rfl (by decide) (by decide) [0, 1, 2, 3, 4, 5, 6, 7, 8, 9, 10, 11, 12, 13, 14, 15, 16] [] rfl rfl rfl rfl (by decide) 0 rfl rfl 1 rfl rfl (Nat.le_of_ble_eq_true rfl) (by decide +kernel) dX4_meanTolerance_49 (fun rvu6 wu6 hu6 => ?_)
    obtain ⟨rfl, rfl⟩ := hu6
    refine jr_perm (ws' := (wM G h F V fd)) (st := [.int (iI (cntTo (F 14) 111 120)), .int (iI (cntTo (F 14) 97 120))]) [0, 1, 2, 3, 4, 5, 6, 7, 8, 9, 10, 11, 12, 13, 14, 15, 16] rfl rfl ?_
    have hcb5 := cntTo_bound (F 14) 111 120
    refine jr_iadd (pc := 52) hh dX4_meanTolerance_52 ?_
    refine jr_istore_n (lv' := [(2, .int (iI ((cntTo (F 14) 97 120) + (cntTo (F 14) 111 120)))), (0, .ref (h 0)), (1, .int (iI (sumTo (tolM F) 120)))]) (pc := 53) hh dX4_meanTolerance_53 rfl (by decide) rfl ?_
    refine jr_cut (σ := Int) 64 (fun (z : Int) => z = 1 - cdShare (cntTo (F 14) 97 120 + cntTo (F 14) 111 120)) (fun (z : Int) => (wM G h F V fd)) (fun (z : Int) => [(2, .int (iI ((cntTo (F 14) 97 120) + (cntTo (F 14) 111 120)))), (0, .ref (h 0)), (1, .int (iI (sumTo (tolM F) 120)))]) (fun (z : Int) => [.int (iI z), .ref (h 0)]) ?_ (fun cut64 => ?_)
    · rintro z hcut64
      try dsimp only
      try dsimp only at hcut64
      have hcd2 := hcut64
      unfold cdShare at hcd2
      refine jr_callV (pc := 64) hh [.int (iI z)] [] (c_X4_checked l G h F V fd z (by omega)) gX4_meanTolerance_X4_checked rfl (by decide) (by decide) [0, 1, 2, 3, 4, 5, 6, 7, 8, 9, 10, 11, 12, 13, 14, 15, 16] [] rfl rfl rfl rfl (by decide) 0 rfl rfl 1 rfl rfl (Nat.le_of_ble_eq_true rfl) (by decide +kernel) dX4_meanTolerance_64 (fun rvu7 wu7 hu7 => ?_)
      obtain ⟨rfl, rfl⟩ := hu7
      refine jr_perm (ws' := (wM G h F (jU V 0 (1 - z)) fd)) (st := [.int (iI (1 - z))]) [0, 1, 2, 3, 4, 5, 6, 7, 8, 9, 10, 11, 12, 13, 14, 15, 16] rfl rfl ?_
      refine jr_if_le (tgt := 74) (pc := 67) hh dX4_meanTolerance_67 (by decide) ⟨by omega, by omega⟩ (fun c8 => ?_) (fun c8 => ?_)
      · skip
        refine jr_iload_n (pc := 74) hh 2 dX4_meanTolerance_74 rfl rfl ?_
        refine jr_i2d (pc := 75) hh dX4_meanTolerance_75 ?_
        refine jr_iload_n (pc := 76) hh 0 dX4_meanTolerance_76 rfl rfl ?_
        refine jr_i2d (pc := 77) hh dX4_meanTolerance_77 ?_
        refine jr_ddiv (pc := 78) hh dX4_meanTolerance_78 (jn64 (ddiv_ok ⟨by omega, by omega⟩ (by omega))) ?_
        exact jr_dret (pc := 79) hh hret ⟨_, rfl, by rw [show 1 - z = cdShare (cntTo (F 14) 97 120 + cntTo (F 14) 111 120) by omega], fun _ => rfl⟩ (by decide) (by decide) dX4_meanTolerance_79
      · skip
        refine jr_dconst0 (pc := 70) hh dX4_meanTolerance_70 ?_
        refine jr_goto (tgt := 79) (pc := 71) hh dX4_meanTolerance_71 (by decide) ?_
        exact jr_dret (pc := 79) hh hret ⟨_, rfl, by rw [show 1 - z = cdShare (cntTo (F 14) 97 120 + cntTo (F 14) 111 120) by omega], fun q => absurd q (by omega)⟩ (by decide) (by decide) dX4_meanTolerance_79
    · try dsimp only at cut64
      refine jr_aload_n (pc := 54) hh 1 dX4_meanTolerance_54 rfl rfl ?_
      refine jr_iload_n (pc := 55) hh 0 dX4_meanTolerance_55 rfl rfl ?_
      refine jr_if_le (tgt := 63) (pc := 56) hh dX4_meanTolerance_56 (by decide) ⟨by omega, by omega⟩ (fun c9 => ?_) (fun c9 => ?_)
      · skip
        refine jr_iconst (pc := 63) hh dX4_meanTolerance_63 ?_
        refine jr_loc (lv' := [(2, .int (iI ((cntTo (F 14) 97 120) + (cntTo (F 14) 111 120)))), (0, .ref (h 0)), (1, .int (iI (sumTo (tolM F) 120)))]) [0, 1, 2] rfl ?_
        exact cut64 (0) (by unfold cdShare; omega)
      · skip
        refine jr_iconst (pc := 59) hh dX4_meanTolerance_59 ?_
        refine jr_goto (tgt := 64) (pc := 60) hh dX4_meanTolerance_60 (by decide) ?_
        refine jr_loc (lv' := [(2, .int (iI ((cntTo (F 14) 97 120) + (cntTo (F 14) 111 120)))), (0, .ref (h 0)), (1, .int (iI (sumTo (tolM F) 120)))]) [0, 1, 2] rfl ?_
        exact cut64 (1) (by unfold cdShare; omega)
  · skip
    have h14 := (hk.2.2.2.2.2.2.2.2.2 k (by omega)).2.2.2.2
    refine jr_iload_n (pc := 10) hh 1 dX4_meanTolerance_10 rfl rfl ?_
    refine jr_aload_n (pc := 11) hh 0 dX4_meanTolerance_11 rfl rfl ?_
    refine jr_get (v := .ref (h 15)) (pc := 12) hh in_X4_meanTolerance_X4 0 rfl rfl 14 (by decide) (by decide +kernel : Cond.fieldLink RX4 53 (TX4 14).1 (TX4 14).2.1 (TX4 14).2.2.1 ∈ wsX4_meanTolerance) rfl dX4_meanTolerance_12 ?_
    refine jr_iload_n (pc := 15) hh 2 dX4_meanTolerance_15 rfl rfl ?_
    refine jr_cald (F := (F 14)) (pc := 16) hh 15 rfl k (by omega) (by omega) (by decide) dX4_meanTolerance_16 ?_
    refine jr_bipush (pc := 17) hh dX4_meanTolerance_17 (by decide) ?_
    refine jr_icmp_ne (tgt := 26) (pc := 19) hh dX4_meanTolerance_19 (by decide) ⟨by omega, by omega⟩ ⟨by omega, by omega⟩ (fun c10 => ?_) (fun c10 => ?_)
    · skip
      refine jr_aload_n (pc := 26) hh 0 dX4_meanTolerance_26 rfl rfl ?_
      refine jr_get (v := .ref (h 12)) (pc := 27) hh in_X4_meanTolerance_X4 0 rfl rfl 11 (by decide) (by decide +kernel : Cond.fieldLink RX4 43 (TX4 11).1 (TX4 11).2.1 (TX4 11).2.2.1 ∈ wsX4_meanTolerance) rfl dX4_meanTolerance_27 ?_
      refine jr_iload_n (pc := 30) hh 2 dX4_meanTolerance_30 rfl rfl ?_
      refine jr_iald (F := (F 11)) (pc := 31) hh 12 rfl k (by omega) (by omega) (by decide) dX4_meanTolerance_31 ?_
      refine jr_iadd (pc := 32) hh dX4_meanTolerance_32 ?_
      refine jr_istore_n (lv' := [(1, .int (iI ((sumTo (tolM F) k) + ((F 11) k)))), (0, .ref (h 0)), (2, .int (iI (k : Int)))]) (pc := 33) hh dX4_meanTolerance_33 rfl (by decide) rfl ?_
      refine jr_iinc (a := (k : Int)) (b := (((k + 1) : Nat) : Int)) (lv' := [(2, .int (iI (((k + 1) : Nat) : Int))), (1, .int (iI ((sumTo (tolM F) k) + ((F 11) k)))), (0, .ref (h 0))]) (pc := 34) hh 2 dX4_meanTolerance_34 rfl (by omega) (by decide) rfl ?_
      refine jr_goto (tgt := 4) (pc := 37) hh dX4_meanTolerance_37 (by decide) ?_
      refine jr_loc (lv' := [(0, .ref (h 0)), (1, .int (iI ((sumTo (tolM F) k) + ((F 11) k)))), (2, .int (iI (((k + 1) : Nat) : Int)))]) [2, 1, 0] rfl ?_
      refine jr_lvset (a := ((sumTo (tolM F) k) + ((F 11) k))) (b := (sumTo (tolM F) (k + 1))) (lv' := [(0, .ref (h 0)), (1, .int (iI (sumTo (tolM F) (k + 1)))), (2, .int (iI (((k + 1) : Nat) : Int)))]) 1 rfl (by first | rfl | (rw [sumTo_s]; unfold tolM; first | rw [if_pos (by assumption)] | rw [if_neg (by assumption)])) rfl ?_
      exact ih1 ((k + 1)) (by (try dsimp only); omega) (by (try dsimp only); omega)
    · skip
      refine jr_iconst (pc := 22) hh dX4_meanTolerance_22 ?_
      refine jr_goto (tgt := 32) (pc := 23) hh dX4_meanTolerance_23 (by decide) ?_
      refine jr_iadd (pc := 32) hh dX4_meanTolerance_32 ?_
      refine jr_istore_n (lv' := [(1, .int (iI ((sumTo (tolM F) k) + 0))), (0, .ref (h 0)), (2, .int (iI (k : Int)))]) (pc := 33) hh dX4_meanTolerance_33 rfl (by decide) rfl ?_
      refine jr_iinc (a := (k : Int)) (b := (((k + 1) : Nat) : Int)) (lv' := [(2, .int (iI (((k + 1) : Nat) : Int))), (1, .int (iI ((sumTo (tolM F) k) + 0))), (0, .ref (h 0))]) (pc := 34) hh 2 dX4_meanTolerance_34 rfl (by omega) (by decide) rfl ?_
      refine jr_goto (tgt := 4) (pc := 37) hh dX4_meanTolerance_37 (by decide) ?_
      refine jr_loc (lv' := [(0, .ref (h 0)), (1, .int (iI ((sumTo (tolM F) k) + 0))), (2, .int (iI (((k + 1) : Nat) : Int)))]) [2, 1, 0] rfl ?_
      refine jr_lvset (a := ((sumTo (tolM F) k) + 0)) (b := (sumTo (tolM F) (k + 1))) (lv' := [(0, .ref (h 0)), (1, .int (iI (sumTo (tolM F) (k + 1)))), (2, .int (iI (((k + 1) : Nat) : Int)))]) 1 rfl (by first | rfl | (rw [sumTo_s]; unfold tolM; first | rw [if_pos (by assumption)] | rw [if_neg (by assumption)])) rfl ?_
      exact ih1 ((k + 1)) (by (try dsimp only); omega) (by (try dsimp only); omega)
