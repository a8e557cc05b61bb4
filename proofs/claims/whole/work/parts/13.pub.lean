/-! CostStudio.year, CostStudio.seek -/
def yrX (F : Nat → Nat → Int) (s i : Nat) (u : Nat) : Int := enc (nmC F s u 6 i)
theorem cntTo_pos {f : Nat → Int} {w : Int} {n : Nat} (k : Nat) (hk : k < n) (h : f k = w) : 0 < cntTo f w n := by
  induction n with
  | zero => omega
  | succ n ih =>
    rw [cntTo_s]
    have h1 := cntTo_bound f w n
    by_cases hq : k = n
    · subst hq; rw [if_pos h]; omega
    · have := ih (by omega)
      split <;> omega
theorem cntTo_zero {f : Nat → Int} {w : Int} {n : Nat} (h : ∀ k, k < n → f k ≠ w) : cntTo f w n = 0 := by
  induction n with
  | zero => rfl
  | succ n ih => rw [cntTo_s, ih (fun k hk => h k (by omega)), if_neg (h n (by omega))]; rfl
set_option maxHeartbeats 4000000 in
set_option maxRecDepth 100000 in
theorem c_X3_year (l : Launch) (G : jG) (h : Nat → Nat) (F : Nat → Nat → Int) (V : Nat → Int) (s0 i : Nat) (hk : okC F V) (hs : (s0 : Int) < V 0) (hi : (i : Int) < V 2) (hx : ∀ u : Nat, u < 12 → yrX F s0 i u ≠ -1000000000) : jMet l yX3_year wsX3_year { frames := 7, cells := 0, slots := 0, locals := 400 } G (wC G h F V) [.ref (h 0), .int (iI (s0 : Int)), .int (iI (i : Int))] (fun rv w1 => rv = some (.long (lI (sumTo (yrX F s0 i) 12))) ∧ ∃ F' : Nat → Nat → Int, scr F F' ∧ w1 = wC G h F' V) := by
  refine jMet_of (cc := cX3_year) (maxL := 6) (ret := (some .long)) (by decide +kernel) rfl (Nat.le_of_ble_eq_true rfl) ?_
  intro p e s m args below meth c A hh hret hinit
  refine jr_loc (lv' := [(0, .ref (h 0)), (1, .int (iI (s0 : Int))), (2, .int (iI (i : Int)))]) [0, 1, 2] rfl ?_
  obtain ⟨hV0, hV1, hV2, hV3, hV4, -⟩ := id hk
  refine jr_aload_n (pc := 0) hh 0 dX3_year_0 rfl rfl ?_
  refine jr_iload_n (pc := 1) hh 1 dX3_year_1 rfl rfl ?_
  refine jr_callV (pc := 2) hh [.int (iI (s0 : Int))] [] (c_X3_requireScenario l G h F V (s0 : Int) (by omega) (by omega)) gX3_year_X3_requireScenario rfl (by decide) (by decide) [0, 1, 2, 3, 4, 5, 6, 7, 8, 9, 10, 11, 12, 13, 14, 15, 16, 17] [] rfl rfl rfl rfl (by decide) 0 rfl rfl 1 rfl rfl (Nat.le_of_ble_eq_true rfl) (by decide +kernel) dX3_year_2 (fun rvu1 wu1 hu1 => ?_)
  obtain ⟨rfl, rfl⟩ := hu1
  refine jr_perm (ws' := (wC G h F V)) (st := []) [0, 1, 2, 3, 4, 5, 6, 7, 8, 9, 10, 11, 12, 13, 14, 15, 16, 17] rfl rfl ?_
  refine jr_aload_n (pc := 5) hh 0 dX3_year_5 rfl rfl ?_
  refine jr_iload_n (pc := 6) hh 2 dX3_year_6 rfl rfl ?_
  refine jr_callV (pc := 7) hh [.int (iI (i : Int))] [] (c_X3_requireLine l G h F V (i : Int) (by omega) (by omega)) gX3_year_X3_requireLine rfl (by decide) (by decide) [0, 1, 2, 3, 4, 5, 6, 7, 8, 9, 10, 11, 12, 13, 14, 15, 16, 17] [] rfl rfl rfl rfl (by decide) 0 rfl rfl 1 rfl rfl (Nat.le_of_ble_eq_true rfl) (by decide +kernel) dX3_year_7 (fun rvu2 wu2 hu2 => ?_)
  obtain ⟨rfl, rfl⟩ := hu2
  refine jr_perm (ws' := (wC G h F V)) (st := []) [0, 1, 2, 3, 4, 5, 6, 7, 8, 9, 10, 11, 12, 13, 14, 15, 16, 17] rfl rfl ?_
  refine jr_lconst (z := 0) (pc := 10) hh dX3_year_10 (by decide) ?_
  refine jr_lstore_n (lv' := [(3, .long (lI 0)), (0, .ref (h 0)), (1, .int (iI (s0 : Int))), (2, .int (iI (i : Int)))]) (pc := 11) hh dX3_year_11 rfl (by decide) rfl ?_
  refine jr_iconst (pc := 12) hh dX3_year_12 ?_
  refine jr_istore (lv' := [(5, .int (iI 0)), (3, .long (lI 0)), (0, .ref (h 0)), (1, .int (iI (s0 : Int))), (2, .int (iI (i : Int)))]) (pc := 13) hh dX3_year_13 (by decide) rfl ?_
  refine jr_loc (lv' := [(0, .ref (h 0)), (1, .int (iI (s0 : Int))), (2, .int (iI (i : Int))), (3, .long (lI 0)), (5, .int (iI 0))]) [2, 3, 4, 1, 0] rfl ?_
  refine jr_lvsetl (a := 0) (b := (sumTo (yrX F s0 i) 0)) (lv' := [(0, .ref (h 0)), (1, .int (iI (s0 : Int))), (2, .int (iI (i : Int))), (3, .long (lI (sumTo (yrX F s0 i) 0))), (5, .int (iI 0))]) 3 rfl (by first | rfl | exact (sumTo_s _ _).symm) rfl ?_
  refine jr_lvset (a := 0) (b := (0 : Int)) (lv' := [(0, .ref (h 0)), (1, .int (iI (s0 : Int))), (2, .int (iI (i : Int))), (3, .long (lI (sumTo (yrX F s0 i) 0))), (5, .int (iI (0 : Int)))]) 4 rfl (by first | rfl | omega) rfl ?_
  refine jr_loop (σ := Nat × (Nat → Nat → Int)) (fun (x : Nat × (Nat → Nat → Int)) => match x with | (t, Fm) => (t ≤ 12) ∧ (scr F Fm)) (fun (x : Nat × (Nat → Nat → Int)) => match x with | (t, Fm) => 12 - t) (fun (x : Nat × (Nat → Nat → Int)) => match x with | (t, Fm) => (wC G h Fm V)) (fun (x : Nat × (Nat → Nat → Int)) => match x with | (t, Fm) => [(0, .ref (h 0)), (1, .int (iI (s0 : Int))), (2, .int (iI (i : Int))), (3, .long (lI (sumTo (yrX F s0 i) t))), (5, .int (iI (t : Int)))]) (fun (x : Nat × (Nat → Nat → Int)) => match x with | (t, Fm) => []) ?_ (0, F) ⟨by (try dsimp only); omega, scr_rf hk⟩
  rintro ⟨t, Fm⟩ ⟨ht, hsc⟩ ih3
  dsimp only at ih3 ⊢
  try dsimp only at ht hsc
  refine jr_iload (pc := 15) hh 4 dX3_year_15 rfl ?_
  refine jr_bipush (pc := 17) hh dX3_year_17 (by decide) ?_
  refine jr_icmp_ge (tgt := 45) (pc := 19) hh dX3_year_19 (by decide) ⟨by omega, by omega⟩ ⟨by omega, by omega⟩ (fun c4 => ?_) (fun c4 => ?_)
  · skip
    refine jr_lload_n (pc := 45) hh 3 dX3_year_45 rfl rfl ?_
    exact jr_lret (pc := 46) hh hret ⟨jsl (by rw [show t = 12 by omega]), Fm, hsc, rfl⟩ (by decide) (by decide) dX3_year_46
  · skip
    refine jr_lload_n (pc := 22) hh 3 dX3_year_22 rfl rfl ?_
    refine jr_aload_n (pc := 23) hh 0 dX3_year_23 rfl rfl ?_
    refine jr_iload_n (pc := 24) hh 1 dX3_year_24 rfl rfl ?_
    refine jr_iload_n (pc := 25) hh 2 dX3_year_25 rfl rfl ?_
    refine jr_iload (pc := 26) hh 4 dX3_year_26 rfl ?_
    refine jr_bipush (pc := 28) hh dX3_year_28 (by decide) ?_
    refine jr_callV (pc := 30) hh [.int (iI (s0 : Int)), .int (iI (i : Int)), .int (iI (t : Int)), .int (iI 6)] [.long (lI (sumTo (yrX F s0 i) t))] (c_X3_numberIn l G h Fm V s0 i t 6 (okC_scr hk hsc) (by omega) (by omega) (by omega) (by omega)) gX3_year_X3_numberIn rfl (by decide) (by decide) [0, 1, 2, 3, 4, 5, 6, 7, 8, 9, 10, 11, 12, 13, 14, 15, 16, 17] [] rfl rfl rfl rfl (by decide) 0 rfl rfl 4 rfl rfl (Nat.le_of_ble_eq_true rfl) (by decide +kernel) dX3_year_30 (fun rvu5 wu5 hu5 => ?_)
    obtain ⟨rfl, Fz, hFz, rfl⟩ := hu5
    refine jr_perm (ws' := (wC G h Fz V)) (st := [.int (iI (enc (nmC Fm s0 t 6 i))), .long (lI (sumTo (yrX F s0 i) t))]) [0, 1, 2, 3, 4, 5, 6, 7, 8, 9, 10, 11, 12, 13, 14, 15, 16, 17] rfl rfl ?_
    have hsz := scr_tr hsc hFz
    have hyr : -1000000000 ≤ yrX F s0 i t ∧ yrX F s0 i t ≤ 99999999 := enc_range (nmC_B hk (s := s0) (i := i) (m := t) (cd := 6) (by omega) (by omega) (by omega))
    refine jr_topi (b := (yrX F s0 i t)) (congrArg enc (nmC_scr hsc _ _ _ _)) ?_
    refine jr_callS (pc := 33) hh [.int (iI (yrX F s0 i t))] [.long (lI (sumTo (yrX F s0 i) t))] (c_X3_required l G (yrX F s0 i t) (hx t (by omega)) ⟨by omega, by omega⟩) gX3_year_X3_required rfl (by decide) (by decide) [] [0, 1, 2, 3, 4, 5, 6, 7, 8, 9, 10, 11, 12, 13, 14, 15, 16, 17] rfl rfl rfl rfl (by decide) 1 rfl rfl (Nat.le_of_ble_eq_true rfl) (by decide +kernel) dX3_year_33 (fun rvu6 wu6 hu6 => ?_)
    obtain ⟨rfl, rfl⟩ := hu6
    refine jr_perm (ws' := (wC G h Fz V)) (st := [.int (iI (yrX F s0 i t)), .long (lI (sumTo (yrX F s0 i) t))]) [0, 1, 2, 3, 4, 5, 6, 7, 8, 9, 10, 11, 12, 13, 14, 15, 16, 17] rfl rfl ?_
    refine jr_i2l (pc := 36) hh dX3_year_36 ⟨by omega, by omega⟩ ?_
    refine jr_ladd (pc := 37) hh dX3_year_37 ?_
    refine jr_lstore_n (lv' := [(3, .long (lI ((sumTo (yrX F s0 i) t) + (yrX F s0 i t)))), (0, .ref (h 0)), (1, .int (iI (s0 : Int))), (2, .int (iI (i : Int))), (5, .int (iI (t : Int)))]) (pc := 38) hh dX3_year_38 rfl (by decide) rfl ?_
    refine jr_iinc (a := (t : Int)) (b := (((t + 1) : Nat) : Int)) (lv' := [(5, .int (iI (((t + 1) : Nat) : Int))), (3, .long (lI ((sumTo (yrX F s0 i) t) + (yrX F s0 i t)))), (0, .ref (h 0)), (1, .int (iI (s0 : Int))), (2, .int (iI (i : Int)))]) (pc := 39) hh 4 dX3_year_39 rfl (by omega) (by decide) rfl ?_
    refine jr_goto (tgt := 15) (pc := 42) hh dX3_year_42 (by decide) ?_
    refine jr_loc (lv' := [(0, .ref (h 0)), (1, .int (iI (s0 : Int))), (2, .int (iI (i : Int))), (3, .long (lI ((sumTo (yrX F s0 i) t) + (yrX F s0 i t)))), (5, .int (iI (((t + 1) : Nat) : Int)))]) [2, 3, 4, 1, 0] rfl ?_
    refine jr_lvsetl (a := ((sumTo (yrX F s0 i) t) + (yrX F s0 i t))) (b := (sumTo (yrX F s0 i) (t + 1))) (lv' := [(0, .ref (h 0)), (1, .int (iI (s0 : Int))), (2, .int (iI (i : Int))), (3, .long (lI (sumTo (yrX F s0 i) (t + 1)))), (5, .int (iI (((t + 1) : Nat) : Int)))]) 3 rfl (by first | rfl | exact (sumTo_s _ _).symm) rfl ?_
    exact ih3 ((t + 1), Fz) ⟨by (try dsimp only); omega, hsz⟩ (by (try dsimp only); omega)
set_option maxHeartbeats 4000000 in
set_option maxRecDepth 100000 in
theorem t_X3_year (l : Launch) (G : jG) (h : Nat → Nat) (F : Nat → Nat → Int) (V : Nat → Int) (s0 i : Int) (hrs0 : jR s0) (hri : jR i) (hk : okC F V) (hcd : cdYear (V 0) (V 2) s0 i (cntTo (yrX F s0.toNat i.toNat) (-1000000000) 12) ≠ 0) (hlt : l.stackTraces = false) : jThr l yX3_year wsX3_year { frames := 8, cells := 1, slots := 6, locals := 520 } G (wC G h F V) [.ref (h 0), .int (iI s0), .int (iI i)] (fun E w1 => ((cdYear (V 0) (V 2) s0 i (cntTo (yrX F s0.toNat i.toNat) (-1000000000) 12) = 1 ∧ E = "java/lang/IndexOutOfBoundsException") ∨ (cdYear (V 0) (V 2) s0 i (cntTo (yrX F s0.toNat i.toNat) (-1000000000) 12) = 2 ∧ E = "java/lang/UnsupportedOperationException")) ∧ ∃ F' : Nat → Nat → Int, scr F F' ∧ w1 = wC G h F' V) := by
  refine jThr_of (cc := cX3_year) (maxL := 6) (ret := (some .long)) (by decide +kernel) rfl (Nat.le_of_ble_eq_true rfl) ?_
  intro p e s m args below meth c A hh htab
  refine jr_loc (lv' := [(0, .ref (h 0)), (1, .int (iI s0)), (2, .int (iI i))]) [0, 1, 2] rfl ?_
  obtain ⟨hV0, hV1, hV2, hV3, hV4, -⟩ := id hk
  have hrs01 := hrs0.1
  have hri1 := hri.1
  have hrs02 := hrs0.2
  have hri2 := hri.2
  refine jr_aload_n (pc := 0) hh 0 dX3_year_0 rfl rfl ?_
  refine jr_iload_n (pc := 1) hh 1 dX3_year_1 rfl rfl ?_
  by_cases q1 : 0 ≤ s0 ∧ s0 < V 0
  · skip
    obtain ⟨s0N, rfl⟩ : ∃ k : Nat, s0 = (k : Int) := ⟨s0.toNat, by omega⟩
    try simp only [Int.toNat_natCast] at hcd ⊢
    refine jr_callV (pc := 2) hh [.int (iI (s0N : Int))] [] (c_X3_requireScenario l G h F V (s0N : Int) (by omega) (by omega)) gX3_year_X3_requireScenario rfl (by decide) (by decide) [0, 1, 2, 3, 4, 5, 6, 7, 8, 9, 10, 11, 12, 13, 14, 15, 16, 17] [] rfl rfl rfl rfl (by decide) 0 rfl rfl 1 rfl rfl (Nat.le_of_ble_eq_true rfl) (by decide +kernel) dX3_year_2 (fun rvu2 wu2 hu2 => ?_)
    obtain ⟨rfl, rfl⟩ := hu2
    refine jr_perm (ws' := (wC G h F V)) (st := []) [0, 1, 2, 3, 4, 5, 6, 7, 8, 9, 10, 11, 12, 13, 14, 15, 16, 17] rfl rfl ?_
    refine jr_aload_n (pc := 5) hh 0 dX3_year_5 rfl rfl ?_
    refine jr_iload_n (pc := 6) hh 2 dX3_year_6 rfl rfl ?_
    by_cases q3 : 0 ≤ i ∧ i < V 2
    · skip
      obtain ⟨iN, rfl⟩ : ∃ k : Nat, i = (k : Int) := ⟨i.toNat, by omega⟩
      try simp only [Int.toNat_natCast] at hcd ⊢
      refine jr_callV (pc := 7) hh [.int (iI (iN : Int))] [] (c_X3_requireLine l G h F V (iN : Int) (by omega) (by omega)) gX3_year_X3_requireLine rfl (by decide) (by decide) [0, 1, 2, 3, 4, 5, 6, 7, 8, 9, 10, 11, 12, 13, 14, 15, 16, 17] [] rfl rfl rfl rfl (by decide) 0 rfl rfl 1 rfl rfl (Nat.le_of_ble_eq_true rfl) (by decide +kernel) dX3_year_7 (fun rvu4 wu4 hu4 => ?_)
      obtain ⟨rfl, rfl⟩ := hu4
      refine jr_perm (ws' := (wC G h F V)) (st := []) [0, 1, 2, 3, 4, 5, 6, 7, 8, 9, 10, 11, 12, 13, 14, 15, 16, 17] rfl rfl ?_
      refine jr_lconst (z := 0) (pc := 10) hh dX3_year_10 (by decide) ?_
      refine jr_lstore_n (lv' := [(3, .long (lI 0)), (0, .ref (h 0)), (1, .int (iI (s0N : Int))), (2, .int (iI (iN : Int)))]) (pc := 11) hh dX3_year_11 rfl (by decide) rfl ?_
      refine jr_iconst (pc := 12) hh dX3_year_12 ?_
      refine jr_istore (lv' := [(5, .int (iI 0)), (3, .long (lI 0)), (0, .ref (h 0)), (1, .int (iI (s0N : Int))), (2, .int (iI (iN : Int)))]) (pc := 13) hh dX3_year_13 (by decide) rfl ?_
      refine jr_loc (lv' := [(0, .ref (h 0)), (1, .int (iI (s0N : Int))), (2, .int (iI (iN : Int))), (3, .long (lI 0)), (5, .int (iI 0))]) [2, 3, 4, 1, 0] rfl ?_
      refine jr_lvsetl (a := 0) (b := (sumTo (yrX F s0N iN) 0)) (lv' := [(0, .ref (h 0)), (1, .int (iI (s0N : Int))), (2, .int (iI (iN : Int))), (3, .long (lI (sumTo (yrX F s0N iN) 0))), (5, .int (iI 0))]) 3 rfl (by first | rfl | exact (sumTo_s _ _).symm) rfl ?_
      refine jr_lvset (a := 0) (b := (0 : Int)) (lv' := [(0, .ref (h 0)), (1, .int (iI (s0N : Int))), (2, .int (iI (iN : Int))), (3, .long (lI (sumTo (yrX F s0N iN) 0))), (5, .int (iI (0 : Int)))]) 4 rfl (by first | rfl | omega) rfl ?_
      refine jr_loop (σ := Nat × (Nat → Nat → Int)) (fun (x : Nat × (Nat → Nat → Int)) => match x with | (t, Fm) => (t ≤ 12) ∧ (scr F Fm) ∧ (∀ u : Nat, u < t → yrX F s0N iN u ≠ -1000000000)) (fun (x : Nat × (Nat → Nat → Int)) => match x with | (t, Fm) => 12 - t) (fun (x : Nat × (Nat → Nat → Int)) => match x with | (t, Fm) => (wC G h Fm V)) (fun (x : Nat × (Nat → Nat → Int)) => match x with | (t, Fm) => [(0, .ref (h 0)), (1, .int (iI (s0N : Int))), (2, .int (iI (iN : Int))), (3, .long (lI (sumTo (yrX F s0N iN) t))), (5, .int (iI (t : Int)))]) (fun (x : Nat × (Nat → Nat → Int)) => match x with | (t, Fm) => []) ?_ (0, F) ⟨by (try dsimp only); omega, scr_rf hk, fun u hu => absurd hu (Nat.not_lt_zero _)⟩
      rintro ⟨t, Fm⟩ ⟨ht, hsc, hall⟩ ih5
      dsimp only at ih5 ⊢
      try dsimp only at ht hsc hall
      refine jr_iload (pc := 15) hh 4 dX3_year_15 rfl ?_
      refine jr_bipush (pc := 17) hh dX3_year_17 (by decide) ?_
      refine jr_icmp_ge (tgt := 45) (pc := 19) hh dX3_year_19 (by decide) ⟨by omega, by omega⟩ ⟨by omega, by omega⟩ (fun c6 => ?_) (fun c6 => ?_)
      · skip
        exfalso
        have hz12 := cntTo_zero (f := yrX F s0N iN) (w := -1000000000) (n := 12) (fun k hk9 => hall k (by omega))
        unfold cdYear at hcd
        omega
      · skip
        refine jr_lload_n (pc := 22) hh 3 dX3_year_22 rfl rfl ?_
        refine jr_aload_n (pc := 23) hh 0 dX3_year_23 rfl rfl ?_
        refine jr_iload_n (pc := 24) hh 1 dX3_year_24 rfl rfl ?_
        refine jr_iload_n (pc := 25) hh 2 dX3_year_25 rfl rfl ?_
        refine jr_iload (pc := 26) hh 4 dX3_year_26 rfl ?_
        refine jr_bipush (pc := 28) hh dX3_year_28 (by decide) ?_
        refine jr_callV (pc := 30) hh [.int (iI (s0N : Int)), .int (iI (iN : Int)), .int (iI (t : Int)), .int (iI 6)] [.long (lI (sumTo (yrX F s0N iN) t))] (c_X3_numberIn l G h Fm V s0N iN t 6 (okC_scr hk hsc) (by omega) (by omega) (by omega) (by omega)) gX3_year_X3_numberIn rfl (by decide) (by decide) [0, 1, 2, 3, 4, 5, 6, 7, 8, 9, 10, 11, 12, 13, 14, 15, 16, 17] [] rfl rfl rfl rfl (by decide) 0 rfl rfl 4 rfl rfl (Nat.le_of_ble_eq_true rfl) (by decide +kernel) dX3_year_30 (fun rvu7 wu7 hu7 => ?_)
        obtain ⟨rfl, Fz, hFz, rfl⟩ := hu7
        refine jr_perm (ws' := (wC G h Fz V)) (st := [.int (iI (enc (nmC Fm s0N t 6 iN))), .long (lI (sumTo (yrX F s0N iN) t))]) [0, 1, 2, 3, 4, 5, 6, 7, 8, 9, 10, 11, 12, 13, 14, 15, 16, 17] rfl rfl ?_
        have hsz := scr_tr hsc hFz
        have hyr : -1000000000 ≤ yrX F s0N iN t ∧ yrX F s0N iN t ≤ 99999999 := enc_range (nmC_B hk (s := s0N) (i := iN) (m := t) (cd := 6) (by omega) (by omega) (by omega))
        refine jr_topi (b := (yrX F s0N iN t)) (congrArg enc (nmC_scr hsc _ _ _ _)) ?_
        by_cases q8 : (yrX F s0N iN t) = -1000000000
        · skip
          refine jr_topi q8 ?_
          exact jr_tcallS (pc := 33) hh [.int (iI (-1000000000))] [.long (lI (sumTo (yrX F s0N iN) t))] (t_X3_required l G hlt) gX3_year_X3_required rfl (by decide) (by decide) [] [0, 1, 2, 3, 4, 5, 6, 7, 8, 9, 10, 11, 12, 13, 14, 15, 16, 17] rfl rfl rfl rfl (by decide) 1 rfl rfl (Nat.le_of_ble_eq_true rfl) (by decide +kernel) (fun E w1 hx => by obtain ⟨rfl, rfl⟩ := hx; exact ⟨Or.inr ⟨by have hpz := cntTo_pos (f := yrX F s0N iN) (w := -1000000000) (n := 12) t (by omega) (by assumption); unfold cdYear; omega, rfl⟩, Fz, hsz, rfl⟩) htab (by decide) (by decide) dX3_year_33
        · skip
          refine jr_callS (pc := 33) hh [.int (iI (yrX F s0N iN t))] [.long (lI (sumTo (yrX F s0N iN) t))] (c_X3_required l G (yrX F s0N iN t) q8 ⟨by omega, by omega⟩) gX3_year_X3_required rfl (by decide) (by decide) [] [0, 1, 2, 3, 4, 5, 6, 7, 8, 9, 10, 11, 12, 13, 14, 15, 16, 17] rfl rfl rfl rfl (by decide) 1 rfl rfl (Nat.le_of_ble_eq_true rfl) (by decide +kernel) dX3_year_33 (fun rvu10 wu10 hu10 => ?_)
          obtain ⟨rfl, rfl⟩ := hu10
          refine jr_perm (ws' := (wC G h Fz V)) (st := [.int (iI (yrX F s0N iN t)), .long (lI (sumTo (yrX F s0N iN) t))]) [0, 1, 2, 3, 4, 5, 6, 7, 8, 9, 10, 11, 12, 13, 14, 15, 16, 17] rfl rfl ?_
          refine jr_i2l (pc := 36) hh dX3_year_36 ⟨by omega, by omega⟩ ?_
          refine jr_ladd (pc := 37) hh dX3_year_37 ?_
          refine jr_lstore_n (lv' := [(3, .long (lI ((sumTo (yrX F s0N iN) t) + (yrX F s0N iN t)))), (0, .ref (h 0)), (1, .int (iI (s0N : Int))), (2, .int (iI (iN : Int))), (5, .int (iI (t : Int)))]) (pc := 38) hh dX3_year_38 rfl (by decide) rfl ?_
          refine jr_iinc (a := (t : Int)) (b := (((t + 1) : Nat) : Int)) (lv' := [(5, .int (iI (((t + 1) : Nat) : Int))), (3, .long (lI ((sumTo (yrX F s0N iN) t) + (yrX F s0N iN t)))), (0, .ref (h 0)), (1, .int (iI (s0N : Int))), (2, .int (iI (iN : Int)))]) (pc := 39) hh 4 dX3_year_39 rfl (by omega) (by decide) rfl ?_
          refine jr_goto (tgt := 15) (pc := 42) hh dX3_year_42 (by decide) ?_
          have hal2 : ∀ u : Nat, u < t + 1 → yrX F s0N iN u ≠ -1000000000 := by
            intro u hu
            by_cases hq : u = t
            · subst hq; assumption
            · exact hall u (by omega)
          refine jr_loc (lv' := [(0, .ref (h 0)), (1, .int (iI (s0N : Int))), (2, .int (iI (iN : Int))), (3, .long (lI ((sumTo (yrX F s0N iN) t) + (yrX F s0N iN t)))), (5, .int (iI (((t + 1) : Nat) : Int)))]) [2, 3, 4, 1, 0] rfl ?_
          refine jr_lvsetl (a := ((sumTo (yrX F s0N iN) t) + (yrX F s0N iN t))) (b := (sumTo (yrX F s0N iN) (t + 1))) (lv' := [(0, .ref (h 0)), (1, .int (iI (s0N : Int))), (2, .int (iI (iN : Int))), (3, .long (lI (sumTo (yrX F s0N iN) (t + 1)))), (5, .int (iI (((t + 1) : Nat) : Int)))]) 3 rfl (by first | rfl | exact (sumTo_s _ _).symm) rfl ?_
          exact ih5 ((t + 1), Fz) ⟨by (try dsimp only); omega, hsz, hal2⟩ (by (try dsimp only); omega)
    · skip
      exact jr_tcallV (pc := 7) hh [.int (iI i)] [] (t_X3_requireLine l G h F V i ⟨by omega, by omega⟩ q3 (by omega) hlt) gX3_year_X3_requireLine rfl (by decide) (by decide) [0, 1, 2, 3, 4, 5, 6, 7, 8, 9, 10, 11, 12, 13, 14, 15, 16, 17] [] rfl rfl rfl rfl (by decide) 0 rfl rfl 1 rfl rfl (Nat.le_of_ble_eq_true rfl) (by decide +kernel) (fun E w1 hx => by obtain ⟨rfl, rfl⟩ := hx; exact ⟨Or.inl ⟨by unfold cdYear; omega, rfl⟩, F, scr_rf hk, rfl⟩) htab (by decide) (by decide) dX3_year_7
  · skip
    exact jr_tcallV (pc := 2) hh [.int (iI s0)] [] (t_X3_requireScenario l G h F V s0 ⟨by omega, by omega⟩ q1 (by omega) hlt) gX3_year_X3_requireScenario rfl (by decide) (by decide) [0, 1, 2, 3, 4, 5, 6, 7, 8, 9, 10, 11, 12, 13, 14, 15, 16, 17] [] rfl rfl rfl rfl (by decide) 0 rfl rfl 1 rfl rfl (Nat.le_of_ble_eq_true rfl) (by decide +kernel) (fun E w1 hx => by obtain ⟨rfl, rfl⟩ := hx; exact ⟨Or.inl ⟨by unfold cdYear; omega, rfl⟩, F, scr_rf hk, rfl⟩) htab (by decide) (by decide) dX3_year_2
theorem skX_of {F : Nat → Nat → Int} {V : Nat → Int} {F9 : Nat → Nat → Int} {d t i v : Nat} (hk : okC F V) (h5 : F9 0 = F 5) (h6 : F9 1 = F 6) (h7 : F9 2 = F 7) (h8 : F9 3 = F 8) (h1 : ∀ j : Nat, (j : Int) < V 3 → F9 6 j = jU (F 0) d (v : Int) j) (hi : (i : Int) < V 2) : lnC F9 t i = skX F d t i v := by
  have hL := hk.2.2.2.2.2.2.2.2.1
  unfold lnC skX
  rw [h5, h6, h7, h8]
  refine lnum_congr (n := i + 1) (fun j hj => (hL j (by omega)).2.2) (fun _ _ => rfl) (fun _ _ => rfl) (fun _ _ => rfl) (fun _ _ _ => rfl) (fun j hj hd => ?_) i (by omega)
  have := (hL j (by omega)).2.1 hd
  exact h1 _ (by omega)
theorem skX_B {F : Nat → Nat → Int} {V : Nat → Int} {d t i v : Nat} (hk : okC F V) (hd : d < 6) (ht : t < 12) (hi : (i : Int) < V 2) (hv : v ≤ 999) : inB (skX F d t i v) := by
  have hL := hk.2.2.2.2.2.2.2.2.1 i hi
  have hA := hk.2.2.2.2.2.2.2.2.2.1
  have hV := hk.2.2.1
  have hV3 := hk.2.2.2.1
  refine lnum_B hL.2.2 ?_ (fun hq => ?_)
  · intro w hw
    unfold actC at hw
    split at hw
    · cases hw
    · cases hw
      have := hA (i * 12 + t) (by omega)
      omega
  · have := hL.2.1 hq
    have := hk.2.2.2.2.2.1 (F 6 i).toNat (by omega)
    unfold jU
    split <;> omega
set_option maxRecDepth 20000 in
theorem in_X3_seek_X3 : ∀ w ∈ u_ws RX3 TX3 7, w ∈ wsX3_seek := by decide +kernel
set_option maxHeartbeats 4000000 in
set_option maxRecDepth 100000 in
theorem c_X3_seek (l : Launch) (G : jG) (h : Nat → Nat) (F : Nat → Nat → Int) (V : Nat → Int) (d i t : Nat) (goal : Int) (hk : okC F V) (hd : (d : Int) < V 3) (hi : (i : Int) < V 2) (ht : t < 12) (hrg : jR goal) (hx : 0 ≤ fstP (skP F d t i goal) 1000) : jMet l yX3_seek wsX3_seek { frames := 7, cells := 0, slots := 0, locals := 400 } G (wC G h F V) [.ref (h 0), .int (iI (d : Int)), .int (iI (i : Int)), .int (iI (t : Int)), .int (iI goal)] (fun rv w1 => rv = some (.int (iI (fstP (skP F d t i goal) 1000))) ∧ ∃ F' : Nat → Nat → Int, scr F F' ∧ w1 = wC G h F' V) := by
  refine jMet_of (cc := cX3_seek) (maxL := 7) (ret := (some .int)) (by decide +kernel) rfl (Nat.le_of_ble_eq_true rfl) ?_
  intro p e s m args below meth c A hh hret hinit
  refine jr_loc (lv' := [(0, .ref (h 0)), (1, .int (iI (d : Int))), (2, .int (iI (i : Int))), (3, .int (iI (t : Int))), (4, .int (iI goal))]) [0, 1, 2, 3, 4] rfl ?_
  obtain ⟨hV0, hV1, hV2, hV3, hV4, -⟩ := id hk
  have hrg1 := hrg.1
  have hrg2 := hrg.2
  refine jr_aload_n (pc := 0) hh 0 dX3_seek_0 rfl rfl ?_
  refine jr_iload_n (pc := 1) hh 1 dX3_seek_1 rfl rfl ?_
  refine jr_callV (pc := 2) hh [.int (iI (d : Int))] [] (c_X3_requireDriver l G h F V (d : Int) (by omega) (by omega)) gX3_seek_X3_requireDriver rfl (by decide) (by decide) [0, 1, 2, 3, 4, 5, 6, 7, 8, 9, 10, 11, 12, 13, 14, 15, 16, 17] [] rfl rfl rfl rfl (by decide) 0 rfl rfl 1 rfl rfl (Nat.le_of_ble_eq_true rfl) (by decide +kernel) dX3_seek_2 (fun rvu1 wu1 hu1 => ?_)
  obtain ⟨rfl, rfl⟩ := hu1
  refine jr_perm (ws' := (wC G h F V)) (st := []) [0, 1, 2, 3, 4, 5, 6, 7, 8, 9, 10, 11, 12, 13, 14, 15, 16, 17] rfl rfl ?_
  refine jr_aload_n (pc := 5) hh 0 dX3_seek_5 rfl rfl ?_
  refine jr_iload_n (pc := 6) hh 2 dX3_seek_6 rfl rfl ?_
  refine jr_callV (pc := 7) hh [.int (iI (i : Int))] [] (c_X3_requireLine l G h F V (i : Int) (by omega) (by omega)) gX3_seek_X3_requireLine rfl (by decide) (by decide) [0, 1, 2, 3, 4, 5, 6, 7, 8, 9, 10, 11, 12, 13, 14, 15, 16, 17] [] rfl rfl rfl rfl (by decide) 0 rfl rfl 1 rfl rfl (Nat.le_of_ble_eq_true rfl) (by decide +kernel) dX3_seek_7 (fun rvu2 wu2 hu2 => ?_)
  obtain ⟨rfl, rfl⟩ := hu2
  refine jr_perm (ws' := (wC G h F V)) (st := []) [0, 1, 2, 3, 4, 5, 6, 7, 8, 9, 10, 11, 12, 13, 14, 15, 16, 17] rfl rfl ?_
  refine jr_iload_n (pc := 10) hh 3 dX3_seek_10 rfl rfl ?_
  refine jr_callS (pc := 11) hh [.int (iI (t : Int))] [] (c_X3_requireMonth l G (t : Int) (by omega)) gX3_seek_X3_requireMonth rfl (by decide) (by decide) [] [0, 1, 2, 3, 4, 5, 6, 7, 8, 9, 10, 11, 12, 13, 14, 15, 16, 17] rfl rfl rfl rfl (by decide) 1 rfl rfl (Nat.le_of_ble_eq_true rfl) (by decide +kernel) dX3_seek_11 (fun rvu3 wu3 hu3 => ?_)
  obtain ⟨rfl, rfl⟩ := hu3
  refine jr_perm (ws' := (wC G h F V)) (st := []) [0, 1, 2, 3, 4, 5, 6, 7, 8, 9, 10, 11, 12, 13, 14, 15, 16, 17] rfl rfl ?_
  refine jr_aload_n (pc := 14) hh 0 dX3_seek_14 rfl rfl ?_
  refine jr_iconst (pc := 15) hh dX3_seek_15 ?_
  refine jr_iload_n (pc := 16) hh 3 dX3_seek_16 rfl rfl ?_
  refine jr_bipush (pc := 17) hh dX3_seek_17 (by decide) ?_
  refine jr_callV (pc := 19) hh [.int (iI 0), .int (iI (t : Int)), .int (iI 6)] [] (c_X3_fillInputs l G h F V 0 t 6 hk (by omega) (by omega) (by omega)) gX3_seek_X3_fillInputs rfl (by decide) (by decide) [0, 1, 2, 3, 4, 5, 6, 7, 8, 9, 10, 11, 12, 13, 14, 15, 16, 17] [] rfl rfl rfl rfl (by decide) 0 rfl rfl 3 rfl rfl (Nat.le_of_ble_eq_true rfl) (by decide +kernel) dX3_seek_19 (fun rvu4 wu4 hu4 => ?_)
  obtain ⟨rfl, inp, hfi, hoi, rfl⟩ := hu4
  refine jr_perm (ws' := (wC G h (uF F 1 inp) V)) (st := []) [0, 1, 2, 3, 4, 5, 6, 7, 8, 9, 10, 11, 12, 13, 14, 15, 16, 17] rfl rfl ?_
  refine jr_aload_n (pc := 22) hh 0 dX3_seek_22 rfl rfl ?_
  refine jr_get (v := .ref (h 7)) (pc := 23) hh in_X3_seek_X3 0 rfl rfl 2 (by decide) (by decide +kernel : Cond.fieldLink RX3 23 (TX3 2).1 (TX3 2).2.1 (TX3 2).2.2.1 ∈ wsX3_seek) rfl dX3_seek_23 ?_
  refine jr_iload_n (pc := 26) hh 2 dX3_seek_26 rfl rfl ?_
  refine jr_iload_n (pc := 27) hh 3 dX3_seek_27 rfl rfl ?_
  refine jr_callVN (pc := 28) hh [.int (iI (i : Int)), .int (iI (t : Int))] [] (c_X1_markNeeded l G (fun k => h (7 + k)) (fun k => (uF F 1 inp) (5 + k)) (fun k => V (2 + k)) i t (by omega) hk.2.2.1 (okL_C (F := F) (V := V) hk) hk.2.2.2.2.2.2.2.2.2.1 (by show (_ : Int) < V 2; omega)) gX3_seek_X1_markNeeded_n109 rfl (by decide +kernel) (by decide +kernel) (by decide +kernel) (by decide +kernel) (by decide) (by decide) [7, 8, 9, 10, 11, 12, 13] [0, 1, 2, 3, 4, 5, 6, 14, 15, 16, 17] rfl rfl rfl rfl (by decide) 0 rfl rfl 2 rfl rfl (Nat.le_of_ble_eq_true rfl) (by decide +kernel) dX3_seek_28 (fun rvu5 wu5 hu5 => ?_)
  obtain ⟨rfl, nd, hcl, rfl⟩ := hu5
  refine jr_perm (ws' := (wC G h (uF (uF F 1 inp) 9 nd) V)) (st := []) [0, 1, 2, 3, 4, 5, 6, 11, 12, 13, 14, 15, 16, 17, 7, 8, 9, 10] rfl rfl ?_
  refine jr_iconst (pc := 31) hh dX3_seek_31 ?_
  refine jr_istore (lv' := [(5, .int (iI 0)), (0, .ref (h 0)), (1, .int (iI (d : Int))), (2, .int (iI (i : Int))), (3, .int (iI (t : Int))), (4, .int (iI goal))]) (pc := 32) hh dX3_seek_32 (by decide) rfl ?_
  refine jr_loc (lv' := [(0, .ref (h 0)), (1, .int (iI (d : Int))), (2, .int (iI (i : Int))), (3, .int (iI (t : Int))), (4, .int (iI goal)), (5, .int (iI 0))]) [1, 2, 3, 4, 5, 0] rfl ?_
  refine jr_lvset (a := 0) (b := (0 : Int)) (lv' := [(0, .ref (h 0)), (1, .int (iI (d : Int))), (2, .int (iI (i : Int))), (3, .int (iI (t : Int))), (4, .int (iI goal)), (5, .int (iI (0 : Int)))]) 5 rfl (by first | rfl | omega) rfl ?_
  refine jr_ws (ws' := (wC G h (uF (uF (uF F 1 inp) 9 nd) 10 (F 10)) V)) rfl ?_
  refine jr_loop (σ := Nat × (Nat → Int) × (Nat → Int)) (fun (x : Nat × (Nat → Int) × (Nat → Int)) => match x with | (v, ip, nm) => (v ≤ 1000) ∧ (∀ j : Nat, (j : Int) < V 3 → j ≠ d → ip j = F 0 j) ∧ (okIn ip) ∧ (fstP (skP F d t i goal) v = -1)) (fun (x : Nat × (Nat → Int) × (Nat → Int)) => match x with | (v, ip, nm) => 1000 - v) (fun (x : Nat × (Nat → Int) × (Nat → Int)) => match x with | (v, ip, nm) => (wC G h (uF (uF (uF F 1 ip) 9 nd) 10 nm) V)) (fun (x : Nat × (Nat → Int) × (Nat → Int)) => match x with | (v, ip, nm) => [(0, .ref (h 0)), (1, .int (iI (d : Int))), (2, .int (iI (i : Int))), (3, .int (iI (t : Int))), (4, .int (iI goal)), (5, .int (iI (v : Int)))]) (fun (x : Nat × (Nat → Int) × (Nat → Int)) => match x with | (v, ip, nm) => []) ?_ (0, inp, (F 10)) ⟨by (try dsimp only); omega, fun j hj hq => by rw [hfi j hj, drvC_0], hoi, rfl⟩
  rintro ⟨v, ip, nm⟩ ⟨hv, hip, hok, hno⟩ ih6
  dsimp only at ih6 ⊢
  try dsimp only at hv hip hok hno
  refine jr_iload (pc := 34) hh 5 dX3_seek_34 rfl ?_
  refine jr_sipush (pc := 36) hh dX3_seek_36 (by decide) ?_
  refine jr_icmp_gt (tgt := 88) (pc := 39) hh dX3_seek_39 (by decide) ⟨by omega, by omega⟩ ⟨by omega, by omega⟩ (fun c7 => ?_) (fun c7 => ?_)
  · skip
    exfalso
    rw [show v = 1000 by omega] at hno
    omega
  · skip
    refine jr_aload_n (pc := 42) hh 0 dX3_seek_42 rfl rfl ?_
    refine jr_get (v := .ref (h 2)) (pc := 43) hh in_X3_seek_X3 0 rfl rfl 4 (by decide) (by decide +kernel : Cond.fieldLink RX3 34 (TX3 4).1 (TX3 4).2.1 (TX3 4).2.2.1 ∈ wsX3_seek) rfl dX3_seek_43 ?_
    refine jr_iload_n (pc := 46) hh 1 dX3_seek_46 rfl rfl ?_
    refine jr_iload (pc := 47) hh 5 dX3_seek_47 rfl ?_
    refine jr_iast (F := ip) (ws' := (wC G h (uF (uF (uF F 1 (jU ip d (v : Int))) 9 nd) 10 nm) V)) (pc := 49) hh 2 rfl d (by omega) (by omega) (by decide) rfl dX3_seek_49 ?_
    have hfj : ∀ j : Nat, (j : Int) < V 3 → jU ip d (v : Int) j = jU (F 0) d (v : Int) j := fun j hj => by
      unfold jU
      split
      · rfl
      · exact hip j hj (by assumption)
    refine jr_aload_n (pc := 50) hh 0 dX3_seek_50 rfl rfl ?_
    refine jr_get (v := .ref (h 7)) (pc := 51) hh in_X3_seek_X3 0 rfl rfl 2 (by decide) (by decide +kernel : Cond.fieldLink RX3 23 (TX3 2).1 (TX3 2).2.1 (TX3 2).2.2.1 ∈ wsX3_seek) rfl dX3_seek_51 ?_
    refine jr_iload_n (pc := 54) hh 2 dX3_seek_54 rfl rfl ?_
    refine jr_iload_n (pc := 55) hh 3 dX3_seek_55 rfl rfl ?_
    refine jr_aload_n (pc := 56) hh 0 dX3_seek_56 rfl rfl ?_
    refine jr_get (v := .ref (h 2)) (pc := 57) hh in_X3_seek_X3 0 rfl rfl 4 (by decide) (by decide +kernel : Cond.fieldLink RX3 34 (TX3 4).1 (TX3 4).2.1 (TX3 4).2.2.1 ∈ wsX3_seek) rfl dX3_seek_57 ?_
    have hoi2 : okIn (jU ip d (v : Int)) := by
      intro j hj
      unfold jU
      split
      · omega
      · exact hok j hj
    refine jr_callVN (pc := 60) hh [.int (iI (i : Int)), .int (iI (t : Int)), .ref (h 2)] [] (c_X1_findNeeded l G (fun k => if k = 7 then h 2 else h (7 + k)) (fun k => if k = 6 then (uF (uF (uF F 1 (jU ip d (v : Int))) 9 nd) 10 nm) 1 else (uF (uF (uF F 1 (jU ip d (v : Int))) 9 nd) 10 nm) (5 + k)) (fun k => V (2 + k)) i t (by omega) hk.2.2.1 (okL_C (F := F) (V := V) hk) hk.2.2.2.2.2.2.2.2.2.1 hoi2 (by show (_ : Int) < V 2; omega) hcl) gX3_seek_X1_findNeeded_n113 rfl (by decide +kernel) (by decide +kernel) (by decide +kernel) (by decide +kernel) (by decide) (by decide) [7, 8, 9, 10, 11, 12, 13, 2] [0, 1, 3, 4, 5, 6, 14, 15, 16, 17] rfl rfl rfl rfl (by decide) 0 rfl rfl 3 rfl rfl (Nat.le_of_ble_eq_true rfl) (by decide +kernel) dX3_seek_60 (fun rvu8 wu8 hu8 => ?_)
    obtain ⟨rfl, nm2, rfl⟩ := hu8
    refine jr_perm (ws' := (wC G h (uF (uF (uF F 1 (jU ip d (v : Int))) 9 nd) 10 nm2) V)) (st := [.int (iI (enc (lnC (fun k => if k = 6 then (uF (uF (uF F 1 (jU ip d (v : Int))) 9 nd) 10 nm) 1 else (uF (uF (uF F 1 (jU ip d (v : Int))) 9 nd) 10 nm) (5 + k)) t i)))]) [0, 1, 17, 2, 3, 4, 5, 10, 11, 12, 13, 14, 15, 16, 6, 7, 8, 9] rfl rfl ?_
    have hsr : -1000000000 ≤ enc (skX F d t i v) ∧ enc (skX F d t i v) ≤ 99999999 := enc_range (skX_B hk (by omega) (by omega) (by omega) (by omega))
    refine jr_topi (b := (enc (skX F d t i v))) (congrArg enc (skX_of (F := F) (V := V) hk rfl rfl rfl rfl hfj (by omega))) ?_
    refine jr_istore (lv' := [(6, .int (iI (enc (skX F d t i v)))), (0, .ref (h 0)), (1, .int (iI (d : Int))), (2, .int (iI (i : Int))), (3, .int (iI (t : Int))), (4, .int (iI goal)), (5, .int (iI (v : Int)))]) (pc := 63) hh dX3_seek_63 (by decide) rfl ?_
    refine jr_iload (pc := 65) hh 0 dX3_seek_65 rfl ?_
    refine jr_ldc (z := (-1000000000)) (v := -1000000000) (pc := 67) hh (by decide) (by decide +kernel : Cond.constant RX3 117 (-1000000000) ∈ wsX3_seek) dX3_seek_67 ?_
    refine jr_icmp_eq (tgt := 82) (pc := 69) hh dX3_seek_69 (by decide) ⟨by omega, by omega⟩ ⟨by omega, by omega⟩ (fun c9 => ?_) (fun c9 => ?_)
    · skip
      refine jr_iinc (a := (v : Int)) (b := (((v + 1) : Nat) : Int)) (lv' := [(5, .int (iI (((v + 1) : Nat) : Int))), (6, .int (iI (enc (skX F d t i v)))), (0, .ref (h 0)), (1, .int (iI (d : Int))), (2, .int (iI (i : Int))), (3, .int (iI (t : Int))), (4, .int (iI goal))]) (pc := 82) hh 6 dX3_seek_82 rfl (by omega) (by decide) rfl ?_
      refine jr_goto (tgt := 34) (pc := 85) hh dX3_seek_85 (by decide) ?_
      have hip2 : ∀ j : Nat, (j : Int) < V 3 → j ≠ d → (jU ip d (v : Int)) j = F 0 j := fun j hj hq => by rw [jU_n hq]; exact hip j hj hq
      have hno2 : fstP (skP F d t i goal) (v + 1) = -1 := by
        rw [fstP_s, hno, if_neg (by decide)]
        unfold skP
        rw [if_neg (by omega)]
      refine jr_loc (lv' := [(0, .ref (h 0)), (1, .int (iI (d : Int))), (2, .int (iI (i : Int))), (3, .int (iI (t : Int))), (4, .int (iI goal)), (5, .int (iI (((v + 1) : Nat) : Int)))]) [2, 3, 4, 5, 6, 0] rfl ?_
      exact ih6 ((v + 1), (jU ip d (v : Int)), nm2) ⟨by (try dsimp only); omega, hip2, hoi2, hno2⟩ (by (try dsimp only); omega)
    · skip
      refine jr_iload (pc := 72) hh 0 dX3_seek_72 rfl ?_
      refine jr_iload (pc := 74) hh 5 dX3_seek_74 rfl ?_
      refine jr_icmp_lt (tgt := 82) (pc := 76) hh dX3_seek_76 (by decide) ⟨by omega, by omega⟩ ⟨by omega, by omega⟩ (fun c10 => ?_) (fun c10 => ?_)
      · skip
        refine jr_iinc (a := (v : Int)) (b := (((v + 1) : Nat) : Int)) (lv' := [(5, .int (iI (((v + 1) : Nat) : Int))), (6, .int (iI (enc (skX F d t i v)))), (0, .ref (h 0)), (1, .int (iI (d : Int))), (2, .int (iI (i : Int))), (3, .int (iI (t : Int))), (4, .int (iI goal))]) (pc := 82) hh 6 dX3_seek_82 rfl (by omega) (by decide) rfl ?_
        refine jr_goto (tgt := 34) (pc := 85) hh dX3_seek_85 (by decide) ?_
        have hip2 : ∀ j : Nat, (j : Int) < V 3 → j ≠ d → (jU ip d (v : Int)) j = F 0 j := fun j hj hq => by rw [jU_n hq]; exact hip j hj hq
        have hno2 : fstP (skP F d t i goal) (v + 1) = -1 := by
          rw [fstP_s, hno, if_neg (by decide)]
          unfold skP
          rw [if_neg (by omega)]
        refine jr_loc (lv' := [(0, .ref (h 0)), (1, .int (iI (d : Int))), (2, .int (iI (i : Int))), (3, .int (iI (t : Int))), (4, .int (iI goal)), (5, .int (iI (((v + 1) : Nat) : Int)))]) [2, 3, 4, 5, 6, 0] rfl ?_
        exact ih6 ((v + 1), (jU ip d (v : Int)), nm2) ⟨by (try dsimp only); omega, hip2, hoi2, hno2⟩ (by (try dsimp only); omega)
      · skip
        refine jr_iload (pc := 79) hh 6 dX3_seek_79 rfl ?_
        exact jr_iret (pc := 81) hh hret rfl ⟨jsi (by
        have hq : fstP (skP F d t i goal) (v + 1) = (v : Int) := by
          rw [fstP_s, hno, if_neg (by decide)]
          unfold skP
          rw [if_pos (by omega)]
        have hu := fstP_up (f := skP F d t i goal) (n := v + 1) (by omega) (1000 - (v + 1))
        rw [show v + 1 + (1000 - (v + 1)) = 1000 by omega] at hu
        omega), _, scr_10 (scr_9 (scr_1 hoi2)), rfl⟩ (by decide) (by decide) dX3_seek_81
set_option maxRecDepth 20000 in
theorem tw_X3_seek_120 : ∀ w ∈ (vx_at0 RX3 120 "java/util/NoSuchElementException" ["java/lang/RuntimeException", "java/lang/Exception"]).filter goodWord, w ∈ wsX3_seek := by decide +kernel
set_option maxHeartbeats 4000000 in
set_option maxRecDepth 100000 in
theorem t_X3_seek (l : Launch) (G : jG) (h : Nat → Nat) (F : Nat → Nat → Int) (V : Nat → Int) (d i t goal : Int) (hrd : jR d) (hri : jR i) (hrt : jR t) (hrgoal : jR goal) (hk : okC F V) (hcd : cdSeek (V 3) (V 2) d i t (fstP (skP F d.toNat t.toNat i.toNat goal) 1000) ≠ 0) (hlt : l.stackTraces = false) : jThr l yX3_seek wsX3_seek { frames := 8, cells := 1, slots := 6, locals := 520 } G (wC G h F V) [.ref (h 0), .int (iI d), .int (iI i), .int (iI t), .int (iI goal)] (fun E w1 => ((cdSeek (V 3) (V 2) d i t (fstP (skP F d.toNat t.toNat i.toNat goal) 1000) = 1 ∧ E = "java/lang/IndexOutOfBoundsException") ∨ (cdSeek (V 3) (V 2) d i t (fstP (skP F d.toNat t.toNat i.toNat goal) 1000) = 2 ∧ E = "java/util/NoSuchElementException")) ∧ ∃ F' : Nat → Nat → Int, scr F F' ∧ w1 = wC G h F' V) := by
  refine jThr_of (cc := cX3_seek) (maxL := 7) (ret := (some .int)) (by decide +kernel) rfl (Nat.le_of_ble_eq_true rfl) ?_
  intro p e s m args below meth c A hh htab
  refine jr_loc (lv' := [(0, .ref (h 0)), (1, .int (iI d)), (2, .int (iI i)), (3, .int (iI t)), (4, .int (iI goal))]) [0, 1, 2, 3, 4] rfl ?_
  obtain ⟨hV0, hV1, hV2, hV3, hV4, -⟩ := id hk
  have hrd1 := hrd.1
  have hri1 := hri.1
  have hrt1 := hrt.1
  have hrgoal1 := hrgoal.1
  have hrd2 := hrd.2
  have hri2 := hri.2
  have hrt2 := hrt.2
  have hrgoal2 := hrgoal.2
  refine jr_aload_n (pc := 0) hh 0 dX3_seek_0 rfl rfl ?_
  refine jr_iload_n (pc := 1) hh 1 dX3_seek_1 rfl rfl ?_
  by_cases q1 : 0 ≤ d ∧ d < V 3
  · skip
    obtain ⟨dN, rfl⟩ : ∃ k : Nat, d = (k : Int) := ⟨d.toNat, by omega⟩
    try simp only [Int.toNat_natCast] at hcd ⊢
    refine jr_callV (pc := 2) hh [.int (iI (dN : Int))] [] (c_X3_requireDriver l G h F V (dN : Int) (by omega) (by omega)) gX3_seek_X3_requireDriver rfl (by decide) (by decide) [0, 1, 2, 3, 4, 5, 6, 7, 8, 9, 10, 11, 12, 13, 14, 15, 16, 17] [] rfl rfl rfl rfl (by decide) 0 rfl rfl 1 rfl rfl (Nat.le_of_ble_eq_true rfl) (by decide +kernel) dX3_seek_2 (fun rvu2 wu2 hu2 => ?_)
    obtain ⟨rfl, rfl⟩ := hu2
    refine jr_perm (ws' := (wC G h F V)) (st := []) [0, 1, 2, 3, 4, 5, 6, 7, 8, 9, 10, 11, 12, 13, 14, 15, 16, 17] rfl rfl ?_
    refine jr_aload_n (pc := 5) hh 0 dX3_seek_5 rfl rfl ?_
    refine jr_iload_n (pc := 6) hh 2 dX3_seek_6 rfl rfl ?_
    by_cases q3 : 0 ≤ i ∧ i < V 2
    · skip
      obtain ⟨iN, rfl⟩ : ∃ k : Nat, i = (k : Int) := ⟨i.toNat, by omega⟩
      try simp only [Int.toNat_natCast] at hcd ⊢
      refine jr_callV (pc := 7) hh [.int (iI (iN : Int))] [] (c_X3_requireLine l G h F V (iN : Int) (by omega) (by omega)) gX3_seek_X3_requireLine rfl (by decide) (by decide) [0, 1, 2, 3, 4, 5, 6, 7, 8, 9, 10, 11, 12, 13, 14, 15, 16, 17] [] rfl rfl rfl rfl (by decide) 0 rfl rfl 1 rfl rfl (Nat.le_of_ble_eq_true rfl) (by decide +kernel) dX3_seek_7 (fun rvu4 wu4 hu4 => ?_)
      obtain ⟨rfl, rfl⟩ := hu4
      refine jr_perm (ws' := (wC G h F V)) (st := []) [0, 1, 2, 3, 4, 5, 6, 7, 8, 9, 10, 11, 12, 13, 14, 15, 16, 17] rfl rfl ?_
      refine jr_iload_n (pc := 10) hh 3 dX3_seek_10 rfl rfl ?_
      by_cases q5 : 0 ≤ t ∧ t < 12
      · skip
        obtain ⟨tN, rfl⟩ : ∃ k : Nat, t = (k : Int) := ⟨t.toNat, by omega⟩
        try simp only [Int.toNat_natCast] at hcd ⊢
        refine jr_callS (pc := 11) hh [.int (iI (tN : Int))] [] (c_X3_requireMonth l G (tN : Int) (by omega)) gX3_seek_X3_requireMonth rfl (by decide) (by decide) [] [0, 1, 2, 3, 4, 5, 6, 7, 8, 9, 10, 11, 12, 13, 14, 15, 16, 17] rfl rfl rfl rfl (by decide) 1 rfl rfl (Nat.le_of_ble_eq_true rfl) (by decide +kernel) dX3_seek_11 (fun rvu6 wu6 hu6 => ?_)
        obtain ⟨rfl, rfl⟩ := hu6
        refine jr_perm (ws' := (wC G h F V)) (st := []) [0, 1, 2, 3, 4, 5, 6, 7, 8, 9, 10, 11, 12, 13, 14, 15, 16, 17] rfl rfl ?_
        refine jr_aload_n (pc := 14) hh 0 dX3_seek_14 rfl rfl ?_
        refine jr_iconst (pc := 15) hh dX3_seek_15 ?_
        refine jr_iload_n (pc := 16) hh 3 dX3_seek_16 rfl rfl ?_
        refine jr_bipush (pc := 17) hh dX3_seek_17 (by decide) ?_
        refine jr_callV (pc := 19) hh [.int (iI 0), .int (iI (tN : Int)), .int (iI 6)] [] (c_X3_fillInputs l G h F V 0 tN 6 hk (by omega) (by omega) (by omega)) gX3_seek_X3_fillInputs rfl (by decide) (by decide) [0, 1, 2, 3, 4, 5, 6, 7, 8, 9, 10, 11, 12, 13, 14, 15, 16, 17] [] rfl rfl rfl rfl (by decide) 0 rfl rfl 3 rfl rfl (Nat.le_of_ble_eq_true rfl) (by decide +kernel) dX3_seek_19 (fun rvu7 wu7 hu7 => ?_)
        obtain ⟨rfl, inp, hfi, hoi, rfl⟩ := hu7
        refine jr_perm (ws' := (wC G h (uF F 1 inp) V)) (st := []) [0, 1, 2, 3, 4, 5, 6, 7, 8, 9, 10, 11, 12, 13, 14, 15, 16, 17] rfl rfl ?_
        refine jr_aload_n (pc := 22) hh 0 dX3_seek_22 rfl rfl ?_
        refine jr_get (v := .ref (h 7)) (pc := 23) hh in_X3_seek_X3 0 rfl rfl 2 (by decide) (by decide +kernel : Cond.fieldLink RX3 23 (TX3 2).1 (TX3 2).2.1 (TX3 2).2.2.1 ∈ wsX3_seek) rfl dX3_seek_23 ?_
        refine jr_iload_n (pc := 26) hh 2 dX3_seek_26 rfl rfl ?_
        refine jr_iload_n (pc := 27) hh 3 dX3_seek_27 rfl rfl ?_
        refine jr_callVN (pc := 28) hh [.int (iI (iN : Int)), .int (iI (tN : Int))] [] (c_X1_markNeeded l G (fun k => h (7 + k)) (fun k => (uF F 1 inp) (5 + k)) (fun k => V (2 + k)) iN tN (by omega) hk.2.2.1 (okL_C (F := F) (V := V) hk) hk.2.2.2.2.2.2.2.2.2.1 (by show (_ : Int) < V 2; omega)) gX3_seek_X1_markNeeded_n109 rfl (by decide +kernel) (by decide +kernel) (by decide +kernel) (by decide +kernel) (by decide) (by decide) [7, 8, 9, 10, 11, 12, 13] [0, 1, 2, 3, 4, 5, 6, 14, 15, 16, 17] rfl rfl rfl rfl (by decide) 0 rfl rfl 2 rfl rfl (Nat.le_of_ble_eq_true rfl) (by decide +kernel) dX3_seek_28 (fun rvu8 wu8 hu8 => ?_)
        obtain ⟨rfl, nd, hcl, rfl⟩ := hu8
        refine jr_perm (ws' := (wC G h (uF (uF F 1 inp) 9 nd) V)) (st := []) [0, 1, 2, 3, 4, 5, 6, 11, 12, 13, 14, 15, 16, 17, 7, 8, 9, 10] rfl rfl ?_
        refine jr_iconst (pc := 31) hh dX3_seek_31 ?_
        refine jr_istore (lv' := [(5, .int (iI 0)), (0, .ref (h 0)), (1, .int (iI (dN : Int))), (2, .int (iI (iN : Int))), (3, .int (iI (tN : Int))), (4, .int (iI goal))]) (pc := 32) hh dX3_seek_32 (by decide) rfl ?_
        refine jr_loc (lv' := [(0, .ref (h 0)), (1, .int (iI (dN : Int))), (2, .int (iI (iN : Int))), (3, .int (iI (tN : Int))), (4, .int (iI goal)), (5, .int (iI 0))]) [1, 2, 3, 4, 5, 0] rfl ?_
        refine jr_lvset (a := 0) (b := (0 : Int)) (lv' := [(0, .ref (h 0)), (1, .int (iI (dN : Int))), (2, .int (iI (iN : Int))), (3, .int (iI (tN : Int))), (4, .int (iI goal)), (5, .int (iI (0 : Int)))]) 5 rfl (by first | rfl | omega) rfl ?_
        refine jr_ws (ws' := (wC G h (uF (uF (uF F 1 inp) 9 nd) 10 (F 10)) V)) rfl ?_
        refine jr_loop (σ := Nat × (Nat → Int) × (Nat → Int)) (fun (x : Nat × (Nat → Int) × (Nat → Int)) => match x with | (v, ip, nm) => (v ≤ 1000) ∧ (∀ j : Nat, (j : Int) < V 3 → j ≠ dN → ip j = F 0 j) ∧ (okIn ip) ∧ (fstP (skP F dN tN iN goal) v = -1)) (fun (x : Nat × (Nat → Int) × (Nat → Int)) => match x with | (v, ip, nm) => 1000 - v) (fun (x : Nat × (Nat → Int) × (Nat → Int)) => match x with | (v, ip, nm) => (wC G h (uF (uF (uF F 1 ip) 9 nd) 10 nm) V)) (fun (x : Nat × (Nat → Int) × (Nat → Int)) => match x with | (v, ip, nm) => [(0, .ref (h 0)), (1, .int (iI (dN : Int))), (2, .int (iI (iN : Int))), (3, .int (iI (tN : Int))), (4, .int (iI goal)), (5, .int (iI (v : Int)))]) (fun (x : Nat × (Nat → Int) × (Nat → Int)) => match x with | (v, ip, nm) => []) ?_ (0, inp, (F 10)) ⟨by (try dsimp only); omega, fun j hj hq => by rw [hfi j hj, drvC_0], hoi, rfl⟩
        rintro ⟨v, ip, nm⟩ ⟨hv, hip, hok, hno⟩ ih9
        dsimp only at ih9 ⊢
        try dsimp only at hv hip hok hno
        refine jr_iload (pc := 34) hh 5 dX3_seek_34 rfl ?_
        refine jr_sipush (pc := 36) hh dX3_seek_36 (by decide) ?_
        refine jr_icmp_gt (tgt := 88) (pc := 39) hh dX3_seek_39 (by decide) ⟨by omega, by omega⟩ ⟨by omega, by omega⟩ (fun c10 => ?_) (fun c10 => ?_)
        · skip
          exact jr_throw (pc := 88) hh hlt htab (cls := "java/util/NoSuchElementException") (names := ["java/lang/RuntimeException", "java/lang/Exception"]) (by decide +kernel) (by decide +kernel) (by decide +kernel) (by decide +kernel) tw_X3_seek_120 tb_120 (by decide) tg_120 dX3_seek_88 dX3_seek_91 dX3_seek_92 dX3_seek_95 ⟨Nat.le_of_ble_eq_true rfl, Nat.le_of_ble_eq_true rfl, Nat.le_of_ble_eq_true rfl, Nat.le_of_ble_eq_true rfl⟩ (Nat.le_of_ble_eq_true rfl) (Nat.le_of_ble_eq_true rfl) ⟨Or.inr ⟨by rw [show v = 1000 by omega] at hno; unfold cdSeek; omega, rfl⟩, _, scr_10 (scr_9 (scr_1 hok)), rfl⟩
        · skip
          refine jr_aload_n (pc := 42) hh 0 dX3_seek_42 rfl rfl ?_
          refine jr_get (v := .ref (h 2)) (pc := 43) hh in_X3_seek_X3 0 rfl rfl 4 (by decide) (by decide +kernel : Cond.fieldLink RX3 34 (TX3 4).1 (TX3 4).2.1 (TX3 4).2.2.1 ∈ wsX3_seek) rfl dX3_seek_43 ?_
          refine jr_iload_n (pc := 46) hh 1 dX3_seek_46 rfl rfl ?_
          refine jr_iload (pc := 47) hh 5 dX3_seek_47 rfl ?_
          refine jr_iast (F := ip) (ws' := (wC G h (uF (uF (uF F 1 (jU ip dN (v : Int))) 9 nd) 10 nm) V)) (pc := 49) hh 2 rfl dN (by omega) (by omega) (by decide) rfl dX3_seek_49 ?_
          have hfj : ∀ j : Nat, (j : Int) < V 3 → jU ip dN (v : Int) j = jU (F 0) dN (v : Int) j := fun j hj => by
            unfold jU
            split
            · rfl
            · exact hip j hj (by assumption)
          refine jr_aload_n (pc := 50) hh 0 dX3_seek_50 rfl rfl ?_
          refine jr_get (v := .ref (h 7)) (pc := 51) hh in_X3_seek_X3 0 rfl rfl 2 (by decide) (by decide +kernel : Cond.fieldLink RX3 23 (TX3 2).1 (TX3 2).2.1 (TX3 2).2.2.1 ∈ wsX3_seek) rfl dX3_seek_51 ?_
          refine jr_iload_n (pc := 54) hh 2 dX3_seek_54 rfl rfl ?_
          refine jr_iload_n (pc := 55) hh 3 dX3_seek_55 rfl rfl ?_
          refine jr_aload_n (pc := 56) hh 0 dX3_seek_56 rfl rfl ?_
          refine jr_get (v := .ref (h 2)) (pc := 57) hh in_X3_seek_X3 0 rfl rfl 4 (by decide) (by decide +kernel : Cond.fieldLink RX3 34 (TX3 4).1 (TX3 4).2.1 (TX3 4).2.2.1 ∈ wsX3_seek) rfl dX3_seek_57 ?_
          have hoi2 : okIn (jU ip dN (v : Int)) := by
            intro j hj
            unfold jU
            split
            · omega
            · exact hok j hj
          refine jr_callVN (pc := 60) hh [.int (iI (iN : Int)), .int (iI (tN : Int)), .ref (h 2)] [] (c_X1_findNeeded l G (fun k => if k = 7 then h 2 else h (7 + k)) (fun k => if k = 6 then (uF (uF (uF F 1 (jU ip dN (v : Int))) 9 nd) 10 nm) 1 else (uF (uF (uF F 1 (jU ip dN (v : Int))) 9 nd) 10 nm) (5 + k)) (fun k => V (2 + k)) iN tN (by omega) hk.2.2.1 (okL_C (F := F) (V := V) hk) hk.2.2.2.2.2.2.2.2.2.1 hoi2 (by show (_ : Int) < V 2; omega) hcl) gX3_seek_X1_findNeeded_n113 rfl (by decide +kernel) (by decide +kernel) (by decide +kernel) (by decide +kernel) (by decide) (by decide) [7, 8, 9, 10, 11, 12, 13, 2] [0, 1, 3, 4, 5, 6, 14, 15, 16, 17] rfl rfl rfl rfl (by decide) 0 rfl rfl 3 rfl rfl (Nat.le_of_ble_eq_true rfl) (by decide +kernel) dX3_seek_60 (fun rvu11 wu11 hu11 => ?_)
          obtain ⟨rfl, nm2, rfl⟩ := hu11
          refine jr_perm (ws' := (wC G h (uF (uF (uF F 1 (jU ip dN (v : Int))) 9 nd) 10 nm2) V)) (st := [.int (iI (enc (lnC (fun k => if k = 6 then (uF (uF (uF F 1 (jU ip dN (v : Int))) 9 nd) 10 nm) 1 else (uF (uF (uF F 1 (jU ip dN (v : Int))) 9 nd) 10 nm) (5 + k)) tN iN)))]) [0, 1, 17, 2, 3, 4, 5, 10, 11, 12, 13, 14, 15, 16, 6, 7, 8, 9] rfl rfl ?_
          have hsr : -1000000000 ≤ enc (skX F dN tN iN v) ∧ enc (skX F dN tN iN v) ≤ 99999999 := enc_range (skX_B hk (by omega) (by omega) (by omega) (by omega))
          refine jr_topi (b := (enc (skX F dN tN iN v))) (congrArg enc (skX_of (F := F) (V := V) hk rfl rfl rfl rfl hfj (by omega))) ?_
          refine jr_istore (lv' := [(6, .int (iI (enc (skX F dN tN iN v)))), (0, .ref (h 0)), (1, .int (iI (dN : Int))), (2, .int (iI (iN : Int))), (3, .int (iI (tN : Int))), (4, .int (iI goal)), (5, .int (iI (v : Int)))]) (pc := 63) hh dX3_seek_63 (by decide) rfl ?_
          refine jr_iload (pc := 65) hh 0 dX3_seek_65 rfl ?_
          refine jr_ldc (z := (-1000000000)) (v := -1000000000) (pc := 67) hh (by decide) (by decide +kernel : Cond.constant RX3 117 (-1000000000) ∈ wsX3_seek) dX3_seek_67 ?_
          refine jr_icmp_eq (tgt := 82) (pc := 69) hh dX3_seek_69 (by decide) ⟨by omega, by omega⟩ ⟨by omega, by omega⟩ (fun c12 => ?_) (fun c12 => ?_)
          · skip
            refine jr_iinc (a := (v : Int)) (b := (((v + 1) : Nat) : Int)) (lv' := [(5, .int (iI (((v + 1) : Nat) : Int))), (6, .int (iI (enc (skX F dN tN iN v)))), (0, .ref (h 0)), (1, .int (iI (dN : Int))), (2, .int (iI (iN : Int))), (3, .int (iI (tN : Int))), (4, .int (iI goal))]) (pc := 82) hh 6 dX3_seek_82 rfl (by omega) (by decide) rfl ?_
            refine jr_goto (tgt := 34) (pc := 85) hh dX3_seek_85 (by decide) ?_
            have hip2 : ∀ j : Nat, (j : Int) < V 3 → j ≠ dN → (jU ip dN (v : Int)) j = F 0 j := fun j hj hq => by rw [jU_n hq]; exact hip j hj hq
            have hno2 : fstP (skP F dN tN iN goal) (v + 1) = -1 := by
              rw [fstP_s, hno, if_neg (by decide)]
              unfold skP
              rw [if_neg (by omega)]
            refine jr_loc (lv' := [(0, .ref (h 0)), (1, .int (iI (dN : Int))), (2, .int (iI (iN : Int))), (3, .int (iI (tN : Int))), (4, .int (iI goal)), (5, .int (iI (((v + 1) : Nat) : Int)))]) [2, 3, 4, 5, 6, 0] rfl ?_
            exact ih9 ((v + 1), (jU ip dN (v : Int)), nm2) ⟨by (try dsimp only); omega, hip2, hoi2, hno2⟩ (by (try dsimp only); omega)
          · skip
            refine jr_iload (pc := 72) hh 0 dX3_seek_72 rfl ?_
            refine jr_iload (pc := 74) hh 5 dX3_seek_74 rfl ?_
            refine jr_icmp_lt (tgt := 82) (pc := 76) hh dX3_seek_76 (by decide) ⟨by omega, by omega⟩ ⟨by omega, by omega⟩ (fun c13 => ?_) (fun c13 => ?_)
            · skip
              refine jr_iinc (a := (v : Int)) (b := (((v + 1) : Nat) : Int)) (lv' := [(5, .int (iI (((v + 1) : Nat) : Int))), (6, .int (iI (enc (skX F dN tN iN v)))), (0, .ref (h 0)), (1, .int (iI (dN : Int))), (2, .int (iI (iN : Int))), (3, .int (iI (tN : Int))), (4, .int (iI goal))]) (pc := 82) hh 6 dX3_seek_82 rfl (by omega) (by decide) rfl ?_
              refine jr_goto (tgt := 34) (pc := 85) hh dX3_seek_85 (by decide) ?_
              have hip2 : ∀ j : Nat, (j : Int) < V 3 → j ≠ dN → (jU ip dN (v : Int)) j = F 0 j := fun j hj hq => by rw [jU_n hq]; exact hip j hj hq
              have hno2 : fstP (skP F dN tN iN goal) (v + 1) = -1 := by
                rw [fstP_s, hno, if_neg (by decide)]
                unfold skP
                rw [if_neg (by omega)]
              refine jr_loc (lv' := [(0, .ref (h 0)), (1, .int (iI (dN : Int))), (2, .int (iI (iN : Int))), (3, .int (iI (tN : Int))), (4, .int (iI goal)), (5, .int (iI (((v + 1) : Nat) : Int)))]) [2, 3, 4, 5, 6, 0] rfl ?_
              exact ih9 ((v + 1), (jU ip dN (v : Int)), nm2) ⟨by (try dsimp only); omega, hip2, hoi2, hno2⟩ (by (try dsimp only); omega)
            · skip
              exfalso
              have hq : fstP (skP F dN tN iN goal) (v + 1) = (v : Int) := by
                rw [fstP_s, hno, if_neg (by decide)]
                unfold skP
                rw [if_pos (by omega)]
              have hu := fstP_up (f := skP F dN tN iN goal) (n := v + 1) (by omega) (1000 - (v + 1))
              rw [show v + 1 + (1000 - (v + 1)) = 1000 by omega] at hu
              unfold cdSeek at hcd
              omega
      · skip
        exact jr_tcallS (pc := 11) hh [.int (iI t)] [] (t_X3_requireMonth l G t ⟨by omega, by omega⟩ (by omega) hlt) gX3_seek_X3_requireMonth rfl (by decide) (by decide) [] [0, 1, 2, 3, 4, 5, 6, 7, 8, 9, 10, 11, 12, 13, 14, 15, 16, 17] rfl rfl rfl rfl (by decide) 1 rfl rfl (Nat.le_of_ble_eq_true rfl) (by decide +kernel) (fun E w1 hx => by obtain ⟨rfl, rfl⟩ := hx; exact ⟨Or.inl ⟨by unfold cdSeek; omega, rfl⟩, F, scr_rf hk, rfl⟩) htab (by decide) (by decide) dX3_seek_11
    · skip
      exact jr_tcallV (pc := 7) hh [.int (iI i)] [] (t_X3_requireLine l G h F V i ⟨by omega, by omega⟩ q3 (by omega) hlt) gX3_seek_X3_requireLine rfl (by decide) (by decide) [0, 1, 2, 3, 4, 5, 6, 7, 8, 9, 10, 11, 12, 13, 14, 15, 16, 17] [] rfl rfl rfl rfl (by decide) 0 rfl rfl 1 rfl rfl (Nat.le_of_ble_eq_true rfl) (by decide +kernel) (fun E w1 hx => by obtain ⟨rfl, rfl⟩ := hx; exact ⟨Or.inl ⟨by unfold cdSeek; omega, rfl⟩, F, scr_rf hk, rfl⟩) htab (by decide) (by decide) dX3_seek_7
  · skip
    exact jr_tcallV (pc := 2) hh [.int (iI d)] [] (t_X3_requireDriver l G h F V d ⟨by omega, by omega⟩ q1 (by omega) hlt) gX3_seek_X3_requireDriver rfl (by decide) (by decide) [0, 1, 2, 3, 4, 5, 6, 7, 8, 9, 10, 11, 12, 13, 14, 15, 16, 17] [] rfl rfl rfl rfl (by decide) 0 rfl rfl 1 rfl rfl (Nat.le_of_ble_eq_true rfl) (by decide +kernel) (fun E w1 hx => by obtain ⟨rfl, rfl⟩ := hx; exact ⟨Or.inl ⟨by unfold cdSeek; omega, rfl⟩, F, scr_rf hk, rfl⟩) htab (by decide) (by decide) dX3_seek_2
