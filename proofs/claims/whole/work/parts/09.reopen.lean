/-! CostStudio.reopenDrifted -/
def dftC (F : Nat → Nat → Int) (V : Nat → Int) (c : Nat) : Int := if ((c / 12 : Nat) : Int) < V 2 then ropB (F 11) c (enc (nmC F 0 (c % 12) 6 (c / 12))) (F 12 c) (F 13 c) else 0
def stC (F : Nat → Nat → Int) (V : Nat → Int) (c : Nat) : Int := if dftC F V c = 1 then 111 else F 11 c
def rowC (F : Nat → Nat → Int) (V : Nat → Int) (t : Nat) : Int := sumTo (fun i => dftC F V (i * 12 + t)) (V 2).toNat
def cntC (F : Nat → Nat → Int) (V : Nat → Int) : Int := sumTo (rowC F V) 12
theorem dftC_01 (F : Nat → Nat → Int) (V : Nat → Int) (c : Nat) : dftC F V c = 0 ∨ dftC F V c = 1 := by
  unfold dftC
  split
  · exact ropB_01 _ _ _ _ _
  · exact Or.inl rfl
theorem rowC_B {F : Nat → Nat → Int} {V : Nat → Int} (h : 0 ≤ V 2 ∧ V 2 ≤ 10) (t : Nat) : 0 ≤ rowC F V t ∧ rowC F V t ≤ 10 := by
  have h1 := sumTo_bound (f := fun i => dftC F V (i * 12 + t)) (a := 0) (b := 1) (n := (V 2).toNat) (fun k _ => by rcases dftC_01 F V (k * 12 + t) with q | q <;> omega)
  unfold rowC
  omega
theorem cntC_B {F : Nat → Nat → Int} {V : Nat → Int} (h : 0 ≤ V 2 ∧ V 2 ≤ 10) (n : Nat) : 0 ≤ sumTo (rowC F V) n ∧ sumTo (rowC F V) n ≤ (n : Int) * 10 := by
  have h1 := sumTo_bound (f := rowC F V) (a := 0) (b := 10) (n := n) (fun k _ => rowC_B h k)
  omega
theorem nmC_congr {F F' : Nat → Nat → Int} (h0 : F' 0 = F 0) (h2 : F' 2 = F 2) (h4 : F' 4 = F 4) (h5 : F' 5 = F 5) (h6 : F' 6 = F 6) (h7 : F' 7 = F 7) (h8 : F' 8 = F 8) (s m cd i : Nat) : nmC F' s m cd i = nmC F s m cd i := by
  unfold nmC drvC valC
  rw [h0, h2, h4, h5, h6, h7, h8]
/-- the cells behind the months below n: all else but the rows of its own is as it was -/
def scS (F F' : Nat → Nat → Int) (V : Nat → Int) (n : Nat) : Prop := (∀ k : Nat, k ≠ 1 → k ≠ 9 → k ≠ 10 → k ≠ 11 → F' k = F k) ∧ okIn (F' 1) ∧ ∀ c : Nat, F' 11 c = if c % 12 < n then stC F V c else F 11 c
theorem stC_B {F : Nat → Nat → Int} {V : Nat → Int} (h : okC F V) {c : Nat} (hc : c < 120) : 0 ≤ stC F V c ∧ stC F V c ≤ 65535 := by
  have := (h.2.2.2.2.2.2.2.2.2.2.2 c hc).1
  unfold stC
  split <;> omega
theorem okC_scS {F F' : Nat → Nat → Int} {V : Nat → Int} {n : Nat} (h : okC F V) (hs : scS F F' V n) : okC F' V := by
  obtain ⟨e, hi, h11⟩ := hs
  have e0 := e 0 (by decide) (by decide) (by decide) (by decide)
  have e2 := e 2 (by decide) (by decide) (by decide) (by decide)
  have e4 := e 4 (by decide) (by decide) (by decide) (by decide)
  have e5 := e 5 (by decide) (by decide) (by decide) (by decide)
  have e6 := e 6 (by decide) (by decide) (by decide) (by decide)
  have e7 := e 7 (by decide) (by decide) (by decide) (by decide)
  have e8 := e 8 (by decide) (by decide) (by decide) (by decide)
  have e12 := e 12 (by decide) (by decide) (by decide) (by decide)
  have e13 := e 13 (by decide) (by decide) (by decide) (by decide)
  have hst : ∀ c : Nat, c < 120 → (0 ≤ F' 11 c ∧ F' 11 c ≤ 65535) ∧ (-99999999 ≤ F 12 c ∧ F 12 c ≤ 99999999) ∧ (0 ≤ F 13 c ∧ F 13 c ≤ 9999) := fun c hc => by
    have h1 := h.2.2.2.2.2.2.2.2.2.2.2 c hc
    have h2 := stC_B h hc
    refine ⟨?_, h1.2⟩
    rw [h11 c]
    split
    · exact h2
    · exact h1.1
  unfold okC at h ⊢
  rw [e0, e2, e4, e5, e6, e7, e8, e12, e13]
  exact ⟨h.1, h.2.1, h.2.2.1, h.2.2.2.1, h.2.2.2.2.1, h.2.2.2.2.2.1, h.2.2.2.2.2.2.1, h.2.2.2.2.2.2.2.1, h.2.2.2.2.2.2.2.2.1, h.2.2.2.2.2.2.2.2.2.1, hi, hst⟩
theorem nmC_scS {F F' : Nat → Nat → Int} {V : Nat → Int} {n : Nat} (hs : scS F F' V n) (s m cd i : Nat) : nmC F' s m cd i = nmC F s m cd i := by
  obtain ⟨e, -⟩ := hs
  exact nmC_congr (e 0 (by decide) (by decide) (by decide) (by decide)) (e 2 (by decide) (by decide) (by decide) (by decide)) (e 4 (by decide) (by decide) (by decide) (by decide)) (e 5 (by decide) (by decide) (by decide) (by decide)) (e 6 (by decide) (by decide) (by decide) (by decide)) (e 7 (by decide) (by decide) (by decide) (by decide)) (e 8 (by decide) (by decide) (by decide) (by decide)) s m cd i
/-- one place more of a month -/
theorem stC_step {F : Nat → Nat → Int} {V : Nat → Int} {m i : Nat} {st : Nat → Int} {n : Int} (hm : m < 12) (hi : (i : Int) < V 2) (hst : ∀ c : Nat, st c = if c % 12 < m ∨ (c % 12 = m ∧ c / 12 < i) then stC F V c else F 11 c) (hn : n = enc (nmC F 0 m 6 i)) :
    ropB st (i * 12 + m) n (F 12 (i * 12 + m)) (F 13 (i * 12 + m)) = dftC F V (i * 12 + m) ∧ ∀ c : Nat, rop st (i * 12 + m) n (F 12 (i * 12 + m)) (F 13 (i * 12 + m)) c = if c % 12 < m ∨ (c % 12 = m ∧ c / 12 < i + 1) then stC F V c else F 11 c := by
  have e1 : (i * 12 + m) / 12 = i := by omega
  have e2 : (i * 12 + m) % 12 = m := by omega
  have h1 : st (i * 12 + m) = F 11 (i * 12 + m) := by rw [hst, if_neg (by omega)]
  have hB : ropB st (i * 12 + m) n (F 12 (i * 12 + m)) (F 13 (i * 12 + m)) = dftC F V (i * 12 + m) := by
    unfold dftC ropB
    rw [e1, e2, if_pos hi, h1, hn]
  refine ⟨hB, fun c => ?_⟩
  by_cases hc : c = i * 12 + m
  · subst hc
    rw [if_pos (by omega)]
    unfold stC
    rw [← hB]
    unfold rop ropB
    by_cases hq : st (i * 12 + m) = 97 ∧ drf n (F 12 (i * 12 + m)) (F 13 (i * 12 + m)) = 1
    · rw [if_pos hq, if_pos hq, if_pos rfl, jU_s]
    · rw [if_neg hq, if_neg hq, if_neg (by decide), h1]
  · have h2 : rop st (i * 12 + m) n (F 12 (i * 12 + m)) (F 13 (i * 12 + m)) c = st c := by
      unfold rop
      split
      · exact jU_n hc
      · rfl
    rw [h2, hst]
    by_cases hq : c % 12 < m ∨ (c % 12 = m ∧ c / 12 < i)
    · rw [if_pos hq, if_pos (by omega)]
    · rw [if_neg hq, if_neg (by omega)]
set_option maxRecDepth 20000 in
theorem in_X3_reopenDrifted_X3 : ∀ w ∈ u_ws RX3 TX3 7, w ∈ wsX3_reopenDrifted := by decide +kernel
set_option maxRecDepth 20000 in
theorem in_X3_reopenDrifted_X1 : ∀ w ∈ u_ws RX1 TX1 7, w ∈ wsX3_reopenDrifted := by decide +kernel
set_option maxHeartbeats 4000000 in
set_option maxRecDepth 100000 in
theorem c_X3_reopenDrifted (l : Launch) (G : jG) (h : Nat → Nat) (F : Nat → Nat → Int) (V : Nat → Int) (hk : okC F V) : jMet l yX3_reopenDrifted wsX3_reopenDrifted { frames := 5, cells := 0, slots := 0, locals := 240 } G (wC G h F V) [.ref (h 0)] (fun rv w1 => rv = some (.int (iI (cntC F V))) ∧ ∃ F' : Nat → Nat → Int, scS F F' V 12 ∧ w1 = wC G h F' V) := by
  refine jMet_of (cc := cX3_reopenDrifted) (maxL := 4) (ret := (some .int)) (by decide +kernel) rfl (Nat.le_of_ble_eq_true rfl) ?_
  intro p e s m args below meth c A hh hret hinit
  refine jr_loc (lv' := [(0, .ref (h 0))]) [0] rfl ?_
  have hV0 := hk.1
  have hV2 := hk.2.2.1
  refine jr_iconst (pc := 0) hh dX3_reopenDrifted_0 ?_
  refine jr_istore_n (lv' := [(1, .int (iI 0)), (0, .ref (h 0))]) (pc := 1) hh dX3_reopenDrifted_1 rfl (by decide) rfl ?_
  refine jr_iconst (pc := 2) hh dX3_reopenDrifted_2 ?_
  refine jr_istore_n (lv' := [(2, .int (iI 0)), (1, .int (iI 0)), (0, .ref (h 0))]) (pc := 3) hh dX3_reopenDrifted_3 rfl (by decide) rfl ?_
  refine jr_loc (lv' := [(0, .ref (h 0)), (1, .int (iI 0)), (2, .int (iI 0))]) [2, 1, 0] rfl ?_
  refine jr_lvset (a := 0) (b := (0 : Int)) (lv' := [(0, .ref (h 0)), (1, .int (iI 0)), (2, .int (iI (0 : Int)))]) 2 rfl (by first | rfl | omega) rfl ?_
  refine jr_loop (σ := Nat × (Nat → Nat → Int) × Int) (fun (x : Nat × (Nat → Nat → Int) × Int) => match x with | (m0, Fm, ct) => (m0 ≤ 12) ∧ (scS F Fm V m0) ∧ (ct = sumTo (rowC F V) m0)) (fun (x : Nat × (Nat → Nat → Int) × Int) => match x with | (m0, Fm, ct) => 12 - m0) (fun (x : Nat × (Nat → Nat → Int) × Int) => match x with | (m0, Fm, ct) => (wC G h Fm V)) (fun (x : Nat × (Nat → Nat → Int) × Int) => match x with | (m0, Fm, ct) => [(0, .ref (h 0)), (1, .int (iI ct)), (2, .int (iI (m0 : Int)))]) (fun (x : Nat × (Nat → Nat → Int) × Int) => match x with | (m0, Fm, ct) => []) ?_ (0, F, 0) ⟨by (try dsimp only); omega, ⟨fun _ _ _ _ _ => rfl, hk.2.2.2.2.2.2.2.2.2.2.1, fun c => by rw [if_neg (by (try dsimp only); omega)]⟩, rfl⟩
  rintro ⟨m0, Fm, ct⟩ ⟨hm, hsc, hct⟩ ih1
  dsimp only at ih1 ⊢
  try dsimp only at hm hsc hct
  have hk2 := okC_scS hk hsc
  have hcb := cntC_B (F := F) hV2 m0
  refine jr_iload_n (pc := 4) hh 2 dX3_reopenDrifted_4 rfl rfl ?_
  refine jr_bipush (pc := 5) hh dX3_reopenDrifted_5 (by decide) ?_
  refine jr_icmp_ge (tgt := 82) (pc := 7) hh dX3_reopenDrifted_7 (by decide) ⟨by omega, by omega⟩ ⟨by omega, by omega⟩ (fun c2 => ?_) (fun c2 => ?_)
  · skip
    refine jr_iload_n (pc := 82) hh 1 dX3_reopenDrifted_82 rfl rfl ?_
    exact jr_iret (pc := 83) hh hret rfl ⟨jsi (by rw [hct, show m0 = 12 by omega]; rfl), Fm, by rw [show m0 = 12 by omega] at hsc; exact hsc, rfl⟩ (by decide) (by decide) dX3_reopenDrifted_83
  · skip
    refine jr_aload_n (pc := 10) hh 0 dX3_reopenDrifted_10 rfl rfl ?_
    refine jr_iconst (pc := 11) hh dX3_reopenDrifted_11 ?_
    refine jr_iload_n (pc := 12) hh 2 dX3_reopenDrifted_12 rfl rfl ?_
    refine jr_bipush (pc := 13) hh dX3_reopenDrifted_13 (by decide) ?_
    refine jr_callV (pc := 15) hh [.int (iI 0), .int (iI (m0 : Int)), .int (iI 6)] [] (c_X3_fillInputs l G h Fm V 0 m0 6 hk2 (by omega) (by omega) (by omega)) gX3_reopenDrifted_X3_fillInputs rfl (by decide) (by decide) [0, 1, 2, 3, 4, 5, 6, 7, 8, 9, 10, 11, 12, 13, 14, 15, 16, 17] [] rfl rfl rfl rfl (by decide) 0 rfl rfl 3 rfl rfl (Nat.le_of_ble_eq_true rfl) (by decide +kernel) dX3_reopenDrifted_15 (fun rvu3 wu3 hu3 => ?_)
    obtain ⟨rfl, inp2, hfinp2, hoinp2, rfl⟩ := hu3
    refine jr_perm (ws' := (wC G h (uF Fm 1 inp2) V)) (st := []) [0, 1, 2, 3, 4, 5, 6, 7, 8, 9, 10, 11, 12, 13, 14, 15, 16, 17] rfl rfl ?_
    refine jr_aload_n (pc := 18) hh 0 dX3_reopenDrifted_18 rfl rfl ?_
    refine jr_get (v := .ref (h 7)) (pc := 19) hh in_X3_reopenDrifted_X3 0 rfl rfl 2 (by decide) (by decide +kernel : Cond.fieldLink RX3 23 (TX3 2).1 (TX3 2).2.1 (TX3 2).2.2.1 ∈ wsX3_reopenDrifted) rfl dX3_reopenDrifted_19 ?_
    refine jr_iload_n (pc := 22) hh 2 dX3_reopenDrifted_22 rfl rfl ?_
    refine jr_aload_n (pc := 23) hh 0 dX3_reopenDrifted_23 rfl rfl ?_
    refine jr_get (v := .ref (h 2)) (pc := 24) hh in_X3_reopenDrifted_X3 0 rfl rfl 4 (by decide) (by decide +kernel : Cond.fieldLink RX3 34 (TX3 4).1 (TX3 4).2.1 (TX3 4).2.2.1 ∈ wsX3_reopenDrifted) rfl dX3_reopenDrifted_24 ?_
    refine jr_callVN (pc := 27) hh [.int (iI (m0 : Int)), .ref (h 2)] [] (c_X1_findAll l G (fun k => if k = 7 then h 2 else h (7 + k)) (fun k => if k = 6 then (uF Fm 1 inp2) 1 else (uF Fm 1 inp2) (5 + k)) (fun k => V (2 + k)) m0 (by omega) hk2.2.2.1 (okL_C (F := Fm) (V := V) hk2) hk2.2.2.2.2.2.2.2.2.2.1 hoinp2) gX3_reopenDrifted_X1_findAll_n102 rfl (by decide +kernel) (by decide +kernel) (by decide +kernel) (by decide +kernel) (by decide) (by decide) [7, 8, 9, 10, 11, 12, 13, 2] [0, 1, 3, 4, 5, 6, 14, 15, 16, 17] rfl rfl rfl rfl (by decide) 0 rfl rfl 2 rfl rfl (Nat.le_of_ble_eq_true rfl) (by decide +kernel) dX3_reopenDrifted_27 (fun rvu4 wu4 hu4 => ?_)
    obtain ⟨rfl, nm, hnm, rfl⟩ := hu4
    refine jr_perm (ws' := (wC G h (uF (uF Fm 1 inp2) 10 nm) V)) (st := []) [0, 1, 17, 2, 3, 4, 5, 10, 11, 12, 13, 14, 15, 16, 6, 7, 8, 9] rfl rfl ?_
    have hnm2 : ∀ j : Nat, (j : Int) < V 2 → nm j = enc (nmC F 0 m0 6 j) := fun j hj => by
      rw [hnm j hj, lnC_nmC (F := Fm) (V := V) (s := 0) (cd := 6) hk2 rfl rfl rfl rfl hfinp2 hj]
      exact congrArg enc (nmC_scS hsc 0 m0 6 j)
    refine jr_iconst (pc := 30) hh dX3_reopenDrifted_30 ?_
    refine jr_istore_n (lv' := [(3, .int (iI 0)), (0, .ref (h 0)), (1, .int (iI ct)), (2, .int (iI (m0 : Int)))]) (pc := 31) hh dX3_reopenDrifted_31 rfl (by decide) rfl ?_
    refine jr_loc (lv' := [(0, .ref (h 0)), (1, .int (iI ct)), (2, .int (iI (m0 : Int))), (3, .int (iI 0))]) [1, 2, 3, 0] rfl ?_
    refine jr_lvset (a := 0) (b := (0 : Int)) (lv' := [(0, .ref (h 0)), (1, .int (iI ct)), (2, .int (iI (m0 : Int))), (3, .int (iI (0 : Int)))]) 3 rfl (by first | rfl | omega) rfl ?_
    refine jr_ws (ws' := (wC G h (uF (uF (uF Fm 1 inp2) 10 nm) 11 (Fm 11)) V)) rfl ?_
    refine jr_loop (σ := Nat × (Nat → Int) × Int) (fun (x : Nat × (Nat → Int) × Int) => match x with | (i, st, ct) => ((i : Int) ≤ V 2) ∧ (∀ c : Nat, st c = if c % 12 < m0 ∨ (c % 12 = m0 ∧ c / 12 < i) then stC F V c else F 11 c) ∧ (ct = sumTo (rowC F V) m0 + sumTo (fun j => dftC F V (j * 12 + m0)) i)) (fun (x : Nat × (Nat → Int) × Int) => match x with | (i, st, ct) => (V 2).toNat - i) (fun (x : Nat × (Nat → Int) × Int) => match x with | (i, st, ct) => (wC G h (uF (uF (uF Fm 1 inp2) 10 nm) 11 st) V)) (fun (x : Nat × (Nat → Int) × Int) => match x with | (i, st, ct) => [(0, .ref (h 0)), (1, .int (iI ct)), (2, .int (iI (m0 : Int))), (3, .int (iI (i : Int)))]) (fun (x : Nat × (Nat → Int) × Int) => match x with | (i, st, ct) => []) ?_ (0, (Fm 11), ct) ⟨by (try dsimp only); omega, fun c => (hsc.2.2 c).trans (if q : c % 12 < m0 then (by rw [if_pos q, if_pos (Or.inl q)]) else (by rw [if_neg q, if_neg (by simp only [Nat.not_lt_zero, and_false, or_false]; exact q)])), by rw [sumTo_0, Int.add_zero]; exact hct⟩
    rintro ⟨i, st, ct⟩ ⟨hi, hst, hct⟩ ih5
    dsimp only at ih5 ⊢
    try dsimp only at hi hst hct
    have hib := sumTo_bound (f := fun j => dftC F V (j * 12 + m0)) (a := 0) (b := 1) (n := i) (fun k _ => by rcases dftC_01 F V (k * 12 + m0) with q | q <;> omega)
    refine jr_iload_n (pc := 32) hh 3 dX3_reopenDrifted_32 rfl rfl ?_
    refine jr_aload_n (pc := 33) hh 0 dX3_reopenDrifted_33 rfl rfl ?_
    refine jr_get (v := .ref (h 7)) (pc := 34) hh in_X3_reopenDrifted_X3 0 rfl rfl 2 (by decide) (by decide +kernel : Cond.fieldLink RX3 23 (TX3 2).1 (TX3 2).2.1 (TX3 2).2.2.1 ∈ wsX3_reopenDrifted) rfl dX3_reopenDrifted_34 ?_
    refine jr_getN (v := .int (iI (V 2))) (pc := 37) hh in_X3_reopenDrifted_X1 7 rfl rfl 6 (by decide) rfl (by decide +kernel) rfl dX3_reopenDrifted_37 ?_
    refine jr_icmp_ge (tgt := 76) (pc := 40) hh dX3_reopenDrifted_40 (by decide) ⟨by omega, by omega⟩ ⟨by omega, by omega⟩ (fun c6 => ?_) (fun c6 => ?_)
    · skip
      refine jr_iinc (a := (m0 : Int)) (b := (((m0 + 1) : Nat) : Int)) (lv' := [(2, .int (iI (((m0 + 1) : Nat) : Int))), (0, .ref (h 0)), (1, .int (iI ct)), (3, .int (iI (i : Int)))]) (pc := 76) hh 2 dX3_reopenDrifted_76 rfl (by omega) (by decide) rfl ?_
      refine jr_goto (tgt := 4) (pc := 79) hh dX3_reopenDrifted_79 (by decide) ?_
      have hiV : i = (V 2).toNat := by omega
      have hsc2 : scS F (uF (uF (uF Fm 1 inp2) 10 nm) 11 st) V (m0 + 1) := by
        refine ⟨fun k a b c d => ?_, hoinp2, fun c => ?_⟩
        · rw [uF_n d, uF_n c, uF_n a]; exact hsc.1 k a b c d
        · rw [uF_s, hst]
          by_cases hq : c % 12 < m0 ∨ (c % 12 = m0 ∧ c / 12 < i)
          · rw [if_pos hq, if_pos (by omega)]
          · rw [if_neg hq]
            by_cases hq2 : c % 12 < m0 + 1
            · have hz : dftC F V c = 0 := by unfold dftC; exact if_neg (by omega)
              rw [if_pos hq2]; unfold stC; rw [hz, if_neg (by decide)]
            · rw [if_neg hq2]
      have hct2 : ct = sumTo (rowC F V) (m0 + 1) := by rw [sumTo_s, hct, hiV]; rfl
      refine jr_loc (lv' := [(0, .ref (h 0)), (1, .int (iI ct)), (2, .int (iI (((m0 + 1) : Nat) : Int)))]) [1, 2, 0] rfl ?_
      exact ih1 ((m0 + 1), (uF (uF (uF Fm 1 inp2) 10 nm) 11 st), ct) ⟨by (try dsimp only); omega, hsc2, hct2⟩ (by (try dsimp only); omega)
    · skip
      refine jr_aload_n (pc := 43) hh 0 dX3_reopenDrifted_43 rfl rfl ?_
      refine jr_get (v := .ref (h 14)) (pc := 44) hh in_X3_reopenDrifted_X3 0 rfl rfl 3 (by decide) (by decide +kernel : Cond.fieldLink RX3 30 (TX3 3).1 (TX3 3).2.1 (TX3 3).2.2.1 ∈ wsX3_reopenDrifted) rfl dX3_reopenDrifted_44 ?_
      refine jr_iload_n (pc := 47) hh 3 dX3_reopenDrifted_47 rfl rfl ?_
      refine jr_iload_n (pc := 48) hh 2 dX3_reopenDrifted_48 rfl rfl ?_
      refine jr_callS (pc := 49) hh [.int (iI (i : Int)), .int (iI (m0 : Int))] [.ref (h 14)] (c_X3_cell l G i m0) gX3_reopenDrifted_X3_cell rfl (by decide) (by decide) [] [0, 1, 2, 3, 4, 5, 6, 7, 8, 9, 10, 11, 12, 13, 14, 15, 16, 17] rfl rfl rfl rfl (by decide) 2 rfl rfl (Nat.le_of_ble_eq_true rfl) (by decide +kernel) dX3_reopenDrifted_49 (fun rvu7 wu7 hu7 => ?_)
      obtain ⟨rfl, rfl⟩ := hu7
      refine jr_perm (ws' := (wC G h (uF (uF (uF Fm 1 inp2) 10 nm) 11 st) V)) (st := [.int (iI ((i * 12 + m0 : Nat) : Int)), .ref (h 14)]) [0, 1, 2, 3, 4, 5, 6, 7, 8, 9, 10, 11, 12, 13, 14, 15, 16, 17] rfl rfl ?_
      refine jr_aload_n (pc := 52) hh 0 dX3_reopenDrifted_52 rfl rfl ?_
      refine jr_get (v := .ref (h 7)) (pc := 53) hh in_X3_reopenDrifted_X3 0 rfl rfl 2 (by decide) (by decide +kernel : Cond.fieldLink RX3 23 (TX3 2).1 (TX3 2).2.1 (TX3 2).2.2.1 ∈ wsX3_reopenDrifted) rfl dX3_reopenDrifted_53 ?_
      refine jr_getN (v := .ref (h 13)) (pc := 56) hh in_X3_reopenDrifted_X1 7 rfl rfl 5 (by decide) rfl (by decide +kernel) rfl dX3_reopenDrifted_56 ?_
      refine jr_iload_n (pc := 59) hh 3 dX3_reopenDrifted_59 rfl rfl ?_
      refine jr_iald (F := nm) (pc := 60) hh 13 rfl i (by omega) (by omega) (by decide) dX3_reopenDrifted_60 ?_
      have hk120 : i * 12 + m0 < 120 := by omega
      have hA9 := hk2.2.2.2.2.2.2.2.2.2.2.2 (i * 12 + m0) hk120
      have hnr := enc_range (nmC_B hk (s := 0) (i := i) (m := m0) (cd := 6) (by omega) (by omega) (by omega))
      have hni := hnm2 i (by omega)
      have hstk : 0 ≤ st (i * 12 + m0) ∧ st (i * 12 + m0) ≤ 65535 := by rw [hst, if_neg (by omega)]; exact (hk.2.2.2.2.2.2.2.2.2.2.2 _ hk120).1
      have hsp := stC_step (F := F) (V := V) (st := st) (n := nm i) (by omega) (by omega) hst hni
      refine jr_callVN (pc := 61) hh [.int (iI ((i * 12 + m0 : Nat) : Int)), .int (iI (nm i))] [] (c_X0_reopenIfDrifted l G (fun k => h (14 + k)) (fun k => (uF (uF (uF Fm 1 inp2) 10 nm) 11 st) (11 + k)) (i * 12 + m0) (nm i) (by omega) (by omega) hstk hA9.2.1 hA9.2.2) gX3_reopenDrifted_X0_reopenIfDrifted_n159 rfl (by decide +kernel) (by decide +kernel) (by decide +kernel) (by decide +kernel) (by decide) (by decide) [14, 15, 16, 17] [0, 1, 2, 3, 4, 5, 6, 7, 8, 9, 10, 11, 12, 13] rfl rfl rfl rfl (by decide) 0 rfl rfl 2 rfl rfl (Nat.le_of_ble_eq_true rfl) (by decide +kernel) dX3_reopenDrifted_61 (fun rvu8 wu8 hu8 => ?_)
      obtain ⟨rfl, rfl⟩ := hu8
      refine jr_perm (ws' := (wC G h (uF (uF (uF Fm 1 inp2) 10 nm) 11 (rop st ((i * 12 + m0)) (nm i) ((Fm 12) ((i * 12 + m0))) ((Fm 13) ((i * 12 + m0))))) V)) (st := [.int (iI (ropB st ((i * 12 + m0)) (nm i) ((Fm 12) ((i * 12 + m0))) ((Fm 13) ((i * 12 + m0)))))]) [0, 1, 2, 3, 4, 5, 6, 7, 8, 9, 10, 11, 12, 13, 14, 15, 16, 17] rfl rfl ?_
      have h12 : Fm 12 = F 12 := hsc.1 12 (by decide) (by decide) (by decide) (by decide)
      have h13 : Fm 13 = F 13 := hsc.1 13 (by decide) (by decide) (by decide) (by decide)
      have hro : ropB st ((i * 12 + m0)) (nm i) ((Fm 12) ((i * 12 + m0))) ((Fm 13) ((i * 12 + m0))) = dftC F V ((i * 12 + m0)) := by rw [h12, h13]; exact hsp.1
      have hd01 := dftC_01 F V ((i * 12 + m0))
      refine jr_if_eq (tgt := 70) (pc := 64) hh dX3_reopenDrifted_64 (by decide) ⟨by omega, by omega⟩ (fun c9 => ?_) (fun c9 => ?_)
      · skip
        refine jr_iinc (a := (i : Int)) (b := (((i + 1) : Nat) : Int)) (lv' := [(3, .int (iI (((i + 1) : Nat) : Int))), (0, .ref (h 0)), (1, .int (iI ct)), (2, .int (iI (m0 : Int)))]) (pc := 70) hh 3 dX3_reopenDrifted_70 rfl (by omega) (by decide) rfl ?_
        refine jr_goto (tgt := 32) (pc := 73) hh dX3_reopenDrifted_73 (by decide) ?_
        have hst2 : ∀ c : Nat, (rop st ((i * 12 + m0)) (nm i) ((Fm 12) ((i * 12 + m0))) ((Fm 13) ((i * 12 + m0)))) c = if c % 12 < m0 ∨ (c % 12 = m0 ∧ c / 12 < i + 1) then stC F V c else F 11 c := by rw [h12, h13]; exact hsp.2
        have hct2 : ct = sumTo (rowC F V) m0 + sumTo (fun j => dftC F V (j * 12 + m0)) (i + 1) := by rw [sumTo_s]; omega
        refine jr_loc (lv' := [(0, .ref (h 0)), (1, .int (iI ct)), (2, .int (iI (m0 : Int))), (3, .int (iI (((i + 1) : Nat) : Int)))]) [1, 2, 3, 0] rfl ?_
        exact ih5 ((i + 1), (rop st ((i * 12 + m0)) (nm i) ((Fm 12) ((i * 12 + m0))) ((Fm 13) ((i * 12 + m0)))), ct) ⟨by (try dsimp only); omega, hst2, hct2⟩ (by (try dsimp only); omega)
      · skip
        refine jr_iinc (a := ct) (b := (ct + 1)) (lv' := [(1, .int (iI (ct + 1))), (0, .ref (h 0)), (2, .int (iI (m0 : Int))), (3, .int (iI (i : Int)))]) (pc := 67) hh 1 dX3_reopenDrifted_67 rfl (by omega) (by decide) rfl ?_
        refine jr_iinc (a := (i : Int)) (b := (((i + 1) : Nat) : Int)) (lv' := [(3, .int (iI (((i + 1) : Nat) : Int))), (1, .int (iI (ct + 1))), (0, .ref (h 0)), (2, .int (iI (m0 : Int)))]) (pc := 70) hh 3 dX3_reopenDrifted_70 rfl (by omega) (by decide) rfl ?_
        refine jr_goto (tgt := 32) (pc := 73) hh dX3_reopenDrifted_73 (by decide) ?_
        have hst2 : ∀ c : Nat, (rop st ((i * 12 + m0)) (nm i) ((Fm 12) ((i * 12 + m0))) ((Fm 13) ((i * 12 + m0)))) c = if c % 12 < m0 ∨ (c % 12 = m0 ∧ c / 12 < i + 1) then stC F V c else F 11 c := by rw [h12, h13]; exact hsp.2
        have hct2 : (ct + 1) = sumTo (rowC F V) m0 + sumTo (fun j => dftC F V (j * 12 + m0)) (i + 1) := by rw [sumTo_s]; omega
        refine jr_loc (lv' := [(0, .ref (h 0)), (1, .int (iI (ct + 1))), (2, .int (iI (m0 : Int))), (3, .int (iI (((i + 1) : Nat) : Int)))]) [2, 1, 3, 0] rfl ?_
        exact ih5 ((i + 1), (rop st ((i * 12 + m0)) (nm i) ((Fm 12) ((i * 12 + m0))) ((Fm 13) ((i * 12 + m0)))), (ct + 1)) ⟨by (try dsimp only); omega, hst2, hct2⟩ (by (try dsimp only); omega)
