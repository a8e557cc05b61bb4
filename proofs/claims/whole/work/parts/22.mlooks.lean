/-! the reference: looks -/
def dftM (F : Nat → Nat → Int) (V : Nat → Int) (c : Nat) : Int := if ((c / 12 : Nat) : Int) < V 2 then ropB (F 14) c (enc (nmM F V 0 (c % 12) 6 (c / 12))) (F 10 c) (F 11 c) else 0
def stM (F : Nat → Nat → Int) (V : Nat → Int) (c : Nat) : Int := if dftM F V c = 1 then 111 else F 14 c
def rowM (F : Nat → Nat → Int) (V : Nat → Int) (i : Nat) : Int := sumTo (fun t => dftM F V (i * 12 + t)) 12
def cntM (F : Nat → Nat → Int) (V : Nat → Int) : Int := sumTo (rowM F V) (V 2).toNat
theorem dftM_01 (F : Nat → Nat → Int) (V : Nat → Int) (c : Nat) : dftM F V c = 0 ∨ dftM F V c = 1 := by
  unfold dftM
  split
  · exact ropB_01 _ _ _ _ _
  · exact Or.inl rfl
theorem rowM_B (F : Nat → Nat → Int) (V : Nat → Int) (i n : Nat) : 0 ≤ sumTo (fun t => dftM F V (i * 12 + t)) n ∧ sumTo (fun t => dftM F V (i * 12 + t)) n ≤ n := by
  have h1 := sumTo_bound (f := fun t => dftM F V (i * 12 + t)) (a := 0) (b := 1) (n := n) (fun k _ => by rcases dftM_01 F V (i * 12 + k) with q | q <;> omega)
  omega
theorem cntM_B (F : Nat → Nat → Int) (V : Nat → Int) (n : Nat) : 0 ≤ sumTo (rowM F V) n ∧ sumTo (rowM F V) n ≤ (n : Int) * 12 := by
  have h1 := sumTo_bound (f := rowM F V) (a := 0) (b := 12) (n := n) (fun k _ => rowM_B F V k 12)
  omega
theorem okM_st {F : Nat → Nat → Int} {V : Nat → Int} {isf st : Nat → Int} (h : okM F V) (hst : ∀ c : Nat, st c = F 14 c ∨ st c = 111) : okM (uF (uF F 13 isf) 14 st) V := by
  refine ⟨h.1, h.2.1, h.2.2.1, h.2.2.2.1, h.2.2.2.2.1, h.2.2.2.2.2.1, h.2.2.2.2.2.2.1, h.2.2.2.2.2.2.2.1, h.2.2.2.2.2.2.2.2.1, fun c hc => ?_⟩
  have h1 := h.2.2.2.2.2.2.2.2.2 c hc
  refine ⟨h1.1, h1.2.1, h1.2.2.1, h1.2.2.2.1, ?_⟩
  show st c = 45 ∨ st c = 97 ∨ st c = 111
  have := hst c
  omega
theorem stM_step {F : Nat → Nat → Int} {V : Nat → Int} {t i : Nat} {st : Nat → Int} (ht : t < 12) (hi : (i : Int) < V 2) (hst : ∀ c : Nat, st c = if c / 12 < i ∨ (c / 12 = i ∧ c % 12 < t) then stM F V c else F 14 c) :
    (st (i * 12 + t) = F 14 (i * 12 + t)) ∧ (dftM F V (i * 12 + t) = ropB (F 14) (i * 12 + t) (enc (nmM F V 0 t 6 i)) (F 10 (i * 12 + t)) (F 11 (i * 12 + t))) ∧
    (dftM F V (i * 12 + t) = 0 → ∀ c : Nat, st c = if c / 12 < i ∨ (c / 12 = i ∧ c % 12 < t + 1) then stM F V c else F 14 c) ∧
    (dftM F V (i * 12 + t) = 1 → ∀ c : Nat, jU st (i * 12 + t) 111 c = if c / 12 < i ∨ (c / 12 = i ∧ c % 12 < t + 1) then stM F V c else F 14 c) := by
  have e1 : (i * 12 + t) / 12 = i := by omega
  have e2 : (i * 12 + t) % 12 = t := by omega
  have h1 : st (i * 12 + t) = F 14 (i * 12 + t) := by rw [hst, if_neg (by omega)]
  refine ⟨h1, ?_, fun hd c => ?_, fun hd c => ?_⟩
  · unfold dftM; rw [e1, e2, if_pos hi]
  · by_cases hc : c = i * 12 + t
    · subst hc
      rw [if_pos (by omega), h1]
      unfold stM
      rw [hd, if_neg (by decide)]
    · rw [hst]
      by_cases hq : c / 12 < i ∨ (c / 12 = i ∧ c % 12 < t)
      · rw [if_pos hq, if_pos (by omega)]
      · rw [if_neg hq, if_neg (by omega)]
  · by_cases hc : c = i * 12 + t
    · subst hc
      rw [if_pos (by omega), jU_s]
      unfold stM
      rw [hd, if_pos rfl]
    · rw [jU_n hc, hst]
      by_cases hq : c / 12 < i ∨ (c / 12 = i ∧ c % 12 < t)
      · rw [if_pos hq, if_pos (by omega)]
      · rw [if_neg hq, if_neg (by omega)]
set_option maxRecDepth 20000 in
theorem in_X4_looks_X4 : ∀ w ∈ u_ws RX4 TX4 22, w ∈ wsX4_looks := by decide +kernel
set_option maxHeartbeats 4000000 in
set_option maxRecDepth 100000 in
theorem c_X4_looks (l : Launch) (G : jG) (h : Nat → Nat) (F : Nat → Nat → Int) (V : Nat → Int) (fd : Nat → Int) (hk : okM F V) : jMet l yX4_looks wsX4_looks { frames := 5, cells := 0, slots := 0, locals := 240 } G (wM G h F V fd) [.ref (h 0)] (fun rv w1 => rv = some (.int (iI (cntM F V))) ∧ ∃ (isf fd' : Nat → Int), w1 = wM G h (uF (uF F 13 isf) 14 (stM F V)) V fd') := by
  refine jMet_of (cc := cX4_looks) (maxL := 7) (ret := (some .int)) (by decide +kernel) rfl (Nat.le_of_ble_eq_true rfl) ?_
  intro p e s m args below meth c A hh hret hinit
  refine jr_loc (lv' := [(0, .ref (h 0))]) [0] rfl ?_
  have hV2 := hk.2.1
  have hV3 := hk.2.2.1
  refine jr_iconst (pc := 0) hh dX4_looks_0 ?_
  refine jr_istore_n (lv' := [(1, .int (iI 0)), (0, .ref (h 0))]) (pc := 1) hh dX4_looks_1 rfl (by decide) rfl ?_
  refine jr_iconst (pc := 2) hh dX4_looks_2 ?_
  refine jr_istore_n (lv' := [(2, .int (iI 0)), (1, .int (iI 0)), (0, .ref (h 0))]) (pc := 3) hh dX4_looks_3 rfl (by decide) rfl ?_
  refine jr_loc (lv' := [(0, .ref (h 0)), (1, .int (iI 0)), (2, .int (iI 0))]) [2, 1, 0] rfl ?_
  refine jr_lvset (a := 0) (b := (0 : Int)) (lv' := [(0, .ref (h 0)), (1, .int (iI 0)), (2, .int (iI (0 : Int)))]) 2 rfl (by first | rfl | omega) rfl ?_
  refine jr_ws (ws' := (wM G h (uF (uF F 13 (F 13)) 14 (F 14)) V fd)) rfl ?_
  refine jr_loop (σ := Nat × (Nat → Int) × (Nat → Int) × (Nat → Int) × Int) (fun (x : Nat × (Nat → Int) × (Nat → Int) × (Nat → Int) × Int) => match x with | (i, isf, st, fdm, ct) => ((i : Int) ≤ V 2) ∧ (∀ c : Nat, st c = if c / 12 < i then stM F V c else F 14 c) ∧ (ct = sumTo (rowM F V) i)) (fun (x : Nat × (Nat → Int) × (Nat → Int) × (Nat → Int) × Int) => match x with | (i, isf, st, fdm, ct) => (V 2).toNat - i) (fun (x : Nat × (Nat → Int) × (Nat → Int) × (Nat → Int) × Int) => match x with | (i, isf, st, fdm, ct) => (wM G h (uF (uF F 13 isf) 14 st) V fdm)) (fun (x : Nat × (Nat → Int) × (Nat → Int) × (Nat → Int) × Int) => match x with | (i, isf, st, fdm, ct) => [(0, .ref (h 0)), (1, .int (iI ct)), (2, .int (iI (i : Int)))]) (fun (x : Nat × (Nat → Int) × (Nat → Int) × (Nat → Int) × Int) => match x with | (i, isf, st, fdm, ct) => []) ?_ (0, (F 13), (F 14), fd, 0) ⟨by (try dsimp only); omega, fun c => by rw [if_neg (Nat.not_lt_zero _)], rfl⟩
  rintro ⟨i, isf, st, fdm, ct⟩ ⟨hi, hst, hct⟩ ih1
  dsimp only at ih1 ⊢
  try dsimp only at hi hst hct
  have hcb := cntM_B F V i
  refine jr_iload_n (pc := 4) hh 2 dX4_looks_4 rfl rfl ?_
  refine jr_aload_n (pc := 5) hh 0 dX4_looks_5 rfl rfl ?_
  refine jr_get (v := .int (iI (V 2))) (pc := 6) hh in_X4_looks_X4 0 rfl rfl 18 (by decide) (by decide +kernel : Cond.fieldLink RX4 68 (TX4 18).1 (TX4 18).2.1 (TX4 18).2.2.1 ∈ wsX4_looks) rfl dX4_looks_6 ?_
  refine jr_icmp_ge (tgt := 139) (pc := 9) hh dX4_looks_9 (by decide) ⟨by omega, by omega⟩ ⟨by omega, by omega⟩ (fun c2 => ?_) (fun c2 => ?_)
  · skip
    have hiV : i = (V 2).toNat := by omega
    refine jr_iload_n (pc := 139) hh 1 dX4_looks_139 rfl rfl ?_
    exact jr_iret (pc := 140) hh hret rfl ⟨jsi (by rw [hct, hiV]; rfl), isf, fdm, by
    have e : st = stM F V := by
      funext c
      rw [hst c]
      by_cases hq : c / 12 < i
      · rw [if_pos hq]
      · rw [if_neg hq]; unfold stM dftM; rw [if_neg (by omega : ¬ ((c / 12 : Nat) : Int) < V 2), if_neg (by decide)]
    rw [e]⟩ (by decide) (by decide) dX4_looks_140
  · skip
    refine jr_iconst (pc := 12) hh dX4_looks_12 ?_
    refine jr_istore_n (lv' := [(3, .int (iI 0)), (0, .ref (h 0)), (1, .int (iI ct)), (2, .int (iI (i : Int)))]) (pc := 13) hh dX4_looks_13 rfl (by decide) rfl ?_
    refine jr_loc (lv' := [(0, .ref (h 0)), (1, .int (iI ct)), (2, .int (iI (i : Int))), (3, .int (iI 0))]) [1, 2, 3, 0] rfl ?_
    refine jr_lvset (a := 0) (b := (0 : Int)) (lv' := [(0, .ref (h 0)), (1, .int (iI ct)), (2, .int (iI (i : Int))), (3, .int (iI (0 : Int)))]) 3 rfl (by first | rfl | omega) rfl ?_
    refine jr_loop (σ := Nat × (Nat → Int) × (Nat → Int) × (Nat → Int) × Int) (fun (x : Nat × (Nat → Int) × (Nat → Int) × (Nat → Int) × Int) => match x with | (t, isf, st, fdm, ct) => (t ≤ 12) ∧ (∀ c : Nat, st c = if c / 12 < i ∨ (c / 12 = i ∧ c % 12 < t) then stM F V c else F 14 c) ∧ (ct = sumTo (rowM F V) i + sumTo (fun t => dftM F V (i * 12 + t)) t)) (fun (x : Nat × (Nat → Int) × (Nat → Int) × (Nat → Int) × Int) => match x with | (t, isf, st, fdm, ct) => 12 - t) (fun (x : Nat × (Nat → Int) × (Nat → Int) × (Nat → Int) × Int) => match x with | (t, isf, st, fdm, ct) => (wM G h (uF (uF F 13 isf) 14 st) V fdm)) (fun (x : Nat × (Nat → Int) × (Nat → Int) × (Nat → Int) × Int) => match x with | (t, isf, st, fdm, ct) => [(0, .ref (h 0)), (1, .int (iI ct)), (2, .int (iI (i : Int))), (3, .int (iI (t : Int)))]) (fun (x : Nat × (Nat → Int) × (Nat → Int) × (Nat → Int) × Int) => match x with | (t, isf, st, fdm, ct) => []) ?_ (0, isf, st, fdm, ct) ⟨by (try dsimp only); omega, fun c => by rw [hst c]; simp only [Nat.not_lt_zero, and_false, or_false], by rw [sumTo_0, Int.add_zero]; exact hct⟩
    rintro ⟨t, isf, st, fdm, ct⟩ ⟨ht, hst, hct⟩ ih3
    dsimp only at ih3 ⊢
    try dsimp only at ht hst hct
    have hrb := rowM_B F V i t
    refine jr_iload_n (pc := 14) hh 3 dX4_looks_14 rfl rfl ?_
    refine jr_bipush (pc := 15) hh dX4_looks_15 (by decide) ?_
    refine jr_icmp_ge (tgt := 133) (pc := 17) hh dX4_looks_17 (by decide) ⟨by omega, by omega⟩ ⟨by omega, by omega⟩ (fun c4 => ?_) (fun c4 => ?_)
    · skip
      refine jr_iinc (a := (i : Int)) (b := (((i + 1) : Nat) : Int)) (lv' := [(2, .int (iI (((i + 1) : Nat) : Int))), (0, .ref (h 0)), (1, .int (iI ct)), (3, .int (iI (t : Int)))]) (pc := 133) hh 2 dX4_looks_133 rfl (by omega) (by decide) rfl ?_
      refine jr_goto (tgt := 4) (pc := 136) hh dX4_looks_136 (by decide) ?_
      have ht12 : t = 12 := by omega
      have hst2 : ∀ c : Nat, st c = if c / 12 < i + 1 then stM F V c else F 14 c := by
        intro c
        rw [hst c]
        by_cases hq : c / 12 < i ∨ (c / 12 = i ∧ c % 12 < t)
        · rw [if_pos hq, if_pos (by omega)]
        · rw [if_neg hq, if_neg (by omega)]
      have hct2 : ct = sumTo (rowM F V) (i + 1) := by rw [sumTo_s, hct, ht12]; rfl
      refine jr_loc (lv' := [(0, .ref (h 0)), (1, .int (iI ct)), (2, .int (iI (((i + 1) : Nat) : Int)))]) [1, 2, 0] rfl ?_
      exact ih1 ((i + 1), isf, st, fdm, ct) ⟨by (try dsimp only); omega, hst2, hct2⟩ (by (try dsimp only); omega)
    · skip
      have hsp := stM_step (F := F) (V := V) (st := st) (by omega) (by omega) hst
      have h14 := (hk.2.2.2.2.2.2.2.2.2 (i * 12 + t) (by omega)).2.2.2.2
      have hs14 := hsp.1
      refine jr_aload_n (pc := 20) hh 0 dX4_looks_20 rfl rfl ?_
      refine jr_get (v := .ref (h 15)) (pc := 21) hh in_X4_looks_X4 0 rfl rfl 14 (by decide) (by decide +kernel : Cond.fieldLink RX4 53 (TX4 14).1 (TX4 14).2.1 (TX4 14).2.2.1 ∈ wsX4_looks) rfl dX4_looks_21 ?_
      refine jr_iload_n (pc := 24) hh 2 dX4_looks_24 rfl rfl ?_
      refine jr_iload_n (pc := 25) hh 3 dX4_looks_25 rfl rfl ?_
      refine jr_callS (pc := 26) hh [.int (iI (i : Int)), .int (iI (t : Int))] [.ref (h 15)] (c_X4_at l G i t) gX4_looks_X4_at rfl (by decide) (by decide) [] [0, 1, 2, 3, 4, 5, 6, 7, 8, 9, 10, 11, 12, 13, 14, 15, 16] rfl rfl rfl rfl (by decide) 2 rfl rfl (Nat.le_of_ble_eq_true rfl) (by decide +kernel) dX4_looks_26 (fun rvu5 wu5 hu5 => ?_)
      obtain ⟨rfl, rfl⟩ := hu5
      refine jr_perm (ws' := (wM G h (uF (uF F 13 isf) 14 st) V fdm)) (st := [.int (iI ((i * 12 + t : Nat) : Int)), .ref (h 15)]) [0, 1, 2, 3, 4, 5, 6, 7, 8, 9, 10, 11, 12, 13, 14, 15, 16] rfl rfl ?_
      refine jr_cald (F := st) (pc := 29) hh 15 rfl (i * 12 + t) (by omega) (by omega) (by decide) dX4_looks_29 ?_
      refine jr_bipush (pc := 30) hh dX4_looks_30 (by decide) ?_
      refine jr_icmp_eq (tgt := 38) (pc := 32) hh dX4_looks_32 (by decide) ⟨by omega, by omega⟩ ⟨by omega, by omega⟩ (fun c6 => ?_) (fun c6 => ?_)
      · skip
        refine jr_aload_n (pc := 38) hh 0 dX4_looks_38 rfl rfl ?_
        refine jr_iconst (pc := 39) hh dX4_looks_39 ?_
        refine jr_iload_n (pc := 40) hh 2 dX4_looks_40 rfl rfl ?_
        refine jr_iload_n (pc := 41) hh 3 dX4_looks_41 rfl rfl ?_
        refine jr_bipush (pc := 42) hh dX4_looks_42 (by decide) ?_
        have hst14 : ∀ c : Nat, st c = F 14 c ∨ st c = 111 := fun c => by rw [hst c]; unfold stM; split; split; exact Or.inr rfl; exact Or.inl rfl; exact Or.inl rfl
        have hkL := okM_st (isf := isf) hk hst14
        refine jr_callV (pc := 44) hh [.int (iI 0), .int (iI (i : Int)), .int (iI (t : Int)), .int (iI 6)] [] (c_X4_finds l G h (uF (uF F 13 isf) 14 st) V fdm 0 i t 6 hkL (by omega) (by omega) (by omega) (by decide)) gX4_looks_X4_finds rfl (by decide) (by decide) [0, 1, 2, 3, 4, 5, 6, 7, 8, 9, 10, 11, 12, 13, 14, 15, 16] [] rfl rfl rfl rfl (by decide) 0 rfl rfl 4 rfl rfl (Nat.le_of_ble_eq_true rfl) (by decide +kernel) dX4_looks_44 (fun rvu7 wu7 hu7 => ?_)
        obtain ⟨rfl, isf2, fd2, hfd2, rfl⟩ := hu7
        refine jr_perm (ws' := (wM G h (uF (uF F 13 isf2) 14 st) V fd2)) (st := [.int (iI (if enc (nmM F V 0 t 6 i) = -1000000000 then 0 else 1))]) [0, 1, 2, 3, 4, 5, 6, 7, 8, 9, 10, 11, 12, 13, 14, 15, 16] rfl rfl ?_
        have hfd3 : enc (nmM F V 0 t 6 i) ≠ -1000000000 → fd2 i = enc (nmM F V 0 t 6 i) := hfd2
        have hAt := hk.2.2.2.2.2.2.2.2.2 (i * 12 + t) (by omega)
        have hbn := enc_or (nmM_B hk (s := 0) (t := t) (b := 6) (i := i) (by omega) (by omega))
        refine jr_istore (lv' := [(4, .int (iI (if enc (nmM F V 0 t 6 i) = -1000000000 then 0 else 1))), (0, .ref (h 0)), (1, .int (iI ct)), (2, .int (iI (i : Int))), (3, .int (iI (t : Int)))]) (pc := 47) hh dX4_looks_47 (by decide) rfl ?_
        refine jr_aload_n (pc := 49) hh 1 dX4_looks_49 rfl rfl ?_
        refine jr_get (v := .ref (h 16)) (pc := 50) hh in_X4_looks_X4 0 rfl rfl 15 (by decide) (by decide +kernel : Cond.fieldLink RX4 57 (TX4 15).1 (TX4 15).2.1 (TX4 15).2.2.1 ∈ wsX4_looks) rfl dX4_looks_50 ?_
        refine jr_iload_n (pc := 53) hh 3 dX4_looks_53 rfl rfl ?_
        refine jr_lald (F := fd2) (pc := 54) hh 16 rfl i (by omega) (by omega) (by decide) dX4_looks_54 ?_
        refine jr_aload_n (pc := 55) hh 1 dX4_looks_55 rfl rfl ?_
        refine jr_get (v := .ref (h 11)) (pc := 56) hh in_X4_looks_X4 0 rfl rfl 10 (by decide) (by decide +kernel : Cond.fieldLink RX4 40 (TX4 10).1 (TX4 10).2.1 (TX4 10).2.2.1 ∈ wsX4_looks) rfl dX4_looks_56 ?_
        refine jr_iload_n (pc := 59) hh 3 dX4_looks_59 rfl rfl ?_
        refine jr_iload_n (pc := 60) hh 4 dX4_looks_60 rfl rfl ?_
        refine jr_callS (pc := 61) hh [.int (iI (i : Int)), .int (iI (t : Int))] [.ref (h 11), .long (lI (fd2 i))] (c_X4_at l G i t) gX4_looks_X4_at rfl (by decide) (by decide) [] [0, 1, 2, 3, 4, 5, 6, 7, 8, 9, 10, 11, 12, 13, 14, 15, 16] rfl rfl rfl rfl (by decide) 2 rfl rfl (Nat.le_of_ble_eq_true rfl) (by decide +kernel) dX4_looks_61 (fun rvu8 wu8 hu8 => ?_)
        obtain ⟨rfl, rfl⟩ := hu8
        refine jr_perm (ws' := (wM G h (uF (uF F 13 isf2) 14 st) V fd2)) (st := [.int (iI ((i * 12 + t : Nat) : Int)), .ref (h 11), .long (lI (fd2 i))]) [0, 1, 2, 3, 4, 5, 6, 7, 8, 9, 10, 11, 12, 13, 14, 15, 16] rfl rfl ?_
        refine jr_iald (F := (F 10)) (pc := 64) hh 11 rfl (i * 12 + t) (by omega) (by omega) (by decide) dX4_looks_64 ?_
        refine jr_i2l (pc := 65) hh dX4_looks_65 ⟨by omega, by omega⟩ ?_
        refine jr_lsub (pc := 66) hh dX4_looks_66 ?_
        refine jr_lstore (lv' := [(5, .long (lI ((fd2 i) - ((F 10) (i * 12 + t))))), (4, .int (iI (if enc (nmM F V 0 t 6 i) = -1000000000 then 0 else 1))), (0, .ref (h 0)), (1, .int (iI ct)), (2, .int (iI (i : Int))), (3, .int (iI (t : Int)))]) (pc := 67) hh dX4_looks_67 (by decide) rfl ?_
        refine jr_iload (pc := 69) hh 1 dX4_looks_69 rfl ?_
        refine jr_if_eq (tgt := 112) (pc := 71) hh dX4_looks_71 (by decide) ⟨by omega, by omega⟩ (fun c9 => ?_) (fun c9 => ?_)
        · try (exfalso; omega)
          all_goals
            refine jr_aload_n (pc := 112) hh 2 dX4_looks_112 rfl rfl ?_
            refine jr_get (v := .ref (h 15)) (pc := 113) hh in_X4_looks_X4 0 rfl rfl 14 (by decide) (by decide +kernel : Cond.fieldLink RX4 53 (TX4 14).1 (TX4 14).2.1 (TX4 14).2.2.1 ∈ wsX4_looks) rfl dX4_looks_113 ?_
            refine jr_iload_n (pc := 116) hh 4 dX4_looks_116 rfl rfl ?_
            refine jr_iload_n (pc := 117) hh 5 dX4_looks_117 rfl rfl ?_
            refine jr_callS (pc := 118) hh [.int (iI (i : Int)), .int (iI (t : Int))] [.ref (h 15)] (c_X4_at l G i t) gX4_looks_X4_at rfl (by decide) (by decide) [] [0, 1, 2, 3, 4, 5, 6, 7, 8, 9, 10, 11, 12, 13, 14, 15, 16] rfl rfl rfl rfl (by decide) 2 rfl rfl (Nat.le_of_ble_eq_true rfl) (by decide +kernel) dX4_looks_118 (fun rvu10 wu10 hu10 => ?_)
            obtain ⟨rfl, rfl⟩ := hu10
            refine jr_perm (ws' := (wM G h (uF (uF F 13 isf2) 14 st) V fd2)) (st := [.int (iI ((i * 12 + t : Nat) : Int)), .ref (h 15)]) [0, 1, 2, 3, 4, 5, 6, 7, 8, 9, 10, 11, 12, 13, 14, 15, 16] rfl rfl ?_
            refine jr_bipush (pc := 121) hh dX4_looks_121 (by decide) ?_
            refine jr_cast (F := st) (ws' := (wM G h (uF (uF F 13 isf2) 14 (jU st (i * 12 + t) 111)) V fd2)) (pc := 123) hh 15 rfl (i * 12 + t) (by omega) (by omega) (by decide) ⟨by omega, by omega⟩ rfl dX4_looks_123 ?_
            refine jr_iinc (a := ct) (b := (ct + 1)) (lv' := [(1, .int (iI (ct + 1))), (5, .long (lI ((fd2 i) - ((F 10) (i * 12 + t))))), (4, .int (iI (if enc (nmM F V 0 t 6 i) = -1000000000 then 0 else 1))), (0, .ref (h 0)), (2, .int (iI (i : Int))), (3, .int (iI (t : Int)))]) (pc := 124) hh 3 dX4_looks_124 rfl (by omega) (by decide) rfl ?_
            refine jr_iinc (a := (t : Int)) (b := (((t + 1) : Nat) : Int)) (lv' := [(3, .int (iI (((t + 1) : Nat) : Int))), (1, .int (iI (ct + 1))), (5, .long (lI ((fd2 i) - ((F 10) (i * 12 + t))))), (4, .int (iI (if enc (nmM F V 0 t 6 i) = -1000000000 then 0 else 1))), (0, .ref (h 0)), (2, .int (iI (i : Int)))]) (pc := 127) hh 5 dX4_looks_127 rfl (by omega) (by decide) rfl ?_
            refine jr_goto (tgt := 14) (pc := 130) hh dX4_looks_130 (by decide) ?_
            have hd1 : dftM F V (i * 12 + t) = 1 := by rw [hsp.2.1]; unfold ropB drf; omega
            have hst2 := hsp.2.2.2 hd1
            have hct2 : (ct + 1) = sumTo (rowM F V) i + sumTo (fun t => dftM F V (i * 12 + t)) (t + 1) := by rw [sumTo_s, hct]; omega
            refine jr_loc (lv' := [(0, .ref (h 0)), (1, .int (iI (ct + 1))), (2, .int (iI (i : Int))), (3, .int (iI (((t + 1) : Nat) : Int)))]) [4, 1, 5, 0] rfl ?_
            exact ih3 ((t + 1), isf2, (jU st (i * 12 + t) 111), fd2, (ct + 1)) ⟨by (try dsimp only); omega, hst2, hct2⟩ (by (try dsimp only); omega)
        · try (exfalso; omega)
          all_goals
            refine jr_lload (pc := 74) hh 0 dX4_looks_74 rfl ?_
            refine jr_aload_n (pc := 76) hh 2 dX4_looks_76 rfl rfl ?_
            refine jr_get (v := .ref (h 12)) (pc := 77) hh in_X4_looks_X4 0 rfl rfl 11 (by decide) (by decide +kernel : Cond.fieldLink RX4 43 (TX4 11).1 (TX4 11).2.1 (TX4 11).2.2.1 ∈ wsX4_looks) rfl dX4_looks_77 ?_
            refine jr_iload_n (pc := 80) hh 4 dX4_looks_80 rfl rfl ?_
            refine jr_iload_n (pc := 81) hh 5 dX4_looks_81 rfl rfl ?_
            refine jr_callS (pc := 82) hh [.int (iI (i : Int)), .int (iI (t : Int))] [.ref (h 12), .long (lI ((fd2 i) - ((F 10) (i * 12 + t))))] (c_X4_at l G i t) gX4_looks_X4_at rfl (by decide) (by decide) [] [0, 1, 2, 3, 4, 5, 6, 7, 8, 9, 10, 11, 12, 13, 14, 15, 16] rfl rfl rfl rfl (by decide) 2 rfl rfl (Nat.le_of_ble_eq_true rfl) (by decide +kernel) dX4_looks_82 (fun rvu11 wu11 hu11 => ?_)
            obtain ⟨rfl, rfl⟩ := hu11
            refine jr_perm (ws' := (wM G h (uF (uF F 13 isf2) 14 st) V fd2)) (st := [.int (iI ((i * 12 + t : Nat) : Int)), .ref (h 12), .long (lI ((fd2 i) - ((F 10) (i * 12 + t))))]) [0, 1, 2, 3, 4, 5, 6, 7, 8, 9, 10, 11, 12, 13, 14, 15, 16] rfl rfl ?_
            refine jr_iald (F := (F 11)) (pc := 85) hh 12 rfl (i * 12 + t) (by omega) (by omega) (by decide) dX4_looks_85 ?_
            refine jr_i2l (pc := 86) hh dX4_looks_86 ⟨by omega, by omega⟩ ?_
            refine jr_lcmp_gt (tgt := 112) (pc := 87) hh dX4_looks_87 dX4_looks_88 (by decide) ⟨by omega, by omega⟩ ⟨by omega, by omega⟩ (fun c12 => ?_) (fun c12 => ?_)
            · skip
              refine jr_aload_n (pc := 112) hh 2 dX4_looks_112 rfl rfl ?_
              refine jr_get (v := .ref (h 15)) (pc := 113) hh in_X4_looks_X4 0 rfl rfl 14 (by decide) (by decide +kernel : Cond.fieldLink RX4 53 (TX4 14).1 (TX4 14).2.1 (TX4 14).2.2.1 ∈ wsX4_looks) rfl dX4_looks_113 ?_
              refine jr_iload_n (pc := 116) hh 4 dX4_looks_116 rfl rfl ?_
              refine jr_iload_n (pc := 117) hh 5 dX4_looks_117 rfl rfl ?_
              refine jr_callS (pc := 118) hh [.int (iI (i : Int)), .int (iI (t : Int))] [.ref (h 15)] (c_X4_at l G i t) gX4_looks_X4_at rfl (by decide) (by decide) [] [0, 1, 2, 3, 4, 5, 6, 7, 8, 9, 10, 11, 12, 13, 14, 15, 16] rfl rfl rfl rfl (by decide) 2 rfl rfl (Nat.le_of_ble_eq_true rfl) (by decide +kernel) dX4_looks_118 (fun rvu13 wu13 hu13 => ?_)
              obtain ⟨rfl, rfl⟩ := hu13
              refine jr_perm (ws' := (wM G h (uF (uF F 13 isf2) 14 st) V fd2)) (st := [.int (iI ((i * 12 + t : Nat) : Int)), .ref (h 15)]) [0, 1, 2, 3, 4, 5, 6, 7, 8, 9, 10, 11, 12, 13, 14, 15, 16] rfl rfl ?_
              refine jr_bipush (pc := 121) hh dX4_looks_121 (by decide) ?_
              refine jr_cast (F := st) (ws' := (wM G h (uF (uF F 13 isf2) 14 (jU st (i * 12 + t) 111)) V fd2)) (pc := 123) hh 15 rfl (i * 12 + t) (by omega) (by omega) (by decide) ⟨by omega, by omega⟩ rfl dX4_looks_123 ?_
              refine jr_iinc (a := ct) (b := (ct + 1)) (lv' := [(1, .int (iI (ct + 1))), (5, .long (lI ((fd2 i) - ((F 10) (i * 12 + t))))), (4, .int (iI (if enc (nmM F V 0 t 6 i) = -1000000000 then 0 else 1))), (0, .ref (h 0)), (2, .int (iI (i : Int))), (3, .int (iI (t : Int)))]) (pc := 124) hh 3 dX4_looks_124 rfl (by omega) (by decide) rfl ?_
              refine jr_iinc (a := (t : Int)) (b := (((t + 1) : Nat) : Int)) (lv' := [(3, .int (iI (((t + 1) : Nat) : Int))), (1, .int (iI (ct + 1))), (5, .long (lI ((fd2 i) - ((F 10) (i * 12 + t))))), (4, .int (iI (if enc (nmM F V 0 t 6 i) = -1000000000 then 0 else 1))), (0, .ref (h 0)), (2, .int (iI (i : Int)))]) (pc := 127) hh 5 dX4_looks_127 rfl (by omega) (by decide) rfl ?_
              refine jr_goto (tgt := 14) (pc := 130) hh dX4_looks_130 (by decide) ?_
              have hd1 : dftM F V (i * 12 + t) = 1 := by rw [hsp.2.1]; unfold ropB drf; omega
              have hst2 := hsp.2.2.2 hd1
              have hct2 : (ct + 1) = sumTo (rowM F V) i + sumTo (fun t => dftM F V (i * 12 + t)) (t + 1) := by rw [sumTo_s, hct]; omega
              refine jr_loc (lv' := [(0, .ref (h 0)), (1, .int (iI (ct + 1))), (2, .int (iI (i : Int))), (3, .int (iI (((t + 1) : Nat) : Int)))]) [4, 1, 5, 0] rfl ?_
              exact ih3 ((t + 1), isf2, (jU st (i * 12 + t) 111), fd2, (ct + 1)) ⟨by (try dsimp only); omega, hst2, hct2⟩ (by (try dsimp only); omega)
            · skip
              refine jr_lload (pc := 91) hh 0 dX4_looks_91 rfl ?_
              refine jr_lneg (pc := 93) hh dX4_looks_93 ?_
              refine jr_aload_n (pc := 94) hh 2 dX4_looks_94 rfl rfl ?_
              refine jr_get (v := .ref (h 12)) (pc := 95) hh in_X4_looks_X4 0 rfl rfl 11 (by decide) (by decide +kernel : Cond.fieldLink RX4 43 (TX4 11).1 (TX4 11).2.1 (TX4 11).2.2.1 ∈ wsX4_looks) rfl dX4_looks_95 ?_
              refine jr_iload_n (pc := 98) hh 4 dX4_looks_98 rfl rfl ?_
              refine jr_iload_n (pc := 99) hh 5 dX4_looks_99 rfl rfl ?_
              refine jr_callS (pc := 100) hh [.int (iI (i : Int)), .int (iI (t : Int))] [.ref (h 12), .long (lI (-((fd2 i) - ((F 10) (i * 12 + t)))))] (c_X4_at l G i t) gX4_looks_X4_at rfl (by decide) (by decide) [] [0, 1, 2, 3, 4, 5, 6, 7, 8, 9, 10, 11, 12, 13, 14, 15, 16] rfl rfl rfl rfl (by decide) 2 rfl rfl (Nat.le_of_ble_eq_true rfl) (by decide +kernel) dX4_looks_100 (fun rvu14 wu14 hu14 => ?_)
              obtain ⟨rfl, rfl⟩ := hu14
              refine jr_perm (ws' := (wM G h (uF (uF F 13 isf2) 14 st) V fd2)) (st := [.int (iI ((i * 12 + t : Nat) : Int)), .ref (h 12), .long (lI (-((fd2 i) - ((F 10) (i * 12 + t)))))]) [0, 1, 2, 3, 4, 5, 6, 7, 8, 9, 10, 11, 12, 13, 14, 15, 16] rfl rfl ?_
              refine jr_iald (F := (F 11)) (pc := 103) hh 12 rfl (i * 12 + t) (by omega) (by omega) (by decide) dX4_looks_103 ?_
              refine jr_i2l (pc := 104) hh dX4_looks_104 ⟨by omega, by omega⟩ ?_
              refine jr_lcmp_gt (tgt := 112) (pc := 105) hh dX4_looks_105 dX4_looks_106 (by decide) ⟨by omega, by omega⟩ ⟨by omega, by omega⟩ (fun c15 => ?_) (fun c15 => ?_)
              · skip
                refine jr_aload_n (pc := 112) hh 2 dX4_looks_112 rfl rfl ?_
                refine jr_get (v := .ref (h 15)) (pc := 113) hh in_X4_looks_X4 0 rfl rfl 14 (by decide) (by decide +kernel : Cond.fieldLink RX4 53 (TX4 14).1 (TX4 14).2.1 (TX4 14).2.2.1 ∈ wsX4_looks) rfl dX4_looks_113 ?_
                refine jr_iload_n (pc := 116) hh 4 dX4_looks_116 rfl rfl ?_
                refine jr_iload_n (pc := 117) hh 5 dX4_looks_117 rfl rfl ?_
                refine jr_callS (pc := 118) hh [.int (iI (i : Int)), .int (iI (t : Int))] [.ref (h 15)] (c_X4_at l G i t) gX4_looks_X4_at rfl (by decide) (by decide) [] [0, 1, 2, 3, 4, 5, 6, 7, 8, 9, 10, 11, 12, 13, 14, 15, 16] rfl rfl rfl rfl (by decide) 2 rfl rfl (Nat.le_of_ble_eq_true rfl) (by decide +kernel) dX4_looks_118 (fun rvu16 wu16 hu16 => ?_)
                obtain ⟨rfl, rfl⟩ := hu16
                refine jr_perm (ws' := (wM G h (uF (uF F 13 isf2) 14 st) V fd2)) (st := [.int (iI ((i * 12 + t : Nat) : Int)), .ref (h 15)]) [0, 1, 2, 3, 4, 5, 6, 7, 8, 9, 10, 11, 12, 13, 14, 15, 16] rfl rfl ?_
                refine jr_bipush (pc := 121) hh dX4_looks_121 (by decide) ?_
                refine jr_cast (F := st) (ws' := (wM G h (uF (uF F 13 isf2) 14 (jU st (i * 12 + t) 111)) V fd2)) (pc := 123) hh 15 rfl (i * 12 + t) (by omega) (by omega) (by decide) ⟨by omega, by omega⟩ rfl dX4_looks_123 ?_
                refine jr_iinc (a := ct) (b := (ct + 1)) (lv' := [(1, .int (iI (ct + 1))), (5, .long (lI ((fd2 i) - ((F 10) (i * 12 + t))))), (4, .int (iI (if enc (nmM F V 0 t 6 i) = -1000000000 then 0 else 1))), (0, .ref (h 0)), (2, .int (iI (i : Int))), (3, .int (iI (t : Int)))]) (pc := 124) hh 3 dX4_looks_124 rfl (by omega) (by decide) rfl ?_
                refine jr_iinc (a := (t : Int)) (b := (((t + 1) : Nat) : Int)) (lv' := [(3, .int (iI (((t + 1) : Nat) : Int))), (1, .int (iI (ct + 1))), (5, .long (lI ((fd2 i) - ((F 10) (i * 12 + t))))), (4, .int (iI (if enc (nmM F V 0 t 6 i) = -1000000000 then 0 else 1))), (0, .ref (h 0)), (2, .int (iI (i : Int)))]) (pc := 127) hh 5 dX4_looks_127 rfl (by omega) (by decide) rfl ?_
                refine jr_goto (tgt := 14) (pc := 130) hh dX4_looks_130 (by decide) ?_
                have hd1 : dftM F V (i * 12 + t) = 1 := by rw [hsp.2.1]; unfold ropB drf; omega
                have hst2 := hsp.2.2.2 hd1
                have hct2 : (ct + 1) = sumTo (rowM F V) i + sumTo (fun t => dftM F V (i * 12 + t)) (t + 1) := by rw [sumTo_s, hct]; omega
                refine jr_loc (lv' := [(0, .ref (h 0)), (1, .int (iI (ct + 1))), (2, .int (iI (i : Int))), (3, .int (iI (((t + 1) : Nat) : Int)))]) [4, 1, 5, 0] rfl ?_
                exact ih3 ((t + 1), isf2, (jU st (i * 12 + t) 111), fd2, (ct + 1)) ⟨by (try dsimp only); omega, hst2, hct2⟩ (by (try dsimp only); omega)
              · skip
                refine jr_goto (tgt := 127) (pc := 109) hh dX4_looks_109 (by decide) ?_
                refine jr_iinc (a := (t : Int)) (b := (((t + 1) : Nat) : Int)) (lv' := [(3, .int (iI (((t + 1) : Nat) : Int))), (5, .long (lI ((fd2 i) - ((F 10) (i * 12 + t))))), (4, .int (iI (if enc (nmM F V 0 t 6 i) = -1000000000 then 0 else 1))), (0, .ref (h 0)), (1, .int (iI ct)), (2, .int (iI (i : Int)))]) (pc := 127) hh 5 dX4_looks_127 rfl (by omega) (by decide) rfl ?_
                refine jr_goto (tgt := 14) (pc := 130) hh dX4_looks_130 (by decide) ?_
                have hd0 : dftM F V (i * 12 + t) = 0 := by rw [hsp.2.1]; unfold ropB drf; omega
                have hst2 := hsp.2.2.1 hd0
                have hct2 : ct = sumTo (rowM F V) i + sumTo (fun t => dftM F V (i * 12 + t)) (t + 1) := by rw [sumTo_s, hct]; omega
                refine jr_loc (lv' := [(0, .ref (h 0)), (1, .int (iI ct)), (2, .int (iI (i : Int))), (3, .int (iI (((t + 1) : Nat) : Int)))]) [3, 4, 5, 0] rfl ?_
                exact ih3 ((t + 1), isf2, st, fd2, ct) ⟨by (try dsimp only); omega, hst2, hct2⟩ (by (try dsimp only); omega)
      · skip
        refine jr_goto (tgt := 127) (pc := 35) hh dX4_looks_35 (by decide) ?_
        refine jr_iinc (a := (t : Int)) (b := (((t + 1) : Nat) : Int)) (lv' := [(3, .int (iI (((t + 1) : Nat) : Int))), (0, .ref (h 0)), (1, .int (iI ct)), (2, .int (iI (i : Int)))]) (pc := 127) hh 3 dX4_looks_127 rfl (by omega) (by decide) rfl ?_
        refine jr_goto (tgt := 14) (pc := 130) hh dX4_looks_130 (by decide) ?_
        have hd0 : dftM F V (i * 12 + t) = 0 := by rw [hsp.2.1]; unfold ropB drf; omega
        have hst2 := hsp.2.2.1 hd0
        have hct2 : ct = sumTo (rowM F V) i + sumTo (fun t => dftM F V (i * 12 + t)) (t + 1) := by rw [sumTo_s, hct]; omega
        refine jr_loc (lv' := [(0, .ref (h 0)), (1, .int (iI ct)), (2, .int (iI (i : Int))), (3, .int (iI (((t + 1) : Nat) : Int)))]) [1, 2, 3, 0] rfl ?_
        exact ih3 ((t + 1), isf, st, fdm, ct) ⟨by (try dsimp only); omega, hst2, hct2⟩ (by (try dsimp only); omega)
