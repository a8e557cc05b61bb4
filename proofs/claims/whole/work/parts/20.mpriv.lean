/-! the reference: its private methods -/
def inI (v lo hi : Int) : Int := if lo ≤ v ∧ v ≤ hi then 1 else 0
def und (par : Nat → Int) : Nat → Int → Int → Int
  | 0, _, _ => 0
  | n + 1, s, a => if s < 0 then 0 else if s = a then 1 else und par n (par s.toNat) a
theorem und_neg {par : Nat → Int} {n : Nat} {s a : Int} (h : s < 0) : und par n s a = 0 := by
  cases n with
  | zero => rfl
  | succ n => show (if s < 0 then _ else _) = _; rw [if_pos h]
theorem und_01 (par : Nat → Int) : ∀ (n : Nat) (s a : Int), und par n s a = 0 ∨ und par n s a = 1 := by
  intro n
  induction n with
  | zero => intro s a; exact Or.inl rfl
  | succ n ih =>
    intro s a
    show (if s < 0 then (0 : Int) else if s = a then 1 else und par n (par s.toNat) a) = 0 ∨ (if s < 0 then (0 : Int) else if s = a then 1 else und par n (par s.toNat) a) = 1
    split
    · exact Or.inl rfl
    · split
      · exact Or.inr rfl
      · exact ih _ _
theorem und_fuel {par : Nat → Int} {c : Nat} (hp : ∀ k : Nat, k < c → -1 ≤ par k ∧ par k < k) : ∀ (n m : Nat) (s a : Int), s < c → s < n → s < m → und par n s a = und par m s a := by
  intro n
  induction n with
  | zero => intro m s a _ h1 _; rw [und_neg (by omega), und_neg (by omega)]
  | succ n ih =>
    intro m s a h0 h1 h2
    by_cases hs : s < 0
    · rw [und_neg hs, und_neg hs]
    · cases m with
      | zero => omega
      | succ m =>
        show (if s < 0 then (0 : Int) else if s = a then 1 else und par n (par s.toNat) a) = (if s < 0 then (0 : Int) else if s = a then 1 else und par m (par s.toNat) a)
        have h3 := hp s.toNat (by omega)
        rw [ih m (par s.toNat) a (by omega) (by omega) (by omega)]
theorem und_un {par : Nat → Int} {x a : Int} (h : -1 ≤ x) : und par (x + 1).toNat x a = if x < 0 then 0 else if x = a then 1 else und par x.toNat (par x.toNat) a := by
  by_cases hx : x < 0
  · rw [und_neg hx, if_pos hx]
  · rw [show (x + 1).toNat = x.toNat + 1 by omega]
    rfl
/-- what always holds of the reference's cells -/
def okM (F : Nat → Nat → Int) (V : Nat → Int) : Prop :=
  (0 ≤ V 1 ∧ V 1 ≤ 6) ∧ (0 ≤ V 2 ∧ V 2 ≤ 10) ∧ (1 ≤ V 3 ∧ V 3 ≤ 4) ∧ (0 ≤ V 4 ∧ V 4 ≤ 12) ∧ (0 ≤ V 5 ∧ V 5 ≤ 11) ∧
  (∀ d : Nat, d < 6 → 0 ≤ F 0 d ∧ F 0 d ≤ 9999) ∧
  (∀ i : Nat, (i : Int) < V 2 → (0 ≤ F 1 i ∧ F 1 i ≤ 65535) ∧ (F 1 i = 100 → 0 ≤ F 2 i ∧ F 2 i < V 1) ∧ (F 1 i ≠ 100 → (0 ≤ F 2 i ∧ F 2 i < i) ∧ (0 ≤ F 3 i ∧ F 3 i < i))) ∧
  (∀ k : Nat, (k : Int) < V 3 → -1 ≤ F 4 k ∧ F 4 k < k) ∧
  (∀ k : Nat, (k : Int) < V 4 → (1 ≤ F 5 k ∧ F 5 k < V 3) ∧ (0 ≤ F 6 k ∧ F 6 k < V 1) ∧ (0 ≤ F 7 k ∧ F 7 k < 12) ∧ (-999 ≤ F 8 k ∧ F 8 k ≤ 999)) ∧
  (∀ c : Nat, c < 120 → (-9999999 ≤ F 9 c ∧ F 9 c ≤ 9999999) ∧ (-99999999 ≤ F 10 c ∧ F 10 c ≤ 99999999) ∧ (0 ≤ F 11 c ∧ F 11 c ≤ 9999) ∧ (F 12 c = 0 ∨ F 12 c = 1) ∧ (F 14 c = 45 ∨ F 14 c = 97 ∨ F 14 c = 111))
def difM (F : Nat → Nat → Int) (s d t b : Nat) (k : Nat) : Int := if F 6 k = d ∧ d < b ∧ F 7 k ≤ t ∧ und (F 4) (s + 1) s (F 5 k) = 1 then F 8 k else 0
def valM (F : Nat → Nat → Int) (V : Nat → Int) (s d t b : Nat) : Int := F 0 d + sumTo (difM F s d t b) (V 4).toNat
def actM (F : Nat → Nat → Int) (t : Nat) : Nat → Option Int := fun i => if F 12 (i * 12 + t) = 1 then some (F 9 (i * 12 + t)) else none
def nmM (F : Nat → Nat → Int) (V : Nat → Int) (s t b i : Nat) : Option Int := lnum (actM F t) (F 1) (F 2) (F 3) (fun d => valM F V s d t b) i
theorem difM_B {F : Nat → Nat → Int} {V : Nat → Int} (h : okM F V) {s d t b k : Nat} (hk : (k : Int) < V 4) : -999 ≤ difM F s d t b k ∧ difM F s d t b k ≤ 999 := by
  have := (h.2.2.2.2.2.2.2.2.1 k hk).2.2.2
  unfold difM
  split <;> omega
theorem valM_B {F : Nat → Nat → Int} {V : Nat → Int} (h : okM F V) {s d t b n : Nat} (hd : d < 6) (hn : (n : Int) ≤ V 4) : -20000 ≤ F 0 d + sumTo (difM F s d t b) n ∧ F 0 d + sumTo (difM F s d t b) n ≤ 30000 := by
  have h1 := h.2.2.2.2.2.1 d hd
  have h4 := h.2.2.2.1
  have h2 := sumTo_bound (f := difM F s d t b) (a := -999) (b := 999) (n := n) (fun k hk => difM_B h (by omega))
  omega
theorem nmM_B {F : Nat → Nat → Int} {V : Nat → Int} (h : okM F V) {s i t b : Nat} (hi : (i : Int) < V 2) (ht : t < 12) : inB (nmM F V s t b i) := by
  have hL := h.2.2.2.2.2.2.1 i hi
  have hA := h.2.2.2.2.2.2.2.2.2
  have hV := h.2.1
  have hV1 := h.1
  have hV4 := h.2.2.2.1
  refine lnum_B hL.2.2 ?_ (fun hk => ?_)
  · intro v hv
    unfold actM at hv
    split at hv
    · cases hv
      have := (hA (i * 12 + t) (by omega)).1
      omega
    · cases hv
  · have := hL.2.1 hk
    have := valM_B h (s := s) (t := t) (b := b) (d := (F 2 i).toNat) (n := (V 4).toNat) (by omega) (by omega)
    unfold valM
    omega
set_option maxRecDepth 20000 in
theorem in_X4_thrown_X4 : ∀ w ∈ u_ws RX4 TX4 22, w ∈ wsX4_thrown := by decide +kernel
set_option maxHeartbeats 4000000 in
set_option maxRecDepth 100000 in
theorem c_X4_thrown (l : Launch) (G : jG) (h : Nat → Nat) (F : Nat → Nat → Int) (V : Nat → Int) (fd : Nat → Int) : jMet l yX4_thrown wsX4_thrown { frames := 1, cells := 0, slots := 0, locals := 30 } G (wM G h F V fd) [.ref (h 0)] (fun rv w1 => rv = some (.int (iI (V 0))) ∧ w1 = wM G h F V fd) := by
  refine jMet_of (cc := cX4_thrown) (maxL := 1) (ret := (some .int)) (by decide +kernel) rfl (Nat.le_of_ble_eq_true rfl) ?_
  intro p e s m args below meth c A hh hret hinit
  refine jr_loc (lv' := [(0, .ref (h 0))]) [0] rfl ?_
  refine jr_aload_n (pc := 0) hh 0 dX4_thrown_0 rfl rfl ?_
  refine jr_get (v := .int (iI (V 0))) (pc := 1) hh in_X4_thrown_X4 0 rfl rfl 16 (by decide) (by decide +kernel : Cond.fieldLink RX4 61 (TX4 16).1 (TX4 16).2.1 (TX4 16).2.2.1 ∈ wsX4_thrown) rfl dX4_thrown_1 ?_
  exact jr_iret (pc := 4) hh hret rfl ⟨rfl, rfl⟩ (by decide) (by decide) dX4_thrown_4
set_option maxHeartbeats 4000000 in
set_option maxRecDepth 100000 in
theorem c_X4_in (l : Launch) (G : jG) (v lo hi : Int) (h1 : jR v) (h2 : jR lo) (h3 : jR hi) : jMet l yX4_in wsX4_in { frames := 1, cells := 0, slots := 0, locals := 30 } G ([] : va_W) [.int (iI v), .int (iI lo), .int (iI hi)] (fun rv w1 => rv = some (.int (iI (inI v lo hi))) ∧ w1 = []) := by
  refine jMet_of (cc := cX4_in) (maxL := 3) (ret := (some .boolean)) (by decide +kernel) rfl (Nat.le_of_ble_eq_true rfl) ?_
  intro p e s m args below meth c A hh hret hinit
  refine jr_loc (lv' := [(0, .int (iI v)), (1, .int (iI lo)), (2, .int (iI hi))]) [0, 1, 2] rfl ?_
  have h11 := h1.1
  have h12 := h1.2
  have h21 := h2.1
  have h22 := h2.2
  have h31 := h3.1
  have h32 := h3.2
  refine jr_iload_n (pc := 0) hh 0 dX4_in_0 rfl rfl ?_
  refine jr_iload_n (pc := 1) hh 1 dX4_in_1 rfl rfl ?_
  refine jr_icmp_lt (tgt := 14) (pc := 2) hh dX4_in_2 (by decide) ⟨by omega, by omega⟩ ⟨by omega, by omega⟩ (fun c1 => ?_) (fun c1 => ?_)
  · skip
    refine jr_iconst (pc := 14) hh dX4_in_14 ?_
    exact jr_iret (pc := 15) hh hret rfl ⟨jsi (by unfold inI; omega), rfl⟩ (by decide) (by decide) dX4_in_15
  · skip
    refine jr_iload_n (pc := 5) hh 0 dX4_in_5 rfl rfl ?_
    refine jr_iload_n (pc := 6) hh 2 dX4_in_6 rfl rfl ?_
    refine jr_icmp_gt (tgt := 14) (pc := 7) hh dX4_in_7 (by decide) ⟨by omega, by omega⟩ ⟨by omega, by omega⟩ (fun c2 => ?_) (fun c2 => ?_)
    · skip
      refine jr_iconst (pc := 14) hh dX4_in_14 ?_
      exact jr_iret (pc := 15) hh hret rfl ⟨jsi (by unfold inI; omega), rfl⟩ (by decide) (by decide) dX4_in_15
    · skip
      refine jr_iconst (pc := 10) hh dX4_in_10 ?_
      refine jr_goto (tgt := 15) (pc := 11) hh dX4_in_11 (by decide) ?_
      exact jr_iret (pc := 15) hh hret rfl ⟨jsi (by unfold inI; omega), rfl⟩ (by decide) (by decide) dX4_in_15
theorem inI_01 (v lo hi : Int) : inI v lo hi = 0 ∨ inI v lo hi = 1 := by unfold inI; split <;> simp
theorem narB {v : Int} (h : v = 0 ∨ v = 1) : narrow .boolean (.int (iI v)) = .int (iI v) := by rcases h with rfl | rfl <;> rfl
set_option maxRecDepth 20000 in
theorem in_X4_isDriver_X4 : ∀ w ∈ u_ws RX4 TX4 22, w ∈ wsX4_isDriver := by decide +kernel
set_option maxHeartbeats 4000000 in
set_option maxRecDepth 100000 in
theorem c_X4_isDriver (l : Launch) (G : jG) (h : Nat → Nat) (F : Nat → Nat → Int) (V : Nat → Int) (fd : Nat → Int) (z : Int) (hz : jR z) (hV : 0 ≤ V 1 ∧ V 1 ≤ 10) : jMet l yX4_isDriver wsX4_isDriver { frames := 2, cells := 0, slots := 0, locals := 60 } G (wM G h F V fd) [.ref (h 0), .int (iI z)] (fun rv w1 => rv = some (.int (iI (inI z 0 (V 1 - 1)))) ∧ w1 = wM G h F V fd) := by
  refine jMet_of (cc := cX4_isDriver) (maxL := 2) (ret := (some .boolean)) (by decide +kernel) rfl (Nat.le_of_ble_eq_true rfl) ?_
  intro p e s m args below meth c A hh hret hinit
  refine jr_loc (lv' := [(0, .ref (h 0)), (1, .int (iI z))]) [0, 1] rfl ?_
  have hz1 := hz.1
  have hz2 := hz.2
  refine jr_iload_n (pc := 0) hh 1 dX4_isDriver_0 rfl rfl ?_
  refine jr_iconst (pc := 1) hh dX4_isDriver_1 ?_
  refine jr_aload_n (pc := 2) hh 0 dX4_isDriver_2 rfl rfl ?_
  refine jr_get (v := .int (iI (V 1))) (pc := 3) hh in_X4_isDriver_X4 0 rfl rfl 17 (by decide) (by decide +kernel : Cond.fieldLink RX4 65 (TX4 17).1 (TX4 17).2.1 (TX4 17).2.2.1 ∈ wsX4_isDriver) rfl dX4_isDriver_3 ?_
  refine jr_iconst (pc := 6) hh dX4_isDriver_6 ?_
  refine jr_isub (pc := 7) hh dX4_isDriver_7 ?_
  refine jr_callS (pc := 8) hh [.int (iI z), .int (iI 0), .int (iI ((V 1) - 1))] [] (c_X4_in l G z 0 ((V 1) - 1) ⟨by omega, by omega⟩ ⟨by omega, by omega⟩ ⟨by omega, by omega⟩) gX4_isDriver_X4_in rfl (by decide) (by decide) [] [0, 1, 2, 3, 4, 5, 6, 7, 8, 9, 10, 11, 12, 13, 14, 15, 16] rfl rfl rfl rfl (by decide) 3 rfl rfl (Nat.le_of_ble_eq_true rfl) (by decide +kernel) dX4_isDriver_8 (fun rvu1 wu1 hu1 => ?_)
  obtain ⟨rfl, rfl⟩ := hu1
  refine jr_perm (ws' := (wM G h F V fd)) (st := [.int (iI (inI z 0 ((V 1) - 1)))]) [0, 1, 2, 3, 4, 5, 6, 7, 8, 9, 10, 11, 12, 13, 14, 15, 16] rfl rfl ?_
  exact jr_iret (pc := 11) hh hret (narB (inI_01 _ _ _)) ⟨rfl, rfl⟩ (by decide) (by decide) dX4_isDriver_11
set_option maxRecDepth 20000 in
theorem in_X4_isLine_X4 : ∀ w ∈ u_ws RX4 TX4 22, w ∈ wsX4_isLine := by decide +kernel
set_option maxHeartbeats 4000000 in
set_option maxRecDepth 100000 in
theorem c_X4_isLine (l : Launch) (G : jG) (h : Nat → Nat) (F : Nat → Nat → Int) (V : Nat → Int) (fd : Nat → Int) (z : Int) (hz : jR z) (hV : 0 ≤ V 2 ∧ V 2 ≤ 10) : jMet l yX4_isLine wsX4_isLine { frames := 2, cells := 0, slots := 0, locals := 60 } G (wM G h F V fd) [.ref (h 0), .int (iI z)] (fun rv w1 => rv = some (.int (iI (inI z 0 (V 2 - 1)))) ∧ w1 = wM G h F V fd) := by
  refine jMet_of (cc := cX4_isLine) (maxL := 2) (ret := (some .boolean)) (by decide +kernel) rfl (Nat.le_of_ble_eq_true rfl) ?_
  intro p e s m args below meth c A hh hret hinit
  refine jr_loc (lv' := [(0, .ref (h 0)), (1, .int (iI z))]) [0, 1] rfl ?_
  have hz1 := hz.1
  have hz2 := hz.2
  refine jr_iload_n (pc := 0) hh 1 dX4_isLine_0 rfl rfl ?_
  refine jr_iconst (pc := 1) hh dX4_isLine_1 ?_
  refine jr_aload_n (pc := 2) hh 0 dX4_isLine_2 rfl rfl ?_
  refine jr_get (v := .int (iI (V 2))) (pc := 3) hh in_X4_isLine_X4 0 rfl rfl 18 (by decide) (by decide +kernel : Cond.fieldLink RX4 68 (TX4 18).1 (TX4 18).2.1 (TX4 18).2.2.1 ∈ wsX4_isLine) rfl dX4_isLine_3 ?_
  refine jr_iconst (pc := 6) hh dX4_isLine_6 ?_
  refine jr_isub (pc := 7) hh dX4_isLine_7 ?_
  refine jr_callS (pc := 8) hh [.int (iI z), .int (iI 0), .int (iI ((V 2) - 1))] [] (c_X4_in l G z 0 ((V 2) - 1) ⟨by omega, by omega⟩ ⟨by omega, by omega⟩ ⟨by omega, by omega⟩) gX4_isLine_X4_in rfl (by decide) (by decide) [] [0, 1, 2, 3, 4, 5, 6, 7, 8, 9, 10, 11, 12, 13, 14, 15, 16] rfl rfl rfl rfl (by decide) 3 rfl rfl (Nat.le_of_ble_eq_true rfl) (by decide +kernel) dX4_isLine_8 (fun rvu1 wu1 hu1 => ?_)
  obtain ⟨rfl, rfl⟩ := hu1
  refine jr_perm (ws' := (wM G h F V fd)) (st := [.int (iI (inI z 0 ((V 2) - 1)))]) [0, 1, 2, 3, 4, 5, 6, 7, 8, 9, 10, 11, 12, 13, 14, 15, 16] rfl rfl ?_
  exact jr_iret (pc := 11) hh hret (narB (inI_01 _ _ _)) ⟨rfl, rfl⟩ (by decide) (by decide) dX4_isLine_11
set_option maxRecDepth 20000 in
theorem in_X4_isScenario_X4 : ∀ w ∈ u_ws RX4 TX4 22, w ∈ wsX4_isScenario := by decide +kernel
set_option maxHeartbeats 4000000 in
set_option maxRecDepth 100000 in
theorem c_X4_isScenario (l : Launch) (G : jG) (h : Nat → Nat) (F : Nat → Nat → Int) (V : Nat → Int) (fd : Nat → Int) (z : Int) (hz : jR z) (hV : 0 ≤ V 3 ∧ V 3 ≤ 10) : jMet l yX4_isScenario wsX4_isScenario { frames := 2, cells := 0, slots := 0, locals := 60 } G (wM G h F V fd) [.ref (h 0), .int (iI z)] (fun rv w1 => rv = some (.int (iI (inI z 0 (V 3 - 1)))) ∧ w1 = wM G h F V fd) := by
  refine jMet_of (cc := cX4_isScenario) (maxL := 2) (ret := (some .boolean)) (by decide +kernel) rfl (Nat.le_of_ble_eq_true rfl) ?_
  intro p e s m args below meth c A hh hret hinit
  refine jr_loc (lv' := [(0, .ref (h 0)), (1, .int (iI z))]) [0, 1] rfl ?_
  have hz1 := hz.1
  have hz2 := hz.2
  refine jr_iload_n (pc := 0) hh 1 dX4_isScenario_0 rfl rfl ?_
  refine jr_iconst (pc := 1) hh dX4_isScenario_1 ?_
  refine jr_aload_n (pc := 2) hh 0 dX4_isScenario_2 rfl rfl ?_
  refine jr_get (v := .int (iI (V 3))) (pc := 3) hh in_X4_isScenario_X4 0 rfl rfl 19 (by decide) (by decide +kernel : Cond.fieldLink RX4 71 (TX4 19).1 (TX4 19).2.1 (TX4 19).2.2.1 ∈ wsX4_isScenario) rfl dX4_isScenario_3 ?_
  refine jr_iconst (pc := 6) hh dX4_isScenario_6 ?_
  refine jr_isub (pc := 7) hh dX4_isScenario_7 ?_
  refine jr_callS (pc := 8) hh [.int (iI z), .int (iI 0), .int (iI ((V 3) - 1))] [] (c_X4_in l G z 0 ((V 3) - 1) ⟨by omega, by omega⟩ ⟨by omega, by omega⟩ ⟨by omega, by omega⟩) gX4_isScenario_X4_in rfl (by decide) (by decide) [] [0, 1, 2, 3, 4, 5, 6, 7, 8, 9, 10, 11, 12, 13, 14, 15, 16] rfl rfl rfl rfl (by decide) 3 rfl rfl (Nat.le_of_ble_eq_true rfl) (by decide +kernel) dX4_isScenario_8 (fun rvu1 wu1 hu1 => ?_)
  obtain ⟨rfl, rfl⟩ := hu1
  refine jr_perm (ws' := (wM G h F V fd)) (st := [.int (iI (inI z 0 ((V 3) - 1)))]) [0, 1, 2, 3, 4, 5, 6, 7, 8, 9, 10, 11, 12, 13, 14, 15, 16] rfl rfl ?_
  exact jr_iret (pc := 11) hh hret (narB (inI_01 _ _ _)) ⟨rfl, rfl⟩ (by decide) (by decide) dX4_isScenario_11
set_option maxHeartbeats 4000000 in
set_option maxRecDepth 100000 in
theorem c_X4_isMonth (l : Launch) (G : jG) (z : Int) (hz : jR z) : jMet l yX4_isMonth wsX4_isMonth { frames := 2, cells := 0, slots := 0, locals := 60 } G ([] : va_W) [.int (iI z)] (fun rv w1 => rv = some (.int (iI (inI z 0 11))) ∧ w1 = []) := by
  refine jMet_of (cc := cX4_isMonth) (maxL := 1) (ret := (some .boolean)) (by decide +kernel) rfl (Nat.le_of_ble_eq_true rfl) ?_
  intro p e s m args below meth c A hh hret hinit
  refine jr_loc (lv' := [(0, .int (iI z))]) [0] rfl ?_
  have hz1 := hz.1
  have hz2 := hz.2
  refine jr_iload_n (pc := 0) hh 0 dX4_isMonth_0 rfl rfl ?_
  refine jr_iconst (pc := 1) hh dX4_isMonth_1 ?_
  refine jr_bipush (pc := 2) hh dX4_isMonth_2 (by decide) ?_
  refine jr_callS (pc := 4) hh [.int (iI z), .int (iI 0), .int (iI 11)] [] (c_X4_in l G z 0 11 ⟨by omega, by omega⟩ ⟨by omega, by omega⟩ ⟨by omega, by omega⟩) gX4_isMonth_X4_in rfl (by decide) (by decide) [] [] rfl rfl rfl rfl (by decide) 3 rfl rfl (Nat.le_of_ble_eq_true rfl) (by decide +kernel) dX4_isMonth_4 (fun rvu1 wu1 hu1 => ?_)
  obtain ⟨rfl, rfl⟩ := hu1
  refine jr_perm (ws' := ([] : va_W)) (st := [.int (iI (inI z 0 11))]) [] rfl rfl ?_
  exact jr_iret (pc := 7) hh hret (narB (inI_01 _ _ _)) ⟨rfl, rfl⟩ (by decide) (by decide) dX4_isMonth_7
set_option maxHeartbeats 4000000 in
set_option maxRecDepth 100000 in
theorem c_X4_at (l : Launch) (G : jG) (i0 t0 : Nat) : jMet l yX4_at wsX4_at { frames := 1, cells := 0, slots := 0, locals := 30 } G ([] : va_W) [.int (iI (i0 : Int)), .int (iI (t0 : Int))] (fun rv w1 => rv = some (.int (iI ((i0 * 12 + t0 : Nat) : Int))) ∧ w1 = []) := by
  refine jMet_of (cc := cX4_at) (maxL := 2) (ret := (some .int)) (by decide +kernel) rfl (Nat.le_of_ble_eq_true rfl) ?_
  intro p e s m args below meth c A hh hret hinit
  refine jr_loc (lv' := [(0, .int (iI (i0 : Int))), (1, .int (iI (t0 : Int)))]) [0, 1] rfl ?_
  refine jr_bipush (pc := 0) hh dX4_at_0 (by decide) ?_
  refine jr_iload_n (pc := 2) hh 0 dX4_at_2 rfl rfl ?_
  refine jr_imul (pc := 3) hh dX4_at_3 ?_
  refine jr_iload_n (pc := 4) hh 1 dX4_at_4 rfl rfl ?_
  refine jr_iadd (pc := 5) hh dX4_at_5 ?_
  exact jr_iret (pc := 6) hh hret rfl ⟨jsi (by omega), rfl⟩ (by decide) (by decide) dX4_at_6
set_option maxRecDepth 20000 in
theorem in_X4_checked_X4 : ∀ w ∈ u_ws RX4 TX4 22, w ∈ wsX4_checked := by decide +kernel
set_option maxHeartbeats 4000000 in
set_option maxRecDepth 100000 in
theorem c_X4_checked (l : Launch) (G : jG) (h : Nat → Nat) (F : Nat → Nat → Int) (V : Nat → Int) (fd : Nat → Int) (z : Int) (hz : z = 0 ∨ z = 1) : jMet l yX4_checked wsX4_checked { frames := 1, cells := 0, slots := 0, locals := 30 } G (wM G h F V fd) [.ref (h 0), .int (iI z)] (fun rv w1 => rv = some (.int (iI (1 - z))) ∧ w1 = wM G h F (jU V 0 (1 - z)) fd) := by
  refine jMet_of (cc := cX4_checked) (maxL := 2) (ret := (some .int)) (by decide +kernel) rfl (Nat.le_of_ble_eq_true rfl) ?_
  intro p e s m args below meth c A hh hret hinit
  refine jr_loc (lv' := [(0, .ref (h 0)), (1, .int (iI z))]) [0, 1] rfl ?_
  refine jr_aload_n (pc := 0) hh 0 dX4_checked_0 rfl rfl ?_
  refine jr_iload_n (pc := 1) hh 1 dX4_checked_1 rfl rfl ?_
  refine jr_if_eq (tgt := 9) (pc := 2) hh dX4_checked_2 (by decide) ⟨by omega, by omega⟩ (fun c1 => ?_) (fun c1 => ?_)
  · skip
    refine jr_iconst (pc := 9) hh dX4_checked_9 ?_
    refine jr_put (ws' := (wM G h F (jU V 0 1) fd)) (pc := 10) hh in_X4_checked_X4 tyX4_ok nmX4 0 rfl rfl 16 (by decide) (by decide +kernel : Cond.fieldLink RX4 61 (TX4 16).1 (TX4 16).2.1 (TX4 16).2.2.1 ∈ wsX4_checked) rfl rfl (Nat.le_of_ble_eq_true rfl) rfl dX4_checked_10 ?_
    refine jr_aload_n (pc := 13) hh 0 dX4_checked_13 rfl rfl ?_
    refine jr_get (v := .int (iI 1)) (pc := 14) hh in_X4_checked_X4 0 rfl rfl 16 (by decide) (by decide +kernel : Cond.fieldLink RX4 61 (TX4 16).1 (TX4 16).2.1 (TX4 16).2.2.1 ∈ wsX4_checked) rfl dX4_checked_14 ?_
    exact jr_iret (pc := 17) hh hret rfl ⟨jsi (by omega), by rw [show 1 - z = 1 by omega]⟩ (by decide) (by decide) dX4_checked_17
  · skip
    refine jr_iconst (pc := 5) hh dX4_checked_5 ?_
    refine jr_goto (tgt := 10) (pc := 6) hh dX4_checked_6 (by decide) ?_
    refine jr_put (ws' := (wM G h F (jU V 0 0) fd)) (pc := 10) hh in_X4_checked_X4 tyX4_ok nmX4 0 rfl rfl 16 (by decide) (by decide +kernel : Cond.fieldLink RX4 61 (TX4 16).1 (TX4 16).2.1 (TX4 16).2.2.1 ∈ wsX4_checked) rfl rfl (Nat.le_of_ble_eq_true rfl) rfl dX4_checked_10 ?_
    refine jr_aload_n (pc := 13) hh 0 dX4_checked_13 rfl rfl ?_
    refine jr_get (v := .int (iI 0)) (pc := 14) hh in_X4_checked_X4 0 rfl rfl 16 (by decide) (by decide +kernel : Cond.fieldLink RX4 61 (TX4 16).1 (TX4 16).2.1 (TX4 16).2.2.1 ∈ wsX4_checked) rfl dX4_checked_14 ?_
    exact jr_iret (pc := 17) hh hret rfl ⟨jsi (by omega), by rw [show 1 - z = 0 by omega]⟩ (by decide) (by decide) dX4_checked_17
set_option maxRecDepth 20000 in
theorem in_X4_isUnder_X4 : ∀ w ∈ u_ws RX4 TX4 22, w ∈ wsX4_isUnder := by decide +kernel
set_option maxHeartbeats 4000000 in
set_option maxRecDepth 100000 in
theorem c_X4_isUnder (l : Launch) (G : jG) (h : Nat → Nat) (F : Nat → Nat → Int) (V : Nat → Int) (fd : Nat → Int) (s0 : Nat) (a : Int) (hs : (s0 : Int) < V 3) (ha : 1 ≤ a ∧ a ≤ 3) (hV : V 3 ≤ 4) (hp : ∀ k : Nat, (k : Int) < V 3 → -1 ≤ F 4 k ∧ F 4 k < k) : jMet l yX4_isUnder wsX4_isUnder { frames := 1, cells := 0, slots := 0, locals := 30 } G (wM G h F V fd) [.ref (h 0), .int (iI (s0 : Int)), .int (iI a)] (fun rv w1 => rv = some (.int (iI (und (F 4) (s0 + 1) s0 a))) ∧ w1 = wM G h F V fd) := by
  refine jMet_of (cc := cX4_isUnder) (maxL := 4) (ret := (some .boolean)) (by decide +kernel) rfl (Nat.le_of_ble_eq_true rfl) ?_
  intro p e s m args below meth c A hh hret hinit
  refine jr_loc (lv' := [(0, .ref (h 0)), (1, .int (iI (s0 : Int))), (2, .int (iI a))]) [0, 1, 2] rfl ?_
  refine jr_iload_n (pc := 0) hh 1 dX4_isUnder_0 rfl rfl ?_
  refine jr_istore_n (lv' := [(3, .int (iI (s0 : Int))), (0, .ref (h 0)), (1, .int (iI (s0 : Int))), (2, .int (iI a))]) (pc := 1) hh dX4_isUnder_1 rfl (by decide) rfl ?_
  refine jr_loc (lv' := [(0, .ref (h 0)), (1, .int (iI (s0 : Int))), (2, .int (iI a)), (3, .int (iI (s0 : Int)))]) [1, 2, 3, 0] rfl ?_
  refine jr_loop (σ := Int) (fun (x : Int) => (-1 ≤ x ∧ x < V 3) ∧ (und (F 4) (x + 1).toNat x a = und (F 4) (s0 + 1) s0 a)) (fun (x : Int) => (x + 1).toNat) (fun (x : Int) => (wM G h F V fd)) (fun (x : Int) => [(0, .ref (h 0)), (1, .int (iI (s0 : Int))), (2, .int (iI a)), (3, .int (iI x))]) (fun (x : Int) => []) ?_ ((s0 : Int)) ⟨by (try dsimp only); omega, by rw [show ((s0 : Int) + 1).toNat = s0 + 1 by (try dsimp only); omega]⟩
  rintro x ⟨hx, hu⟩ ih1
  dsimp only at ih1 ⊢
  try dsimp only at hx hu
  refine jr_iload_n (pc := 2) hh 3 dX4_isUnder_2 rfl rfl ?_
  refine jr_if_lt (tgt := 21) (pc := 3) hh dX4_isUnder_3 (by decide) ⟨by omega, by omega⟩ (fun c2 => ?_) (fun c2 => ?_)
  · skip
    refine jr_iload_n (pc := 21) hh 3 dX4_isUnder_21 rfl rfl ?_
    refine jr_iload_n (pc := 22) hh 2 dX4_isUnder_22 rfl rfl ?_
    refine jr_icmp_ne (tgt := 30) (pc := 23) hh dX4_isUnder_23 (by decide) ⟨by omega, by omega⟩ ⟨by omega, by omega⟩ (fun c3 => ?_) (fun c3 => ?_)
    · skip
      refine jr_iconst (pc := 30) hh dX4_isUnder_30 ?_
      exact jr_iret (pc := 31) hh hret (by decide) ⟨jsi (by rw [← hu, und_un (by omega)]; omega), rfl⟩ (by decide) (by decide) dX4_isUnder_31
    · skip
      refine jr_iconst (pc := 26) hh dX4_isUnder_26 ?_
      refine jr_goto (tgt := 31) (pc := 27) hh dX4_isUnder_27 (by decide) ?_
      exact jr_iret (pc := 31) hh hret (by decide) ⟨jsi (by rw [← hu, und_un (by omega)]; omega), rfl⟩ (by decide) (by decide) dX4_isUnder_31
  · skip
    refine jr_iload_n (pc := 6) hh 3 dX4_isUnder_6 rfl rfl ?_
    refine jr_iload_n (pc := 7) hh 2 dX4_isUnder_7 rfl rfl ?_
    refine jr_icmp_eq (tgt := 21) (pc := 8) hh dX4_isUnder_8 (by decide) ⟨by omega, by omega⟩ ⟨by omega, by omega⟩ (fun c4 => ?_) (fun c4 => ?_)
    · skip
      refine jr_iload_n (pc := 21) hh 3 dX4_isUnder_21 rfl rfl ?_
      refine jr_iload_n (pc := 22) hh 2 dX4_isUnder_22 rfl rfl ?_
      refine jr_icmp_ne (tgt := 30) (pc := 23) hh dX4_isUnder_23 (by decide) ⟨by omega, by omega⟩ ⟨by omega, by omega⟩ (fun c5 => ?_) (fun c5 => ?_)
      · skip
        refine jr_iconst (pc := 30) hh dX4_isUnder_30 ?_
        exact jr_iret (pc := 31) hh hret (by decide) ⟨jsi (by rw [← hu, und_un (by omega)]; omega), rfl⟩ (by decide) (by decide) dX4_isUnder_31
      · skip
        refine jr_iconst (pc := 26) hh dX4_isUnder_26 ?_
        refine jr_goto (tgt := 31) (pc := 27) hh dX4_isUnder_27 (by decide) ?_
        exact jr_iret (pc := 31) hh hret (by decide) ⟨jsi (by rw [← hu, und_un (by omega)]; omega), rfl⟩ (by decide) (by decide) dX4_isUnder_31
    · skip
      have hpx := hp x.toNat (by omega)
      refine jr_aload_n (pc := 11) hh 0 dX4_isUnder_11 rfl rfl ?_
      refine jr_get (v := .ref (h 5)) (pc := 12) hh in_X4_isUnder_X4 0 rfl rfl 4 (by decide) (by decide +kernel : Cond.fieldLink RX4 22 (TX4 4).1 (TX4 4).2.1 (TX4 4).2.2.1 ∈ wsX4_isUnder) rfl dX4_isUnder_12 ?_
      refine jr_iload_n (pc := 15) hh 3 dX4_isUnder_15 rfl rfl ?_
      refine jr_iald (F := (F 4)) (pc := 16) hh 5 rfl x.toNat (by omega) (by omega) (by decide) dX4_isUnder_16 ?_
      refine jr_istore_n (lv' := [(3, .int (iI ((F 4) x.toNat))), (0, .ref (h 0)), (1, .int (iI (s0 : Int))), (2, .int (iI a))]) (pc := 17) hh dX4_isUnder_17 rfl (by decide) rfl ?_
      refine jr_goto (tgt := 2) (pc := 18) hh dX4_isUnder_18 (by decide) ?_
      have hu2 : und (F 4) (F 4 x.toNat + 1).toNat (F 4 x.toNat) a = und (F 4) (s0 + 1) s0 a := by
        rw [← hu, und_un (x := x) (by omega), if_neg (by omega), if_neg (by omega)]
        exact und_fuel (c := (V 3).toNat) (fun k hk9 => hp k (by omega)) _ _ _ _ (by omega) (by omega) (by omega)
      refine jr_loc (lv' := [(0, .ref (h 0)), (1, .int (iI (s0 : Int))), (2, .int (iI a)), (3, .int (iI ((F 4) x.toNat)))]) [1, 2, 3, 0] rfl ?_
      exact ih1 (((F 4) x.toNat)) ⟨by (try dsimp only); omega, hu2⟩ (by (try dsimp only); omega)
