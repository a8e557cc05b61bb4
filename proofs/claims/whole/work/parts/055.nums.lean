/-! numbers of lines, chains of scenarios: the words of the document over whole numbers -/
def opC (kd a b : Int) : Int := if kd = 115 then a + b else if kd = 109 then a - b else (a * b).tdiv 100
def cmbO (kd : Int) (x y : Option Int) : Option Int := match x, y with
  | some a, some b => if -99999999 ≤ opC kd a b ∧ opC kd a b ≤ 99999999 then some (opC kd a b) else none
  | _, _ => none
def enc (x : Option Int) : Int := match x with
  | none => -1000000000
  | some v => v
def cmbI (kd a b : Int) : Int := if a = -1000000000 ∨ b = -1000000000 then -1000000000 else if -99999999 ≤ opC kd a b ∧ opC kd a b ≤ 99999999 then opC kd a b else -1000000000
def inB (x : Option Int) : Prop := ∀ v, x = some v → -99999999 ≤ v ∧ v ≤ 99999999
theorem enc_range {x : Option Int} (h : inB x) : -1000000000 ≤ enc x ∧ enc x ≤ 99999999 := by
  cases x with
  | none => exact ⟨by decide, by decide⟩
  | some v => have := h v rfl; exact ⟨by show -1000000000 ≤ v; omega, by show v ≤ 99999999; omega⟩
theorem enc_none {x : Option Int} (h : inB x) : enc x = -1000000000 ↔ x = none := by
  cases x with
  | none => exact ⟨fun _ => rfl, fun _ => rfl⟩
  | some v => have := h v rfl; exact ⟨fun q => absurd (show v = -1000000000 from q) (by omega), fun q => nomatch q⟩
theorem cmbO_B (kd : Int) (x y : Option Int) : inB (cmbO kd x y) := by
  intro v hv
  unfold cmbO at hv
  split at hv
  · split at hv
    · cases hv; assumption
    · cases hv
  · cases hv
theorem cmbI_enc {kd : Int} {x y : Option Int} (hx : inB x) (hy : inB y) : cmbI kd (enc x) (enc y) = enc (cmbO kd x y) := by
  cases x with
  | none => unfold cmbI; rw [if_pos (Or.inl (show enc none = -1000000000 from rfl))]; cases y <;> rfl
  | some a =>
    cases y with
    | none => unfold cmbI; rw [if_pos (Or.inr (show enc none = -1000000000 from rfl))]; rfl
    | some b =>
      have h1 := hx a rfl
      have h2 := hy b rfl
      unfold cmbI cmbO
      show (if a = -1000000000 ∨ b = -1000000000 then -1000000000 else if -99999999 ≤ opC kd a b ∧ opC kd a b ≤ 99999999 then opC kd a b else -1000000000) = enc (if -99999999 ≤ opC kd a b ∧ opC kd a b ≤ 99999999 then some (opC kd a b) else none)
      rw [if_neg (by omega)]
      split <;> rfl
theorem tdiv_b {x M : Int} (h : -M * 100 ≤ x ∧ x ≤ M * 100) : -M ≤ x.tdiv 100 ∧ x.tdiv 100 ≤ M := by
  by_cases h0 : 0 ≤ x
  · rw [Int.tdiv_eq_ediv_of_nonneg h0]; omega
  · have e : x.tdiv 100 = -((-x).tdiv 100) := by rw [Int.neg_tdiv, Int.neg_neg]
    rw [e, Int.tdiv_eq_ediv_of_nonneg (by omega : 0 ≤ -x)]; omega
/-- the product of two numbers in range is far from a long's ends -/
theorem mul_b {a b : Int} (ha : -1000000000 ≤ a ∧ a ≤ 1000000000) (hb : -1000000000 ≤ b ∧ b ≤ 1000000000) : -1000000000000000000 ≤ a * b ∧ a * b ≤ 1000000000000000000 := by
  have h1 : (a * b).natAbs ≤ 1000000000 * 1000000000 := by
    rw [Int.natAbs_mul]
    exact Nat.mul_le_mul (by omega) (by omega)
  omega
/-- a line's number, from those of the lines below it -/
def lcalc (act : Nat → Option Int) (kd on ot drv : Nat → Int) (g : Nat → Option Int) (n : Nat) : Option Int := match act n with
  | some v => some v
  | none => if kd n = 100 then some (drv (on n).toNat) else cmbO (kd n) (g (on n).toNat) (g (ot n).toNat)
def ltab (act : Nat → Option Int) (kd on ot drv : Nat → Int) : Nat → Nat → Option Int
  | 0 => fun _ => none
  | n + 1 => fun j => if j = n then lcalc act kd on ot drv (ltab act kd on ot drv n) n else ltab act kd on ot drv n j
def lnum (act : Nat → Option Int) (kd on ot drv : Nat → Int) (j : Nat) : Option Int := ltab act kd on ot drv (j + 1) j
theorem ltab_eq {act : Nat → Option Int} {kd on ot drv : Nat → Int} {n j : Nat} (h : j < n) : ltab act kd on ot drv n j = lnum act kd on ot drv j := by
  induction n with
  | zero => omega
  | succ n ih =>
    by_cases hj : j = n
    · subst hj; rfl
    · show (if j = n then _ else ltab act kd on ot drv n j) = _
      rw [if_neg hj]
      exact ih (by omega)
theorem lcalc_congr {act : Nat → Option Int} {kd on ot drv : Nat → Int} {g g2 : Nat → Option Int} {n : Nat} (h : act n = none → kd n ≠ 100 → g (on n).toNat = g2 (on n).toNat ∧ g (ot n).toNat = g2 (ot n).toNat) : lcalc act kd on ot drv g n = lcalc act kd on ot drv g2 n := by
  unfold lcalc
  cases ha : act n with
  | some v => rfl
  | none =>
    dsimp only
    by_cases hk : kd n = 100
    · rw [if_pos hk, if_pos hk]
    · rw [if_neg hk, if_neg hk, (h ha hk).1, (h ha hk).2]
theorem lnum_eq {act : Nat → Option Int} {kd on ot drv : Nat → Int} {n : Nat} (h : kd n ≠ 100 → (0 ≤ on n ∧ on n < n) ∧ (0 ≤ ot n ∧ ot n < n)) : lnum act kd on ot drv n = lcalc act kd on ot drv (lnum act kd on ot drv) n := by
  unfold lnum
  show (if n = n then lcalc act kd on ot drv (ltab act kd on ot drv n) n else _) = _
  rw [if_pos rfl]
  refine lcalc_congr (fun _ hk => ?_)
  have := h hk
  exact ⟨ltab_eq (by omega), ltab_eq (by omega)⟩
theorem lnum_B {act : Nat → Option Int} {kd on ot drv : Nat → Int} {n : Nat} (h : kd n ≠ 100 → (0 ≤ on n ∧ on n < n) ∧ (0 ≤ ot n ∧ ot n < n)) (ha : inB (act n)) (hd : kd n = 100 → -99999999 ≤ drv (on n).toNat ∧ drv (on n).toNat ≤ 99999999) : inB (lnum act kd on ot drv n) := by
  rw [lnum_eq h]
  intro v hv
  unfold lcalc at hv
  cases he : act n with
  | some w => rw [he] at hv; cases hv; exact ha _ he
  | none =>
    rw [he] at hv
    dsimp only at hv
    by_cases hk : kd n = 100
    · rw [if_pos hk] at hv; cases hv; exact hd hk
    · rw [if_neg hk] at hv; exact cmbO_B _ _ _ v hv
theorem lnum_congr {act act2 : Nat → Option Int} {kd kd2 on on2 ot ot2 drv drv2 : Nat → Int} {n : Nat} (hw : ∀ j, j < n → kd j ≠ 100 → (0 ≤ on j ∧ on j < j) ∧ (0 ≤ ot j ∧ ot j < j)) (ha : ∀ j, j < n → act j = act2 j) (hk : ∀ j, j < n → kd j = kd2 j) (ho : ∀ j, j < n → on j = on2 j) (ht : ∀ j, j < n → kd j ≠ 100 → ot j = ot2 j) (hd : ∀ j, j < n → kd j = 100 → drv (on j).toNat = drv2 (on j).toNat) : ∀ j, j < n → lnum act kd on ot drv j = lnum act2 kd2 on2 ot2 drv2 j := by
  intro j
  induction j using Nat.strongRecOn with
  | ind j ih =>
    intro hj
    have hw1 := hw j hj
    have hw2 : kd2 j ≠ 100 → (0 ≤ on2 j ∧ on2 j < j) ∧ (0 ≤ ot2 j ∧ ot2 j < j) := fun q => by
      have q1 : kd j ≠ 100 := by rw [hk j hj]; exact q
      rw [← ho j hj, ← ht j hj q1]; exact hw1 q1
    rw [lnum_eq hw1, lnum_eq hw2]
    unfold lcalc
    rw [← ha j hj, ← hk j hj, ← ho j hj]
    cases act j with
    | some v => rfl
    | none =>
      dsimp only
      by_cases hq : kd j = 100
      · rw [if_pos hq, if_pos hq, hd j hj hq]
      · have h3 := hw1 hq
        rw [if_neg hq, if_neg hq, ← ht j hj hq, ih _ (by omega) (by omega), ih _ (by omega) (by omega)]
/-- what is added along a scenario and its parents -/
def chS (par : Nat → Int) (g : Nat → Int) : Nat → Int → Int
  | 0, _ => 0
  | n + 1, s => if s ≤ 0 then 0 else g s.toNat + chS par g n (par s.toNat)
theorem chS_0 {par g : Nat → Int} {n : Nat} {s : Int} (h : s ≤ 0) : chS par g n s = 0 := by
  cases n with
  | zero => rfl
  | succ n => show (if s ≤ 0 then _ else _) = _; rw [if_pos h]
theorem chS_s {par g : Nat → Int} {n : Nat} {s : Int} (h : 0 < s) : chS par g (n + 1) s = g s.toNat + chS par g n (par s.toNat) := by
  show (if s ≤ 0 then _ else _) = _
  rw [if_neg (by omega)]
theorem chS_fuel {par g : Nat → Int} {c : Nat} (hp : ∀ k, 1 ≤ k → k < c → par k < k) : ∀ (n m : Nat) (s : Int), s < c → s ≤ n → s ≤ m → chS par g n s = chS par g m s := by
  intro n
  induction n with
  | zero => intro m s _ h1 _; rw [chS_0 (by omega), chS_0 (by omega)]
  | succ n ih =>
    intro m s h0 h1 h2
    by_cases hs : s ≤ 0
    · rw [chS_0 hs, chS_0 hs]
    · cases m with
      | zero => omega
      | succ m =>
        rw [chS_s (by omega), chS_s (by omega)]
        have h3 := hp s.toNat (by omega) (by omega)
        rw [ih m (par s.toNat) (by omega) (by omega) (by omega)]
theorem chS_bound {par g : Nat → Int} {c : Nat} {B : Int} (hB : 0 ≤ B) (hp : ∀ k, 1 ≤ k → k < c → par k < k) (hg : ∀ k, 1 ≤ k → k < c → -B ≤ g k ∧ g k ≤ B) : ∀ (n : Nat) (s : Int), s < c → -(n : Int) * B ≤ chS par g n s ∧ chS par g n s ≤ (n : Int) * B := by
  intro n
  induction n with
  | zero => intro s _; rw [show chS par g 0 s = 0 from rfl]; simp
  | succ n ih =>
    intro s hs
    have hnB : 0 ≤ (n : Int) * B := Int.mul_nonneg (by omega) hB
    have e1 : ((n + 1 : Nat) : Int) * B = (n : Int) * B + B := by rw [Int.natCast_succ, Int.add_mul, Int.one_mul]
    have e2 : -((n + 1 : Nat) : Int) * B = -((n : Int) * B + B) := by rw [Int.neg_mul, e1]
    rw [e1, e2]
    by_cases h0 : s ≤ 0
    · rw [chS_0 h0]; omega
    · rw [chS_s (by omega)]
      have h3 := hp s.toNat (by omega) (by omega)
      have h4 := hg s.toNat (by omega) (by omega)
      have h5 := ih (par s.toNat) (by omega)
      rw [Int.neg_mul] at h5
      omega
theorem chS_congr {par par2 g g2 : Nat → Int} {c : Nat} (hp : ∀ k, 1 ≤ k → k < c → par k < k ∧ par k = par2 k) (hg : ∀ k, 1 ≤ k → k < c → g k = g2 k) : ∀ (n : Nat) (s : Int), s < c → chS par g n s = chS par2 g2 n s := by
  intro n
  induction n with
  | zero => intro s _; rfl
  | succ n ih =>
    intro s hs
    by_cases h0 : s ≤ 0
    · rw [chS_0 h0, chS_0 h0]
    · have h3 := hp s.toNat (by omega) (by omega)
      rw [chS_s (by omega), chS_s (by omega), hg _ (by omega) (by omega), ih _ (by omega), h3.2]
/-- a row of months grown by x, at one place of twelve, from fr up to t -/
def adU (f : Nat → Int) (b fr t : Nat) (x : Int) : Nat → Int := fun j => if j / 12 = b ∧ fr ≤ j % 12 ∧ j % 12 < t then f j + x else f j
theorem adU_0 (f : Nat → Int) (b fr : Nat) (x : Int) : adU f b fr fr x = f := by
  funext j
  unfold adU
  rw [if_neg (by omega)]
theorem adU_s (f : Nat → Int) (b fr t : Nat) (x : Int) (h1 : fr ≤ t) (h2 : t < 12) : jU (adU f b fr t x) (b * 12 + t) (adU f b fr t x (b * 12 + t) + x) = adU f b fr (t + 1) x := by
  funext j
  unfold jU adU
  by_cases hj : j = b * 12 + t
  · subst hj
    rw [if_pos rfl, if_neg (by omega), if_pos (by omega)]
  · rw [if_neg hj]
    by_cases hq : j / 12 = b ∧ fr ≤ j % 12 ∧ j % 12 < t
    · rw [if_pos hq, if_pos (by omega)]
    · rw [if_neg hq, if_neg (by omega)]
