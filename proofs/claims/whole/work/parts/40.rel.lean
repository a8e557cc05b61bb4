/-! the class's cells and the reference's: they tell the same -/
def addM (F : Nat → Nat → Int) (s d t : Nat) (k : Nat) : Int := if F 5 k = s ∧ F 6 k = d ∧ F 7 k ≤ t then F 8 k else 0
def Rel (FC : Nat → Nat → Int) (VC : Nat → Int) (FM : Nat → Nat → Int) (VM : Nat → Int) : Prop :=
  (VC 0 = VM 3 ∧ VC 1 = VM 4 ∧ VC 2 = VM 2 ∧ VC 3 = VM 1 ∧ VC 4 = VM 5) ∧
  (FC 0 = FM 0) ∧
  (∀ k : Nat, 1 ≤ k → (k : Int) < VM 3 → FC 2 k = FM 4 k ∧ 0 ≤ FM 4 k) ∧
  (∀ s : Nat, FC 3 s = cntTo (FM 5) s (VM 4).toNat) ∧
  (∀ s d t : Nat, d < 6 → t < 12 → FC 4 ((s * 6 + d) * 12 + t) = sumTo (addM FM s d t) (VM 4).toNat) ∧
  (FC 5 = FM 1 ∧ FC 6 = FM 2 ∧ ∀ i : Nat, (i : Int) < VM 2 → FM 1 i ≠ 100 → FC 7 i = FM 3 i) ∧
  (∀ c : Nat, c < 120 → FC 8 c = acX FM c) ∧
  (FC 11 = FM 14 ∧ FC 12 = FM 10 ∧ FC 13 = FM 11 ∧ ∀ c : Nat, FM 14 c = 45 → FM 11 c = 0)
def Inv (FC : Nat → Nat → Int) (VC : Nat → Int) (FM : Nat → Nat → Int) (VM : Nat → Int) : Prop := okM FM VM ∧ Rel FC VC FM VM ∧ okIn (FC 1)
theorem sumTo_zero {f : Nat → Int} {n : Nat} (h : ∀ k, k < n → f k = 0) : sumTo f n = 0 := by
  induction n with
  | zero => rfl
  | succ n ih => rw [sumTo_s, ih (fun k hk => h k (by omega)), h n (by omega)]; rfl
theorem sumTo_add (f g : Nat → Int) (n : Nat) : sumTo f n + sumTo g n = sumTo (fun k => f k + g k) n := by
  induction n with
  | zero => rfl
  | succ n ih => rw [sumTo_s, sumTo_s, sumTo_s, ← ih]; omega
theorem sumTo_swap (f : Nat → Nat → Int) (n m : Nat) : sumTo (fun i => sumTo (fun j => f i j) m) n = sumTo (fun j => sumTo (fun i => f i j) n) m := by
  induction n with
  | zero => exact (sumTo_zero (fun k _ => rfl)).symm
  | succ n ih => rw [sumTo_s, ih, sumTo_add]; rfl
theorem okC_of {FC : Nat → Nat → Int} {VC : Nat → Int} {FM : Nat → Nat → Int} {VM : Nat → Int} (h : Inv FC VC FM VM) : okC FC VC := by
  obtain ⟨hM, ⟨⟨v0, v1, v2, v3, v4⟩, e0, hp, -, had, ⟨e5, e6, e7⟩, hac, e11, e12, e13, -⟩, hin⟩ := h
  obtain ⟨m1, m2, m3, m4, m5, m6, m7, m8, m9, m10⟩ := hM
  unfold okC
  rw [v0, v1, v2, v3, v4, e0, e5, e6, e11, e12, e13]
  refine ⟨m3, m4, m2, m1, m5, m6, fun k h1 h2 => ?_, fun j hj => ?_, fun i hi => ?_, fun c hc => ?_, hin, fun c hc => ?_⟩
  · have q1 := hp k h1 h2
    have q2 := m8 k h2
    rw [q1.1]
    exact ⟨q1.2, q2.2⟩
  · have q1 := had (j / 72) (j / 12 % 6) (j % 12) (by omega) (by omega)
    rw [show (j / 72 * 6 + j / 12 % 6) * 12 + j % 12 = j by omega] at q1
    rw [q1]
    have q2 := sumTo_bound (f := addM FM (j / 72) (j / 12 % 6) (j % 12)) (a := -999) (b := 999) (n := (VM 4).toNat) (fun k hk => by
      have := (m9 k (by omega)).2.2.2
      unfold addM
      split <;> omega)
    omega
  · have q := m7 i hi
    refine ⟨q.1, q.2.1, fun hn => ?_⟩
    rw [e7 i hi hn]
    exact q.2.2 hn
  · have q1 := (m10 c hc).1
    rw [hac c hc]
    unfold acX
    split
    · exact Or.inr q1
    · exact Or.inl rfl
  · have q := m10 c hc
    exact ⟨by omega, q.2.1, q.2.2.1⟩
theorem und_zero {par : Nat → Int} {c : Nat} (hp : ∀ k : Nat, k < c → -1 ≤ par k ∧ par k < k) : ∀ (n : Nat) (x a : Int), x < c → x < a → und par n x a = 0 := by
  intro n
  induction n with
  | zero => intro x a _ _; rfl
  | succ n ih =>
    intro x a h1 h2
    show (if x < 0 then (0 : Int) else if x = a then 1 else und par n (par x.toNat) a) = 0
    by_cases hx : x < 0
    · rw [if_pos hx]
    · have h3 := hp x.toNat (by omega)
      rw [if_neg hx, if_neg (by omega)]
      exact ih _ _ (by omega) (by omega)
theorem chS_und {FC FM : Nat → Nat → Int} {c N d t : Nat} {g : Nat → Int} (hc : ∀ k : Nat, k < c → -1 ≤ FM 4 k ∧ FM 4 k < k) (hp : ∀ k : Nat, 1 ≤ k → k < c → FC 2 k = FM 4 k) (hs : ∀ k : Nat, k < N → 1 ≤ FM 5 k) (hg : ∀ j : Nat, g j = sumTo (addM FM j d t) N) : ∀ (n : Nat) (x : Int), x < c → x ≤ n → chS (FC 2) g n x = sumTo (fun k => if FM 6 k = d ∧ FM 7 k ≤ t ∧ und (FM 4) (x + 1).toNat x (FM 5 k) = 1 then FM 8 k else 0) N := by
  intro n
  induction n with
  | zero =>
    intro x h1 h2
    rw [chS_0 (by omega)]
    refine (sumTo_zero fun k hk => ?_).symm
    have := hs k hk
    rw [und_zero hc _ _ _ h1 (by omega : x < FM 5 k), if_neg (by omega)]
  | succ n ih =>
    intro x h1 h2
    by_cases hx : x ≤ 0
    · rw [chS_0 hx]
      refine (sumTo_zero fun k hk => ?_).symm
      have := hs k hk
      rw [und_zero hc _ _ _ h1 (by omega : x < FM 5 k), if_neg (by omega)]
    · have h3 := hc x.toNat (by omega)
      have h4 := hp x.toNat (by omega) (by omega)
      rw [chS_s (by omega), h4, ih _ (by omega) (by omega), hg, sumTo_add]
      refine sumTo_congr fun k hk => ?_
      have e1 := und_un (par := FM 4) (x := x) (a := FM 5 k) (by omega)
      have e2 := und_fuel hc x.toNat (FM 4 x.toNat + 1).toNat (FM 4 x.toNat) (FM 5 k) (by omega) (by omega) (by omega)
      have e3 := und_01 (FM 4) (FM 4 x.toNat + 1).toNat (FM 4 x.toNat) (FM 5 k)
      unfold addM
      by_cases hq : x = FM 5 k
      · have e4 := und_zero hc (FM 4 x.toNat + 1).toNat (FM 4 x.toNat) (FM 5 k) (by omega) (by omega)
        rw [if_neg (by omega), if_pos hq] at e1
        rw [e1, e4]
        by_cases hd : FM 6 k = d ∧ FM 7 k ≤ t
        · rw [if_pos (by omega), if_neg (by omega), if_pos (by omega)]; omega
        · rw [if_neg (by omega), if_neg (by omega), if_neg (by omega)]; omega
      · rw [if_neg (by omega), if_neg hq, e2] at e1
        rw [e1, if_neg (by omega), Int.zero_add]
theorem val_eq {FC : Nat → Nat → Int} {VC : Nat → Int} {FM : Nat → Nat → Int} {VM : Nat → Int} (h : Inv FC VC FM VM) {s d t : Nat} (hs : (s : Int) < VM 3) (hd : d < 6) (ht : t < 12) : valC FC s d t = valM FM VM s d t 6 := by
  obtain ⟨hM, ⟨-, e0, hp, -, had, -⟩, -⟩ := h
  obtain ⟨m1, m2, m3, m4, m5, m6, m7, m8, m9, m10⟩ := hM
  unfold valC valM
  rw [e0, chS_und (FC := FC) (FM := FM) (c := (VM 3).toNat) (N := (VM 4).toNat) (d := d) (t := t) (fun k hk => m8 k (by omega)) (fun k h1 h2 => (hp k h1 (by omega)).1) (fun k hk => (m9 k (by omega)).1.1) (fun j => had j d t hd ht) s (s : Int) (by omega) (by omega)]
  congr 1
  refine sumTo_congr fun k hk => ?_
  unfold difM
  rw [show ((s : Int) + 1).toNat = s + 1 by omega]
  by_cases hq : FM 6 k = d ∧ FM 7 k ≤ t ∧ und (FM 4) (s + 1) s (FM 5 k) = 1
  · rw [if_pos hq, if_pos ⟨hq.1, hd, hq.2⟩]
  · rw [if_neg hq, if_neg (fun z => hq ⟨z.1, z.2.2⟩)]
theorem drv_eq {FC : Nat → Nat → Int} {VC : Nat → Int} {FM : Nat → Nat → Int} {VM : Nat → Int} (h : Inv FC VC FM VM) {s d t cd : Nat} (hs : (s : Int) < VM 3) (hd : d < 6) (ht : t < 12) : drvC FC s t cd d = valM FM VM s d t cd := by
  unfold drvC
  by_cases hq : d < cd
  · rw [if_pos hq, val_eq h hs hd ht]
    unfold valM
    congr 1
    refine sumTo_congr fun k hk => ?_
    unfold difM
    by_cases hz : FM 6 k = d ∧ d < 6 ∧ FM 7 k ≤ t ∧ und (FM 4) (s + 1) s (FM 5 k) = 1
    · rw [if_pos hz, if_pos ⟨hz.1, hq, hz.2.2⟩]
    · rw [if_neg hz, if_neg (fun z => hz ⟨z.1, hd, z.2.2⟩)]
  · rw [if_neg hq, h.2.1.2.1]
    unfold valM
    rw [sumTo_zero (f := difM FM s d t cd) (fun k hk => by unfold difM; exact if_neg (fun z => hq z.2.1)), Int.add_zero]
theorem nm_eq {FC : Nat → Nat → Int} {VC : Nat → Int} {FM : Nat → Nat → Int} {VM : Nat → Int} (h : Inv FC VC FM VM) {s t cd i : Nat} (hs : (s : Int) < VM 3) (ht : t < 12) (hi : (i : Int) < VM 2) : nmC FC s t cd i = nmM FM VM s t cd i := by
  have hM := h.1
  obtain ⟨m1, m2, m3, m4, m5, m6, m7, m8, m9, m10⟩ := hM
  obtain ⟨e5, e6, e7⟩ := h.2.1.2.2.2.2.2.1
  have hac := h.2.1.2.2.2.2.2.2.1
  unfold nmC nmM
  rw [e5, e6]
  refine lnum_congr (n := i + 1) (fun j hj hk => ?_) (fun j hj => ?_) (fun _ _ => rfl) (fun _ _ => rfl) (fun j hj hk => e7 j (by omega) hk) (fun j hj hd => ?_) i (by omega)
  · rw [e7 j (by omega) hk]
    exact (m7 j (by omega)).2.2 hk
  · have q := m10 (j * 12 + t) (by omega)
    unfold actC actM
    rw [hac (j * 12 + t) (by omega)]
    unfold acX
    by_cases hq : FM 12 (j * 12 + t) = 1
    · rw [if_pos hq, if_pos hq, if_neg (by omega)]
    · rw [if_neg hq, if_neg hq, if_pos rfl]
  · have := (m7 j (by omega)).2.1 hd
    exact drv_eq h hs (by omega) ht
theorem valM_0 {FM : Nat → Nat → Int} {VM : Nat → Int} (hM : okM FM VM) (d t b : Nat) : valM FM VM 0 d t b = FM 0 d := by
  obtain ⟨m1, m2, m3, m4, m5, m6, m7, m8, m9, m10⟩ := hM
  unfold valM
  rw [sumTo_zero (f := difM FM 0 d t b) (fun k hk => ?_), Int.add_zero]
  have := (m9 k (by omega)).1.1
  unfold difM
  have e := und_zero (par := FM 4) (c := (VM 3).toNat) (fun k hk => m8 k (by omega)) 1 0 (FM 5 k) (by omega) (by omega)
  exact if_neg (fun z => by rw [show und (FM 4) (0 + 1) ((0 : Nat) : Int) (FM 5 k) = 0 from e] at z; omega)
theorem sk_eq {FC : Nat → Nat → Int} {VC : Nat → Int} {FM : Nat → Nat → Int} {VM : Nat → Int} (h : Inv FC VC FM VM) {d t i w : Nat} (hd : d < 6) (ht : t < 12) (hi : (i : Int) < VM 2) (hw : w ≤ 999) : enc (skX FC d t i w) = skM FM VM d t i w := by
  have hM := h.1
  obtain ⟨m1, m2, m3, m4, m5, m6, m7, m8, m9, m10⟩ := hM
  obtain ⟨e5, e6, e7⟩ := h.2.1.2.2.2.2.2.1
  have hac := h.2.1.2.2.2.2.2.2.1
  unfold skX skM nmM
  rw [e5, e6, h.2.1.2.1]
  refine congrArg enc ?_
  refine lnum_congr (n := i + 1) (fun j hj hk => ?_) (fun j hj => ?_) (fun _ _ => rfl) (fun _ _ => rfl) (fun j hj hk => e7 j (by omega) hk) (fun j hj hd2 => ?_) i (by omega)
  · rw [e7 j (by omega) hk]
    exact (m7 j (by omega)).2.2 hk
  · have q := m10 (j * 12 + t) (by omega)
    show actC (FC 8) t j = actM FM t j
    unfold actC actM
    rw [hac (j * 12 + t) (by omega)]
    unfold acX
    by_cases hq : FM 12 (j * 12 + t) = 1
    · rw [if_pos hq, if_pos hq, if_neg (by omega)]
    · rw [if_neg hq, if_neg hq, if_pos rfl]
  · show jU (FM 0) d (w : Int) (FM 2 j).toNat = valM (uF FM 0 (jU (FM 0) d (w : Int))) VM 0 (FM 2 j).toNat t 6
    rw [valM_0 (okM_dv h.1 d ⟨by omega, by omega⟩)]
    rfl
theorem fstP_congr {f g : Nat → Int} {n : Nat} (h : ∀ k, k < n → f k = g k) : fstP f n = fstP g n := by
  induction n with
  | zero => rfl
  | succ n ih => rw [fstP_s, fstP_s, ih (fun k hk => h k (by omega)), h n (by omega)]
theorem skP_eq {FC : Nat → Nat → Int} {VC : Nat → Int} {FM : Nat → Nat → Int} {VM : Nat → Int} (h : Inv FC VC FM VM) {d t i : Nat} (goal : Int) (hd : d < 6) (ht : t < 12) (hi : (i : Int) < VM 2) : fstP (skP FC d t i goal) 1000 = fstP (skQ FM VM d t i goal) 1000 := by
  refine fstP_congr fun w hw => ?_
  unfold skP skQ
  rw [sk_eq h hd ht hi (by omega)]
theorem dft_eq {FC : Nat → Nat → Int} {VC : Nat → Int} {FM : Nat → Nat → Int} {VM : Nat → Int} (h : Inv FC VC FM VM) (c : Nat) : dftC FC VC c = dftM FM VM c := by
  have hV := h.2.1.1
  obtain ⟨e11, e12, e13, -⟩ := h.2.1.2.2.2.2.2.2.2
  have h3 := h.1.2.2.1
  unfold dftC dftM
  rw [hV.2.2.1, e11, e12, e13]
  by_cases hq : ((c / 12 : Nat) : Int) < VM 2
  · rw [if_pos hq, if_pos hq, nm_eq h (by omega) (by omega) hq]
  · rw [if_neg hq, if_neg hq]
theorem st_eq {FC : Nat → Nat → Int} {VC : Nat → Int} {FM : Nat → Nat → Int} {VM : Nat → Int} (h : Inv FC VC FM VM) : stC FC VC = stM FM VM := by
  funext c
  unfold stC stM
  rw [dft_eq h, h.2.1.2.2.2.2.2.2.2.1]
theorem cnt_eq {FC : Nat → Nat → Int} {VC : Nat → Int} {FM : Nat → Nat → Int} {VM : Nat → Int} (h : Inv FC VC FM VM) : cntC FC VC = cntM FM VM := by
  unfold cntC cntM rowC rowM
  rw [sumTo_swap (fun i t => dftM FM VM (i * 12 + t)), h.2.1.1.2.2.1]
  exact sumTo_congr fun t _ => sumTo_congr fun i _ => dft_eq h _
theorem tol_eq {FC : Nat → Nat → Int} {VC : Nat → Int} {FM : Nat → Nat → Int} {VM : Nat → Int} (h : Inv FC VC FM VM) : sumTo (FC 13) 120 = sumTo (tolM FM) 120 := by
  obtain ⟨-, -, e13, e⟩ := h.2.1.2.2.2.2.2.2.2
  refine sumTo_congr fun k _ => ?_
  rw [e13]
  unfold tolM
  by_cases hq : FM 14 k = 45
  · rw [if_pos hq, e k hq]
  · rw [if_neg hq]
theorem yr_eq {FC : Nat → Nat → Int} {VC : Nat → Int} {FM : Nat → Nat → Int} {VM : Nat → Int} (h : Inv FC VC FM VM) {s i u : Nat} (hs : (s : Int) < VM 3) (hi : (i : Int) < VM 2) (hu : u < 12) : yrX FC s i u = yrM FM VM s i u := by
  unfold yrX yrM
  rw [nm_eq h hs hu hi]
