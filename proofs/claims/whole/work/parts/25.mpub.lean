/-! the reference: the last ones -/
/-- the first place of n places from a on where f is 1 -/
def fstR (f : Nat → Int) : Nat → Nat → Int
  | _, 0 => -1
  | a, n + 1 => if f a = 1 then (a : Int) else fstR f (a + 1) n
theorem fstR_s (f : Nat → Int) (a n : Nat) : fstR f a (n + 1) = if f a = 1 then (a : Int) else fstR f (a + 1) n := rfl
theorem fstP_R (f : Nat → Int) : ∀ n a : Nat, fstP f (a + n) = if 0 ≤ fstP f a then fstP f a else fstR f a n := by
  intro n
  induction n with
  | zero =>
    intro a
    have := (fstP_B f a).1
    show fstP f a = if 0 ≤ fstP f a then fstP f a else -1
    split <;> omega
  | succ n ih =>
    intro a
    have h1 := ih (a + 1)
    have h2 := fstP_s f a
    have h3 := fstR_s f a n
    rw [show a + (n + 1) = a + 1 + n by omega, h1]
    omega
theorem fstP_fstR (f : Nat → Int) (n : Nat) : fstP f n = fstR f 0 n := by
  have h := fstP_R f n 0
  rw [Nat.zero_add] at h
  rw [h]
  exact if_neg (show ¬ (0 : Int) ≤ -1 by decide)
theorem fstR_B (f : Nat → Int) : ∀ n a : Nat, -1 ≤ fstR f a n ∧ fstR f a n < (a : Int) + n := by
  intro n
  induction n with
  | zero => intro a; exact ⟨by show (-1 : Int) ≤ -1; decide, by show (-1 : Int) < _; omega⟩
  | succ n ih =>
    intro a
    have h1 := ih (a + 1)
    rw [fstR_s]
    split <;> omega
def skM (F : Nat → Nat → Int) (V : Nat → Int) (d t i : Nat) (w : Nat) : Int := enc (nmM (uF F 0 (jU (F 0) d (w : Int))) V 0 t 6 i)
def skQ (F : Nat → Nat → Int) (V : Nat → Int) (d t i : Nat) (goal : Int) (w : Nat) : Int := if skM F V d t i w ≠ -1000000000 ∧ goal ≤ skM F V d t i w then 1 else 0
theorem jU_id (f : Nat → Int) (k : Nat) : jU f k (f k) = f := by
  funext j
  unfold jU
  split
  · rename_i h; rw [h]
  · rfl
theorem jU_ov {f g : Nat → Int} {k : Nat} (h : ∀ j : Nat, j ≠ k → g j = f j) (v : Int) : jU g k v = jU f k v := by
  funext j
  by_cases hq : j = k
  · subst hq; rw [jU_s, jU_s]
  · rw [jU_n hq, jU_n hq, h j hq]
theorem uF_id (F : Nat → Nat → Int) (k : Nat) : uF F k (F k) = F := by
  funext j
  by_cases hq : j = k
  · subst hq; rw [uF_s]
  · rw [uF_n hq]
set_option maxRecDepth 20000 in
theorem in_X4_seek_X4 : ∀ w ∈ u_ws RX4 TX4 22, w ∈ wsX4_seek := by decide +kernel
set_option maxHeartbeats 4000000 in
set_option maxRecDepth 100000 in
theorem c_X4_seek (l : Launch) (G : jG) (h : Nat → Nat) (F : Nat → Nat → Int) (V : Nat → Int) (fd : Nat → Int) (d i t goal : Int) (hrd : jR d) (hri : jR i) (hrt : jR t) (hrgoal : jR goal) (hk : okM F V) : jMet l yX4_seek wsX4_seek { frames := 6, cells := 0, slots := 0, locals := 300 } G (wM G h F V fd) [.ref (h 0), .int (iI d), .int (iI i), .int (iI t), .int (iI goal)] (fun rv w1 => ∃ (v : Int) (F' : Nat → Nat → Int) (V' fd' : Nat → Int), rv = some (.int (iI v)) ∧ w1 = wM G h F' V' fd' ∧ (cdSeek (V 1) (V 2) d i t (fstP (skQ F V d.toNat t.toNat i.toNat goal) 1000) ≠ 0 → mSc F F' ∧ V' = jU V 0 (cdSeek (V 1) (V 2) d i t (fstP (skQ F V d.toNat t.toNat i.toNat goal) 1000))) ∧ (cdSeek (V 1) (V 2) d i t (fstP (skQ F V d.toNat t.toNat i.toNat goal) 1000) = 0 → v = fstP (skQ F V d.toNat t.toNat i.toNat goal) 1000 ∧ mSc F F' ∧ V' = (jU V 0 0))) := by
  refine jMet_of (cc := cX4_seek) (maxL := 8) (ret := (some .int)) (by decide +kernel) rfl (Nat.le_of_ble_eq_true rfl) ?_
  intro p e s m args below meth c A hh hret hinit
  refine jr_loc (lv' := [(0, .ref (h 0)), (1, .int (iI d)), (2, .int (iI i)), (3, .int (iI t)), (4, .int (iI goal))]) [0, 1, 2, 3, 4] rfl ?_
  obtain ⟨hV1, hV2, hV3, hV4, hV5, -⟩ := id hk
  have hrd1 := hrd.1
  have hri1 := hri.1
  have hrt1 := hrt.1
  have hrgoal1 := hrgoal.1
  have hrd2 := hrd.2
  have hri2 := hri.2
  have hrt2 := hrt.2
  have hrgoal2 := hrgoal.2
  refine jr_cut (σ := Int) 29 (fun (cd : Int) => cd = if ¬ ((0 ≤ d ∧ d < V 1) ∧ (0 ≤ i ∧ i < V 2) ∧ (0 ≤ t ∧ t < 12)) then 1 else 0) (fun (cd : Int) => (wM G h F V fd)) (fun (cd : Int) => [(0, .ref (h 0)), (1, .int (iI d)), (2, .int (iI i)), (3, .int (iI t)), (4, .int (iI goal))]) (fun (cd : Int) => [.int (iI cd), .ref (h 0)]) ?_ (fun cut29 => ?_)
  · rintro cd hcut29
    try dsimp only
    try dsimp only at hcut29
    refine jr_put (ws' := (wM G h F (jU V 0 cd) fd)) (pc := 29) hh in_X4_seek_X4 tyX4_ok nmX4 0 rfl rfl 16 (by decide) (by decide +kernel : Cond.fieldLink RX4 61 (TX4 16).1 (TX4 16).2.1 (TX4 16).2.2.1 ∈ wsX4_seek) rfl rfl (Nat.le_of_ble_eq_true rfl) rfl dX4_seek_29 ?_
    refine jr_aload_n (pc := 32) hh 0 dX4_seek_32 rfl rfl ?_
    refine jr_get (v := .int (iI cd)) (pc := 33) hh in_X4_seek_X4 0 rfl rfl 16 (by decide) (by decide +kernel : Cond.fieldLink RX4 61 (TX4 16).1 (TX4 16).2.1 (TX4 16).2.2.1 ∈ wsX4_seek) rfl dX4_seek_33 ?_
    refine jr_if_le (tgt := 41) (pc := 36) hh dX4_seek_36 (by decide) ⟨by omega, by omega⟩ (fun c1 => ?_) (fun c1 => ?_)
    · skip
      obtain ⟨dN, rfl⟩ : ∃ k : Nat, d = (k : Int) := ⟨d.toNat, by omega⟩
      obtain ⟨iN, rfl⟩ : ∃ k : Nat, i = (k : Int) := ⟨i.toNat, by omega⟩
      obtain ⟨tN, rfl⟩ : ∃ k : Nat, t = (k : Int) := ⟨t.toNat, by omega⟩
      refine jr_aload_n (pc := 41) hh 0 dX4_seek_41 rfl rfl ?_
      refine jr_get (v := .ref (h 1)) (pc := 42) hh in_X4_seek_X4 0 rfl rfl 0 (by decide) (by decide +kernel : Cond.fieldLink RX4 7 (TX4 0).1 (TX4 0).2.1 (TX4 0).2.2.1 ∈ wsX4_seek) rfl dX4_seek_42 ?_
      refine jr_iload_n (pc := 45) hh 1 dX4_seek_45 rfl rfl ?_
      refine jr_iald (F := (F 0)) (pc := 46) hh 1 rfl dN (by omega) (by omega) (by decide) dX4_seek_46 ?_
      refine jr_istore (lv' := [(5, .int (iI ((F 0) dN))), (0, .ref (h 0)), (1, .int (iI (dN : Int))), (2, .int (iI (iN : Int))), (3, .int (iI (tN : Int))), (4, .int (iI goal))]) (pc := 47) hh dX4_seek_47 (by decide) rfl ?_
      refine jr_iconst (pc := 49) hh dX4_seek_49 ?_
      refine jr_istore (lv' := [(6, .int (iI (-1))), (5, .int (iI ((F 0) dN))), (0, .ref (h 0)), (1, .int (iI (dN : Int))), (2, .int (iI (iN : Int))), (3, .int (iI (tN : Int))), (4, .int (iI goal))]) (pc := 50) hh dX4_seek_50 (by decide) rfl ?_
      refine jr_sipush (pc := 52) hh dX4_seek_52 (by decide) ?_
      refine jr_istore (lv' := [(7, .int (iI 999)), (6, .int (iI (-1))), (5, .int (iI ((F 0) dN))), (0, .ref (h 0)), (1, .int (iI (dN : Int))), (2, .int (iI (iN : Int))), (3, .int (iI (tN : Int))), (4, .int (iI goal))]) (pc := 55) hh dX4_seek_55 (by decide) rfl ?_
      refine jr_loc (lv' := [(0, .ref (h 0)), (1, .int (iI (dN : Int))), (2, .int (iI (iN : Int))), (3, .int (iI (tN : Int))), (4, .int (iI goal)), (5, .int (iI ((F 0) dN))), (6, .int (iI (-1))), (7, .int (iI 999))]) [3, 4, 5, 6, 7, 2, 1, 0] rfl ?_
      refine jr_lvset (a := ((F 0) dN)) (b := (F 0 dN)) (lv' := [(0, .ref (h 0)), (1, .int (iI (dN : Int))), (2, .int (iI (iN : Int))), (3, .int (iI (tN : Int))), (4, .int (iI goal)), (5, .int (iI (F 0 dN))), (6, .int (iI (-1))), (7, .int (iI 999))]) 5 rfl (by first | rfl | omega) rfl ?_
      refine jr_ws (ws' := (wM G h (uF (uF F 0 (F 0)) 13 (F 13)) (jU V 0 cd) fd)) rfl ?_
      refine jr_loop (σ := Int × Int × (Nat → Int) × (Nat → Int) × (Nat → Int)) (fun (x : Int × Int × (Nat → Int) × (Nat → Int) × (Nat → Int)) => match x with | (w, bs, ip, isf, fnd) => (-1 ≤ w ∧ w ≤ 999) ∧ (∀ j : Nat, j ≠ dN → ip j = F 0 j) ∧ (bs = fstR (skQ F V dN tN iN goal) (w + 1).toNat (999 - w).toNat)) (fun (x : Int × Int × (Nat → Int) × (Nat → Int) × (Nat → Int)) => match x with | (w, bs, ip, isf, fnd) => (w + 1).toNat) (fun (x : Int × Int × (Nat → Int) × (Nat → Int) × (Nat → Int)) => match x with | (w, bs, ip, isf, fnd) => (wM G h (uF (uF F 0 ip) 13 isf) (jU V 0 cd) fnd)) (fun (x : Int × Int × (Nat → Int) × (Nat → Int) × (Nat → Int)) => match x with | (w, bs, ip, isf, fnd) => [(0, .ref (h 0)), (1, .int (iI (dN : Int))), (2, .int (iI (iN : Int))), (3, .int (iI (tN : Int))), (4, .int (iI goal)), (5, .int (iI (F 0 dN))), (6, .int (iI bs)), (7, .int (iI w))]) (fun (x : Int × Int × (Nat → Int) × (Nat → Int) × (Nat → Int)) => match x with | (w, bs, ip, isf, fnd) => []) ?_ (999, (-1), (F 0), (F 13), fd) ⟨by (try dsimp only); omega, fun _ _ => rfl, rfl⟩
      rintro ⟨w, bs, ip, isf, fnd⟩ ⟨hw, hip, hbs⟩ ih2
      try dsimp only at ih2 ⊢
      try dsimp only at hw hip hbs
      have hbb : -1 ≤ bs ∧ bs ≤ 999 := by
        rw [hbs]
        have h1 := fstP_R (skQ F V dN tN iN goal) (999 - w).toNat (w + 1).toNat
        have h2 := fstP_B (skQ F V dN tN iN goal) ((w + 1).toNat + (999 - w).toNat)
        have h3 := fstR_B (skQ F V dN tN iN goal) (999 - w).toNat (w + 1).toNat
        omega
      refine jr_iload (pc := 57) hh 7 dX4_seek_57 rfl ?_
      refine jr_if_lt (tgt := 105) (pc := 59) hh dX4_seek_59 (by decide) ⟨by omega, by omega⟩ (fun c3 => ?_) (fun c3 => ?_)
      · skip
        have hfin : bs = fstP (skQ F V dN tN iN goal) 1000 := by
          rw [hbs, fstP_fstR, show w = -1 by omega]; rfl
        have hfb := fstP_B (skQ F V dN tN iN goal) 1000
        have hrs : jU ip dN (F 0 dN) = F 0 := by rw [jU_ov hip, jU_id]
        refine jr_aload_n (pc := 105) hh 0 dX4_seek_105 rfl rfl ?_
        refine jr_get (v := .ref (h 1)) (pc := 106) hh in_X4_seek_X4 0 rfl rfl 0 (by decide) (by decide +kernel : Cond.fieldLink RX4 7 (TX4 0).1 (TX4 0).2.1 (TX4 0).2.2.1 ∈ wsX4_seek) rfl dX4_seek_106 ?_
        refine jr_iload_n (pc := 109) hh 1 dX4_seek_109 rfl rfl ?_
        refine jr_iload (pc := 110) hh 5 dX4_seek_110 rfl ?_
        refine jr_iast (F := ip) (ws' := (wM G h (uF (uF F 0 (jU ip dN (F 0 dN))) 13 isf) (jU V 0 cd) fnd)) (pc := 112) hh 1 rfl dN (by omega) (by omega) (by decide) rfl dX4_seek_112 ?_
        refine jr_cut (σ := Int) 124 (fun (ce : Int) => ce = if bs < 0 then 2 else 0) (fun (ce : Int) => (wM G h (uF (uF F 0 (jU ip dN (F 0 dN))) 13 isf) (jU V 0 cd) fnd)) (fun (ce : Int) => [(0, .ref (h 0)), (1, .int (iI (dN : Int))), (2, .int (iI (iN : Int))), (3, .int (iI (tN : Int))), (4, .int (iI goal)), (5, .int (iI (F 0 dN))), (6, .int (iI bs)), (7, .int (iI w))]) (fun (ce : Int) => [.int (iI ce), .ref (h 0)]) ?_ (fun cut124 => ?_)
        · rintro ce hcut124
          try dsimp only
          try dsimp only at hcut124
          refine jr_put (ws' := (wM G h (uF (uF F 0 (jU ip dN (F 0 dN))) 13 isf) (jU V 0 ce) fnd)) (pc := 124) hh in_X4_seek_X4 tyX4_ok nmX4 0 rfl rfl 16 (by decide) (by decide +kernel : Cond.fieldLink RX4 61 (TX4 16).1 (TX4 16).2.1 (TX4 16).2.2.1 ∈ wsX4_seek) rfl rfl (Nat.le_of_ble_eq_true rfl) rfl dX4_seek_124 ?_
          refine jr_aload_n (pc := 127) hh 0 dX4_seek_127 rfl rfl ?_
          refine jr_get (v := .int (iI ce)) (pc := 128) hh in_X4_seek_X4 0 rfl rfl 16 (by decide) (by decide +kernel : Cond.fieldLink RX4 61 (TX4 16).1 (TX4 16).2.1 (TX4 16).2.2.1 ∈ wsX4_seek) rfl dX4_seek_128 ?_
          refine jr_if_le (tgt := 138) (pc := 131) hh dX4_seek_131 (by decide) ⟨by omega, by omega⟩ (fun c4 => ?_) (fun c4 => ?_)
          · skip
            refine jr_iload (pc := 138) hh 6 dX4_seek_138 rfl ?_
            exact jr_iret (pc := 140) hh hret rfl ⟨bs, _, _, _, rfl, rfl, fun q => absurd (by unfold cdSeek; simp only [Int.toNat_natCast]; omega) q, fun _ => ⟨hfin, (mSc_eq (mSc_13 (uF F 0 (jU ip dN (F 0 dN))) isf) (by rw [hrs, uF_id])), by congr 1; omega⟩⟩ (by decide) (by decide) dX4_seek_140
          · skip
            refine jr_iconst (pc := 134) hh dX4_seek_134 ?_
            refine jr_goto (tgt := 140) (pc := 135) hh dX4_seek_135 (by decide) ?_
            exact jr_iret (pc := 140) hh hret rfl ⟨0, _, _, _, rfl, rfl, fun _ => ⟨(mSc_eq (mSc_13 (uF F 0 (jU ip dN (F 0 dN))) isf) (by rw [hrs, uF_id])), by congr 1; unfold cdSeek; simp only [Int.toNat_natCast]; omega⟩, fun q => absurd q (by unfold cdSeek; simp only [Int.toNat_natCast]; omega)⟩ (by decide) (by decide) dX4_seek_140
        · try dsimp only at cut124
          refine jr_aload_n (pc := 113) hh 0 dX4_seek_113 rfl rfl ?_
          refine jr_iload (pc := 114) hh 6 dX4_seek_114 rfl ?_
          refine jr_if_ge (tgt := 123) (pc := 116) hh dX4_seek_116 (by decide) ⟨by omega, by omega⟩ (fun c5 => ?_) (fun c5 => ?_)
          · skip
            refine jr_iconst (pc := 123) hh dX4_seek_123 ?_
            refine jr_loc (lv' := [(0, .ref (h 0)), (1, .int (iI (dN : Int))), (2, .int (iI (iN : Int))), (3, .int (iI (tN : Int))), (4, .int (iI goal)), (5, .int (iI (F 0 dN))), (6, .int (iI bs)), (7, .int (iI w))]) [0, 1, 2, 3, 4, 5, 6, 7] rfl ?_
            exact cut124 (0) (by omega)
          · skip
            refine jr_iconst (pc := 119) hh dX4_seek_119 ?_
            refine jr_goto (tgt := 124) (pc := 120) hh dX4_seek_120 (by decide) ?_
            refine jr_loc (lv' := [(0, .ref (h 0)), (1, .int (iI (dN : Int))), (2, .int (iI (iN : Int))), (3, .int (iI (tN : Int))), (4, .int (iI goal)), (5, .int (iI (F 0 dN))), (6, .int (iI bs)), (7, .int (iI w))]) [0, 1, 2, 3, 4, 5, 6, 7] rfl ?_
            exact cut124 (2) (by omega)
      · skip
        refine jr_aload_n (pc := 62) hh 0 dX4_seek_62 rfl rfl ?_
        refine jr_get (v := .ref (h 1)) (pc := 63) hh in_X4_seek_X4 0 rfl rfl 0 (by decide) (by decide +kernel : Cond.fieldLink RX4 7 (TX4 0).1 (TX4 0).2.1 (TX4 0).2.2.1 ∈ wsX4_seek) rfl dX4_seek_63 ?_
        refine jr_iload_n (pc := 66) hh 1 dX4_seek_66 rfl rfl ?_
        refine jr_iload (pc := 67) hh 7 dX4_seek_67 rfl ?_
        refine jr_iast (F := ip) (ws' := (wM G h (uF (uF F 0 (jU ip dN w)) 13 isf) (jU V 0 cd) fnd)) (pc := 69) hh 1 rfl dN (by omega) (by omega) (by decide) rfl dX4_seek_69 ?_
        refine jr_aload_n (pc := 70) hh 0 dX4_seek_70 rfl rfl ?_
        refine jr_iconst (pc := 71) hh dX4_seek_71 ?_
        refine jr_iload_n (pc := 72) hh 2 dX4_seek_72 rfl rfl ?_
        refine jr_iload_n (pc := 73) hh 3 dX4_seek_73 rfl rfl ?_
        refine jr_bipush (pc := 74) hh dX4_seek_74 (by decide) ?_
        have hiv : jU ip dN w = jU (F 0) dN (w.toNat : Int) := by rw [jU_ov hip, Int.toNat_of_nonneg (by omega)]
        have hok9 : okM (uF F 0 (jU ip dN w)) V := by rw [hiv]; exact okM_dv hk dN ⟨by omega, by omega⟩
        refine jr_callV (pc := 76) hh [.int (iI 0), .int (iI (iN : Int)), .int (iI (tN : Int)), .int (iI 6)] [] (c_X4_finds l G h (uF (uF F 0 (jU ip dN w)) 13 isf) (jU V 0 cd) fnd 0 iN tN 6 hok9 (by show (_ : Int) < V 3; omega) (by show (_ : Int) < V 2; omega) (by omega) (by decide)) gX4_seek_X4_finds rfl (by decide) (by decide) [0, 1, 2, 3, 4, 5, 6, 7, 8, 9, 10, 11, 12, 13, 14, 15, 16] [] rfl rfl rfl rfl (by decide) 0 rfl rfl 4 rfl rfl (Nat.le_of_ble_eq_true rfl) (by decide +kernel) dX4_seek_76 (fun rvu6 wu6 hu6 => ?_)
        obtain ⟨rfl, isfz, fdz, hfdz, rfl⟩ := hu6
        refine jr_perm (ws' := (wM G h (uF (uF F 0 (jU ip dN w)) 13 isfz) (jU V 0 cd) fdz)) (st := [.int (iI (if enc (nmM (uF F 0 (jU ip dN w)) V 0 tN 6 iN) = -1000000000 then 0 else 1))]) [0, 1, 2, 3, 4, 5, 6, 7, 8, 9, 10, 11, 12, 13, 14, 15, 16] rfl rfl ?_
        have hsk : enc (nmM (uF F 0 (jU ip dN w)) V 0 tN 6 iN) = skM F V dN tN iN w.toNat := by rw [hiv]; rfl
        replace hfdz : skM F V dN tN iN w.toNat ≠ -1000000000 → fdz iN = skM F V dN tN iN w.toNat := by rw [← hsk]; exact hfdz
        have hnz := enc_range (nmM_B hok9 (s := 0) (t := tN) (b := 6) (i := iN) (by omega) (by omega))
        rw [show enc (nmM (uF F 0 (jU ip dN w)) V 0 tN 6 iN) = skM F V dN tN iN w.toNat from hsk] at hnz
        have hq0 : skQ F V dN tN iN goal w.toNat = if skM F V dN tN iN w.toNat ≠ -1000000000 ∧ goal ≤ skM F V dN tN iN w.toNat then 1 else 0 := rfl
        refine jr_topi (b := (if skM F V dN tN iN w.toNat = -1000000000 then 0 else 1)) (by rw [hsk]) ?_
        refine jr_if_eq (tgt := 99) (pc := 79) hh dX4_seek_79 (by decide) ⟨by omega, by omega⟩ (fun c7 => ?_) (fun c7 => ?_)
        · skip
          refine jr_iinc (a := w) (b := (w + (-1))) (lv' := [(7, .int (iI (w + (-1)))), (0, .ref (h 0)), (1, .int (iI (dN : Int))), (2, .int (iI (iN : Int))), (3, .int (iI (tN : Int))), (4, .int (iI goal)), (5, .int (iI (F 0 dN))), (6, .int (iI bs))]) (pc := 99) hh 7 dX4_seek_99 rfl (by omega) (by decide) rfl ?_
          refine jr_goto (tgt := 57) (pc := 102) hh dX4_seek_102 (by decide) ?_
          have hip2 : ∀ j : Nat, j ≠ dN → jU ip dN w j = F 0 j := fun j hj => by rw [jU_n hj]; exact hip j hj
          have hbs2 : bs = fstR (skQ F V dN tN iN goal) ((w + (-1)) + 1).toNat (999 - (w + (-1))).toNat := by
            have e1 : ((w + (-1)) + 1).toNat = w.toNat := by omega
            have e2 : (999 - (w + (-1))).toNat = (999 - w).toNat + 1 := by omega
            have e3 : (w + 1).toNat = w.toNat + 1 := by omega
            rw [e1, e2, fstR_s, ← e3, ← hbs]
            (try have hfz := hfdz (by omega))
            omega
          refine jr_loc (lv' := [(0, .ref (h 0)), (1, .int (iI (dN : Int))), (2, .int (iI (iN : Int))), (3, .int (iI (tN : Int))), (4, .int (iI goal)), (5, .int (iI (F 0 dN))), (6, .int (iI bs)), (7, .int (iI (w + (-1))))]) [1, 2, 3, 4, 5, 6, 7, 0] rfl ?_
          exact ih2 ((w + (-1)), bs, (jU ip dN w), isfz, fdz) ⟨by (try dsimp only); omega, hip2, hbs2⟩ (by (try dsimp only); omega)
        · skip
          refine jr_aload_n (pc := 82) hh 0 dX4_seek_82 rfl rfl ?_
          refine jr_get (v := .ref (h 16)) (pc := 83) hh in_X4_seek_X4 0 rfl rfl 15 (by decide) (by decide +kernel : Cond.fieldLink RX4 57 (TX4 15).1 (TX4 15).2.1 (TX4 15).2.2.1 ∈ wsX4_seek) rfl dX4_seek_83 ?_
          refine jr_iload_n (pc := 86) hh 2 dX4_seek_86 rfl rfl ?_
          refine jr_lald (F := fdz) (pc := 87) hh 16 rfl iN (by omega) (by omega) (by decide) dX4_seek_87 ?_
          refine jr_iload (pc := 88) hh 4 dX4_seek_88 rfl ?_
          refine jr_i2l (pc := 90) hh dX4_seek_90 ⟨by omega, by omega⟩ ?_
          refine jr_lcmp_lt (tgt := 99) (pc := 91) hh dX4_seek_91 dX4_seek_92 (by decide) ⟨by omega, by omega⟩ ⟨by omega, by omega⟩ (fun c8 => ?_) (fun c8 => ?_)
          · skip
            refine jr_iinc (a := w) (b := (w + (-1))) (lv' := [(7, .int (iI (w + (-1)))), (0, .ref (h 0)), (1, .int (iI (dN : Int))), (2, .int (iI (iN : Int))), (3, .int (iI (tN : Int))), (4, .int (iI goal)), (5, .int (iI (F 0 dN))), (6, .int (iI bs))]) (pc := 99) hh 7 dX4_seek_99 rfl (by omega) (by decide) rfl ?_
            refine jr_goto (tgt := 57) (pc := 102) hh dX4_seek_102 (by decide) ?_
            have hip2 : ∀ j : Nat, j ≠ dN → jU ip dN w j = F 0 j := fun j hj => by rw [jU_n hj]; exact hip j hj
            have hbs2 : bs = fstR (skQ F V dN tN iN goal) ((w + (-1)) + 1).toNat (999 - (w + (-1))).toNat := by
              have e1 : ((w + (-1)) + 1).toNat = w.toNat := by omega
              have e2 : (999 - (w + (-1))).toNat = (999 - w).toNat + 1 := by omega
              have e3 : (w + 1).toNat = w.toNat + 1 := by omega
              rw [e1, e2, fstR_s, ← e3, ← hbs]
              (try have hfz := hfdz (by omega))
              omega
            refine jr_loc (lv' := [(0, .ref (h 0)), (1, .int (iI (dN : Int))), (2, .int (iI (iN : Int))), (3, .int (iI (tN : Int))), (4, .int (iI goal)), (5, .int (iI (F 0 dN))), (6, .int (iI bs)), (7, .int (iI (w + (-1))))]) [1, 2, 3, 4, 5, 6, 7, 0] rfl ?_
            exact ih2 ((w + (-1)), bs, (jU ip dN w), isfz, fdz) ⟨by (try dsimp only); omega, hip2, hbs2⟩ (by (try dsimp only); omega)
          · skip
            refine jr_iload (pc := 95) hh 7 dX4_seek_95 rfl ?_
            refine jr_istore (lv' := [(6, .int (iI w)), (0, .ref (h 0)), (1, .int (iI (dN : Int))), (2, .int (iI (iN : Int))), (3, .int (iI (tN : Int))), (4, .int (iI goal)), (5, .int (iI (F 0 dN))), (7, .int (iI w))]) (pc := 97) hh dX4_seek_97 (by decide) rfl ?_
            refine jr_iinc (a := w) (b := (w + (-1))) (lv' := [(7, .int (iI (w + (-1)))), (6, .int (iI w)), (0, .ref (h 0)), (1, .int (iI (dN : Int))), (2, .int (iI (iN : Int))), (3, .int (iI (tN : Int))), (4, .int (iI goal)), (5, .int (iI (F 0 dN)))]) (pc := 99) hh 7 dX4_seek_99 rfl (by omega) (by decide) rfl ?_
            refine jr_goto (tgt := 57) (pc := 102) hh dX4_seek_102 (by decide) ?_
            have hip2 : ∀ j : Nat, j ≠ dN → jU ip dN w j = F 0 j := fun j hj => by rw [jU_n hj]; exact hip j hj
            have hbs2 : w = fstR (skQ F V dN tN iN goal) ((w + (-1)) + 1).toNat (999 - (w + (-1))).toNat := by
              have e1 : ((w + (-1)) + 1).toNat = w.toNat := by omega
              have e2 : (999 - (w + (-1))).toNat = (999 - w).toNat + 1 := by omega
              have e3 : (w + 1).toNat = w.toNat + 1 := by omega
              rw [e1, e2, fstR_s, ← e3, ← hbs]
              (try have hfz := hfdz (by omega))
              omega
            refine jr_loc (lv' := [(0, .ref (h 0)), (1, .int (iI (dN : Int))), (2, .int (iI (iN : Int))), (3, .int (iI (tN : Int))), (4, .int (iI goal)), (5, .int (iI (F 0 dN))), (6, .int (iI w)), (7, .int (iI (w + (-1))))]) [2, 3, 4, 5, 6, 7, 1, 0] rfl ?_
            exact ih2 ((w + (-1)), w, (jU ip dN w), isfz, fdz) ⟨by (try dsimp only); omega, hip2, hbs2⟩ (by (try dsimp only); omega)
    · skip
      refine jr_iconst (pc := 39) hh dX4_seek_39 ?_
      exact jr_iret (pc := 40) hh hret rfl ⟨0, _, _, _, rfl, rfl, fun _ => ⟨mSc_rf _, by congr 1; unfold cdSeek; omega⟩, fun q => absurd q (by unfold cdSeek; omega)⟩ (by decide) (by decide) dX4_seek_40
  · try dsimp only at cut29
    refine jr_aload_n (pc := 0) hh 0 dX4_seek_0 rfl rfl ?_
    refine jr_aload_n (pc := 1) hh 0 dX4_seek_1 rfl rfl ?_
    refine jr_iload_n (pc := 2) hh 1 dX4_seek_2 rfl rfl ?_
    refine jr_callV (pc := 3) hh [.int (iI d)] [.ref (h 0)] (c_X4_isDriver l G h F V fd d ⟨by omega, by omega⟩ ⟨by omega, by omega⟩) gX4_seek_X4_isDriver rfl (by decide) (by decide) [0, 1, 2, 3, 4, 5, 6, 7, 8, 9, 10, 11, 12, 13, 14, 15, 16] [] rfl rfl rfl rfl (by decide) 0 rfl rfl 1 rfl rfl (Nat.le_of_ble_eq_true rfl) (by decide +kernel) dX4_seek_3 (fun rvu10 wu10 hu10 => ?_)
    obtain ⟨rfl, rfl⟩ := hu10
    refine jr_perm (ws' := (wM G h F V fd)) (st := [.int (iI (inI d 0 (V 1 - 1))), .ref (h 0)]) [0, 1, 2, 3, 4, 5, 6, 7, 8, 9, 10, 11, 12, 13, 14, 15, 16] rfl rfl ?_
    have hin9 : (inI d 0 (V 1 - 1)) = if 0 ≤ d ∧ d ≤ V 1 - 1 then 1 else 0 := rfl
    refine jr_if_eq (tgt := 24) (pc := 6) hh dX4_seek_6 (by decide) ⟨by omega, by omega⟩ (fun c11 => ?_) (fun c11 => ?_)
    · skip
      refine jr_iconst (pc := 24) hh dX4_seek_24 ?_
      refine jr_goto (tgt := 29) (pc := 25) hh dX4_seek_25 (by decide) ?_
      refine jr_loc (lv' := [(0, .ref (h 0)), (1, .int (iI d)), (2, .int (iI i)), (3, .int (iI t)), (4, .int (iI goal))]) [0, 1, 2, 3, 4] rfl ?_
      exact cut29 (1) (by omega)
    · skip
      refine jr_aload_n (pc := 9) hh 0 dX4_seek_9 rfl rfl ?_
      refine jr_iload_n (pc := 10) hh 2 dX4_seek_10 rfl rfl ?_
      refine jr_callV (pc := 11) hh [.int (iI i)] [.ref (h 0)] (c_X4_isLine l G h F V fd i ⟨by omega, by omega⟩ ⟨by omega, by omega⟩) gX4_seek_X4_isLine rfl (by decide) (by decide) [0, 1, 2, 3, 4, 5, 6, 7, 8, 9, 10, 11, 12, 13, 14, 15, 16] [] rfl rfl rfl rfl (by decide) 0 rfl rfl 1 rfl rfl (Nat.le_of_ble_eq_true rfl) (by decide +kernel) dX4_seek_11 (fun rvu13 wu13 hu13 => ?_)
      obtain ⟨rfl, rfl⟩ := hu13
      refine jr_perm (ws' := (wM G h F V fd)) (st := [.int (iI (inI i 0 (V 2 - 1))), .ref (h 0)]) [0, 1, 2, 3, 4, 5, 6, 7, 8, 9, 10, 11, 12, 13, 14, 15, 16] rfl rfl ?_
      have hin12 : (inI i 0 (V 2 - 1)) = if 0 ≤ i ∧ i ≤ V 2 - 1 then 1 else 0 := rfl
      refine jr_if_eq (tgt := 24) (pc := 14) hh dX4_seek_14 (by decide) ⟨by omega, by omega⟩ (fun c14 => ?_) (fun c14 => ?_)
      · skip
        refine jr_iconst (pc := 24) hh dX4_seek_24 ?_
        refine jr_goto (tgt := 29) (pc := 25) hh dX4_seek_25 (by decide) ?_
        refine jr_loc (lv' := [(0, .ref (h 0)), (1, .int (iI d)), (2, .int (iI i)), (3, .int (iI t)), (4, .int (iI goal))]) [0, 1, 2, 3, 4] rfl ?_
        exact cut29 (1) (by omega)
      · skip
        refine jr_iload_n (pc := 17) hh 3 dX4_seek_17 rfl rfl ?_
        refine jr_callS (pc := 18) hh [.int (iI t)] [.ref (h 0)] (c_X4_isMonth l G t ⟨by omega, by omega⟩) gX4_seek_X4_isMonth rfl (by decide) (by decide) [] [0, 1, 2, 3, 4, 5, 6, 7, 8, 9, 10, 11, 12, 13, 14, 15, 16] rfl rfl rfl rfl (by decide) 1 rfl rfl (Nat.le_of_ble_eq_true rfl) (by decide +kernel) dX4_seek_18 (fun rvu16 wu16 hu16 => ?_)
        obtain ⟨rfl, rfl⟩ := hu16
        refine jr_perm (ws' := (wM G h F V fd)) (st := [.int (iI (inI t 0 11)), .ref (h 0)]) [0, 1, 2, 3, 4, 5, 6, 7, 8, 9, 10, 11, 12, 13, 14, 15, 16] rfl rfl ?_
        have hin15 : (inI t 0 11) = if 0 ≤ t ∧ t ≤ 11 then 1 else 0 := rfl
        refine jr_if_ne (tgt := 28) (pc := 21) hh dX4_seek_21 (by decide) ⟨by omega, by omega⟩ (fun c17 => ?_) (fun c17 => ?_)
        · skip
          refine jr_iconst (pc := 28) hh dX4_seek_28 ?_
          refine jr_loc (lv' := [(0, .ref (h 0)), (1, .int (iI d)), (2, .int (iI i)), (3, .int (iI t)), (4, .int (iI goal))]) [0, 1, 2, 3, 4] rfl ?_
          exact cut29 (0) (by omega)
        · skip
          refine jr_iconst (pc := 24) hh dX4_seek_24 ?_
          refine jr_goto (tgt := 29) (pc := 25) hh dX4_seek_25 (by decide) ?_
          refine jr_loc (lv' := [(0, .ref (h 0)), (1, .int (iI d)), (2, .int (iI i)), (3, .int (iI t)), (4, .int (iI goal))]) [0, 1, 2, 3, 4] rfl ?_
          exact cut29 (1) (by omega)
