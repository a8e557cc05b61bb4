/-! the reference: its public methods, the first ones -/
def mSc (F F' : Nat → Nat → Int) : Prop := ∀ k : Nat, k ≠ 13 → F' k = F k
theorem mSc_rf (F : Nat → Nat → Int) : mSc F F := fun _ _ => rfl
theorem mSc_13 (F : Nat → Nat → Int) (f : Nat → Int) : mSc F (uF F 13 f) := fun _ h => uF_n h
theorem mSc_tr {F F' F'' : Nat → Nat → Int} (h1 : mSc F F') (h2 : mSc F' F'') : mSc F F'' := fun k h => (h2 k h).trans (h1 k h)
theorem mSc_14 (F : Nat → Nat → Int) (f g : Nat → Int) : mSc (uF F 14 g) (uF (uF F 13 f) 14 g) := fun k h => by
  by_cases hk : k = 14
  · subst hk; rw [uF_s, uF_s]
  · rw [uF_n hk, uF_n hk, uF_n h]
theorem mSc_eq {F F' F2 : Nat → Nat → Int} (h : mSc F F') (e : F = F2) : mSc F2 F' := e ▸ h
theorem okM_V0 {F : Nat → Nat → Int} {V : Nat → Int} (h : okM F V) (z : Int) : okM F (jU V 0 z) := h
theorem nmM_V0 (F : Nat → Nat → Int) (V : Nat → Int) (z : Int) (s t b i : Nat) : nmM F (jU V 0 z) s t b i = nmM F V s t b i := rfl
theorem dftM_V0 (F : Nat → Nat → Int) (V : Nat → Int) (z : Int) (c : Nat) : dftM F (jU V 0 z) c = dftM F V c := rfl
theorem stM_V0 (F : Nat → Nat → Int) (V : Nat → Int) (z : Int) : stM F (jU V 0 z) = stM F V := rfl
theorem cntM_V0 (F : Nat → Nat → Int) (V : Nat → Int) (z : Int) : cntM F (jU V 0 z) = cntM F V := rfl
theorem okM_13 {F : Nat → Nat → Int} {V : Nat → Int} (h : okM F V) (f : Nat → Int) : okM (uF F 13 f) V := h
theorem nmM_13 (F : Nat → Nat → Int) (V : Nat → Int) (f : Nat → Int) (s t b i : Nat) : nmM (uF F 13 f) V s t b i = nmM F V s t b i := rfl
theorem okM_dv {F : Nat → Nat → Int} {V : Nat → Int} (h : okM F V) (k : Nat) {z : Int} (hz : 0 ≤ z ∧ z ≤ 9999) : okM (uF F 0 (jU (F 0) k z)) V := by
  unfold okM at h ⊢
  refine ⟨h.1, h.2.1, h.2.2.1, h.2.2.2.1, h.2.2.2.2.1, fun d hd => ?_, h.2.2.2.2.2.2⟩
  show 0 ≤ jU (F 0) k z d ∧ jU (F 0) k z d ≤ 9999
  have := h.2.2.2.2.2.1 d hd
  unfold jU
  split <;> omega
theorem okM_act {F : Nat → Nat → Int} {V : Nat → Int} (h : okM F V) (k : Nat) {z : Int} (hz : -9999999 ≤ z ∧ z ≤ 9999999) : okM (uF (uF F 9 (jU (F 9) k z)) 12 (jU (F 12) k 1)) V := by
  unfold okM at h ⊢
  refine ⟨h.1, h.2.1, h.2.2.1, h.2.2.2.1, h.2.2.2.2.1, h.2.2.2.2.2.1, h.2.2.2.2.2.2.1, h.2.2.2.2.2.2.2.1, h.2.2.2.2.2.2.2.2.1, fun c hc => ?_⟩
  have h1 := h.2.2.2.2.2.2.2.2.2 c hc
  refine ⟨?_, h1.2.1, h1.2.2.1, ?_, h1.2.2.2.2⟩
  · show -9999999 ≤ jU (F 9) k z c ∧ jU (F 9) k z c ≤ 9999999
    unfold jU
    split <;> omega
  · show jU (F 12) k 1 c = 0 ∨ jU (F 12) k 1 c = 1
    unfold jU
    split
    · exact Or.inr rfl
    · exact h1.2.2.2.1
theorem okM_tk {F : Nat → Nat → Int} {V : Nat → Int} (h : okM F V) (k : Nat) : okM (uF F 12 (jU (F 12) k 0)) V := by
  unfold okM at h ⊢
  refine ⟨h.1, h.2.1, h.2.2.1, h.2.2.2.1, h.2.2.2.2.1, h.2.2.2.2.2.1, h.2.2.2.2.2.2.1, h.2.2.2.2.2.2.2.1, h.2.2.2.2.2.2.2.2.1, fun c hc => ?_⟩
  have h1 := h.2.2.2.2.2.2.2.2.2 c hc
  refine ⟨h1.1, h1.2.1, h1.2.2.1, ?_, h1.2.2.2.2⟩
  show jU (F 12) k 0 c = 0 ∨ jU (F 12) k 0 c = 1
  unfold jU
  split
  · exact Or.inl rfl
  · exact h1.2.2.2.1
section JFC
variable {p : Program} {l : Launch} {e : Env} {R : Room} {s : State} {m : MethodId} {args : Array Value} {below : List Frame} {meth : Method} {c : Code} {A : Nat → Prop} {G : jG} {nL cells slots : Nat} {Q : State → Prop} {ws ws' : va_W} {pc : Nat} {lv lv' : List (Nat × Value)} {st : List Value} {cc : ByteArray} {Ts : List Cond} {own : String}
theorem jr_fconst0 (h : jOK p s m args meth c A G cc Ts own nL) (hd : decode cc pc = .ok (.fconst 0, 1)) (k : J p l e R s m args below meth c A G nL cells slots Q ws (pc + 1) lv (.float FP.fconst0 :: st)) : J p l e R s m args below meth c A G nL cells slots Q ws pc lv st :=
  fun H locs ls hP hD hS hl => lv_fconst0 (jx h) (jb h) hd (k H locs ls hP hD hS hl)
theorem jr_dconst0 (h : jOK p s m args meth c A G cc Ts own nL) (hd : decode cc pc = .ok (.dconst 0, 1)) (k : J p l e R s m args below meth c A G nL cells slots Q ws (pc + 1) lv (.double FP.dconst0 :: st)) : J p l e R s m args below meth c A G nL cells slots Q ws pc lv st :=
  fun H locs ls hP hD hS hl => lv_dconst0 (jx h) (jb h) hd (k H locs ls hP hD hS hl)
end JFC
set_option maxRecDepth 20000 in
theorem in_X4_addDriver_X4 : ∀ w ∈ u_ws RX4 TX4 22, w ∈ wsX4_addDriver := by decide +kernel
set_option maxHeartbeats 4000000 in
set_option maxRecDepth 100000 in
theorem c_X4_addDriver (l : Launch) (G : jG) (h : Nat → Nat) (F : Nat → Nat → Int) (V : Nat → Int) (fd : Nat → Int) (z : Int) (hrz : jR z) (hk : okM F V) : jMet l yX4_addDriver wsX4_addDriver { frames := 2, cells := 0, slots := 0, locals := 60 } G (wM G h F V fd) [.ref (h 0), .int (iI z)] (fun rv w1 => ∃ (v : Int) (F' : Nat → Nat → Int) (V' fd' : Nat → Int), rv = some (.int (iI v)) ∧ w1 = wM G h F' V' fd' ∧ (cdAddDriver (V 1) z ≠ 0 → mSc F F' ∧ V' = jU V 0 (cdAddDriver (V 1) z)) ∧ (cdAddDriver (V 1) z = 0 → v = V 1 ∧ mSc (uF F 0 (jU (F 0) (V 1).toNat z)) F' ∧ V' = (jU (jU V 0 0) 1 (V 1 + 1)))) := by
  refine jMet_of (cc := cX4_addDriver) (maxL := 2) (ret := (some .int)) (by decide +kernel) rfl (Nat.le_of_ble_eq_true rfl) ?_
  intro p e s m args below meth c A hh hret hinit
  refine jr_loc (lv' := [(0, .ref (h 0)), (1, .int (iI z))]) [0, 1] rfl ?_
  obtain ⟨hV1, hV2, hV3, hV4, hV5, -⟩ := id hk
  have hrz1 := hrz.1
  have hrz2 := hrz.2
  refine jr_cut (σ := Int) 30 (fun (cd : Int) => cd = cdAddDriver (V 1) z) (fun (cd : Int) => (wM G h F V fd)) (fun (cd : Int) => [(0, .ref (h 0)), (1, .int (iI z))]) (fun (cd : Int) => [.int (iI cd), .ref (h 0)]) ?_ (fun cut30 => ?_)
  · rintro cd hcut30
    try dsimp only
    try dsimp only at hcut30
    have hcd2 := hcut30
    unfold cdAddDriver at hcd2
    refine jr_put (ws' := (wM G h F (jU V 0 cd) fd)) (pc := 30) hh in_X4_addDriver_X4 tyX4_ok nmX4 0 rfl rfl 16 (by decide) (by decide +kernel : Cond.fieldLink RX4 61 (TX4 16).1 (TX4 16).2.1 (TX4 16).2.2.1 ∈ wsX4_addDriver) rfl rfl (Nat.le_of_ble_eq_true rfl) rfl dX4_addDriver_30 ?_
    refine jr_aload_n (pc := 33) hh 0 dX4_addDriver_33 rfl rfl ?_
    refine jr_get (v := .int (iI cd)) (pc := 34) hh in_X4_addDriver_X4 0 rfl rfl 16 (by decide) (by decide +kernel : Cond.fieldLink RX4 61 (TX4 16).1 (TX4 16).2.1 (TX4 16).2.2.1 ∈ wsX4_addDriver) rfl dX4_addDriver_34 ?_
    refine jr_if_le (tgt := 42) (pc := 37) hh dX4_addDriver_37 (by decide) ⟨by omega, by omega⟩ (fun c1 => ?_) (fun c1 => ?_)
    · skip
      refine jr_aload_n (pc := 42) hh 0 dX4_addDriver_42 rfl rfl ?_
      refine jr_get (v := .ref (h 1)) (pc := 43) hh in_X4_addDriver_X4 0 rfl rfl 0 (by decide) (by decide +kernel : Cond.fieldLink RX4 7 (TX4 0).1 (TX4 0).2.1 (TX4 0).2.2.1 ∈ wsX4_addDriver) rfl dX4_addDriver_43 ?_
      refine jr_aload_n (pc := 46) hh 0 dX4_addDriver_46 rfl rfl ?_
      refine jr_get (v := .int (iI (V 1))) (pc := 47) hh in_X4_addDriver_X4 0 rfl rfl 17 (by decide) (by decide +kernel : Cond.fieldLink RX4 65 (TX4 17).1 (TX4 17).2.1 (TX4 17).2.2.1 ∈ wsX4_addDriver) rfl dX4_addDriver_47 ?_
      refine jr_iload_n (pc := 50) hh 1 dX4_addDriver_50 rfl rfl ?_
      refine jr_iast (F := (F 0)) (ws' := (wM G h (uF F 0 (jU (F 0) ((V 1).toNat) z)) (jU V 0 cd) fd)) (pc := 51) hh 1 rfl ((V 1).toNat) (by omega) (by omega) (by decide) rfl dX4_addDriver_51 ?_
      refine jr_aload_n (pc := 52) hh 0 dX4_addDriver_52 rfl rfl ?_
      refine jr_dup (pc := 53) hh dX4_addDriver_53 rfl ?_
      refine jr_get (v := .int (iI (V 1))) (pc := 54) hh in_X4_addDriver_X4 0 rfl rfl 17 (by decide) (by decide +kernel : Cond.fieldLink RX4 65 (TX4 17).1 (TX4 17).2.1 (TX4 17).2.2.1 ∈ wsX4_addDriver) rfl dX4_addDriver_54 ?_
      refine jr_iconst (pc := 57) hh dX4_addDriver_57 ?_
      refine jr_iadd (pc := 58) hh dX4_addDriver_58 ?_
      refine jr_put (ws' := (wM G h (uF F 0 (jU (F 0) ((V 1).toNat) z)) (jU (jU V 0 cd) 1 ((V 1) + 1)) fd)) (pc := 59) hh in_X4_addDriver_X4 tyX4_ok nmX4 0 rfl rfl 17 (by decide) (by decide +kernel : Cond.fieldLink RX4 65 (TX4 17).1 (TX4 17).2.1 (TX4 17).2.2.1 ∈ wsX4_addDriver) rfl rfl (Nat.le_of_ble_eq_true rfl) rfl dX4_addDriver_59 ?_
      refine jr_aload_n (pc := 62) hh 0 dX4_addDriver_62 rfl rfl ?_
      refine jr_get (v := .int (iI ((V 1) + 1))) (pc := 63) hh in_X4_addDriver_X4 0 rfl rfl 17 (by decide) (by decide +kernel : Cond.fieldLink RX4 65 (TX4 17).1 (TX4 17).2.1 (TX4 17).2.2.1 ∈ wsX4_addDriver) rfl dX4_addDriver_63 ?_
      refine jr_iconst (pc := 66) hh dX4_addDriver_66 ?_
      refine jr_isub (pc := 67) hh dX4_addDriver_67 ?_
      exact jr_iret (pc := 68) hh hret rfl ⟨(V 1), _, _, _, (jsi (by omega)), rfl, fun q => absurd q (by omega), fun _ => ⟨rfl, mSc_rf _, by rw [show cd = 0 by omega]⟩⟩ (by decide) (by decide) dX4_addDriver_68
    · skip
      refine jr_iconst (pc := 40) hh dX4_addDriver_40 ?_
      exact jr_iret (pc := 41) hh hret rfl ⟨0, _, _, _, rfl, rfl, fun _ => ⟨(mSc_rf _), by rw [hcut30]⟩, fun q => absurd q (by omega)⟩ (by decide) (by decide) dX4_addDriver_41
  · try dsimp only at cut30
    refine jr_aload_n (pc := 0) hh 0 dX4_addDriver_0 rfl rfl ?_
    refine jr_iload_n (pc := 1) hh 1 dX4_addDriver_1 rfl rfl ?_
    refine jr_iconst (pc := 2) hh dX4_addDriver_2 ?_
    refine jr_sipush (pc := 3) hh dX4_addDriver_3 (by decide) ?_
    refine jr_callS (pc := 6) hh [.int (iI z), .int (iI 0), .int (iI 9999)] [.ref (h 0)] (c_X4_in l G z 0 9999 ⟨by omega, by omega⟩ ⟨by omega, by omega⟩ ⟨by omega, by omega⟩) gX4_addDriver_X4_in rfl (by decide) (by decide) [] [0, 1, 2, 3, 4, 5, 6, 7, 8, 9, 10, 11, 12, 13, 14, 15, 16] rfl rfl rfl rfl (by decide) 3 rfl rfl (Nat.le_of_ble_eq_true rfl) (by decide +kernel) dX4_addDriver_6 (fun rvu3 wu3 hu3 => ?_)
    obtain ⟨rfl, rfl⟩ := hu3
    refine jr_perm (ws' := (wM G h F V fd)) (st := [.int (iI (inI z 0 9999)), .ref (h 0)]) [0, 1, 2, 3, 4, 5, 6, 7, 8, 9, 10, 11, 12, 13, 14, 15, 16] rfl rfl ?_
    have hin2 : (inI z 0 9999) = if 0 ≤ z ∧ z ≤ 9999 then 1 else 0 := rfl
    refine jr_if_ne (tgt := 16) (pc := 9) hh dX4_addDriver_9 (by decide) ⟨by omega, by omega⟩ (fun c4 => ?_) (fun c4 => ?_)
    · skip
      refine jr_aload_n (pc := 16) hh 0 dX4_addDriver_16 rfl rfl ?_
      refine jr_get (v := .int (iI (V 1))) (pc := 17) hh in_X4_addDriver_X4 0 rfl rfl 17 (by decide) (by decide +kernel : Cond.fieldLink RX4 65 (TX4 17).1 (TX4 17).2.1 (TX4 17).2.2.1 ∈ wsX4_addDriver) rfl dX4_addDriver_17 ?_
      refine jr_bipush (pc := 20) hh dX4_addDriver_20 (by decide) ?_
      refine jr_icmp_ne (tgt := 29) (pc := 22) hh dX4_addDriver_22 (by decide) ⟨by omega, by omega⟩ ⟨by omega, by omega⟩ (fun c5 => ?_) (fun c5 => ?_)
      · skip
        refine jr_iconst (pc := 29) hh dX4_addDriver_29 ?_
        refine jr_loc (lv' := [(0, .ref (h 0)), (1, .int (iI z))]) [0, 1] rfl ?_
        exact cut30 (0) (by unfold cdAddDriver; omega)
      · skip
        refine jr_iconst (pc := 25) hh dX4_addDriver_25 ?_
        refine jr_goto (tgt := 30) (pc := 26) hh dX4_addDriver_26 (by decide) ?_
        refine jr_loc (lv' := [(0, .ref (h 0)), (1, .int (iI z))]) [0, 1] rfl ?_
        exact cut30 (2) (by unfold cdAddDriver; omega)
    · skip
      refine jr_iconst (pc := 12) hh dX4_addDriver_12 ?_
      refine jr_goto (tgt := 30) (pc := 13) hh dX4_addDriver_13 (by decide) ?_
      refine jr_loc (lv' := [(0, .ref (h 0)), (1, .int (iI z))]) [0, 1] rfl ?_
      exact cut30 (1) (by unfold cdAddDriver; omega)
set_option maxRecDepth 20000 in
theorem in_X4_setDriver_X4 : ∀ w ∈ u_ws RX4 TX4 22, w ∈ wsX4_setDriver := by decide +kernel
set_option maxHeartbeats 4000000 in
set_option maxRecDepth 100000 in
theorem c_X4_setDriver (l : Launch) (G : jG) (h : Nat → Nat) (F : Nat → Nat → Int) (V : Nat → Int) (fd : Nat → Int) (d z : Int) (hrd : jR d) (hrz : jR z) (hk : okM F V) : jMet l yX4_setDriver wsX4_setDriver { frames := 6, cells := 0, slots := 0, locals := 300 } G (wM G h F V fd) [.ref (h 0), .int (iI d), .int (iI z)] (fun rv w1 => ∃ (v : Int) (F' : Nat → Nat → Int) (V' fd' : Nat → Int), rv = some (.int (iI v)) ∧ w1 = wM G h F' V' fd' ∧ (cdSetDriver (V 1) d z ≠ 0 → mSc F F' ∧ V' = jU V 0 (cdSetDriver (V 1) d z)) ∧ (cdSetDriver (V 1) d z = 0 → v = cntM (uF F 0 (jU (F 0) d.toNat z)) V ∧ mSc (uF (uF F 0 (jU (F 0) d.toNat z)) 14 (stM (uF F 0 (jU (F 0) d.toNat z)) V)) F' ∧ V' = (jU V 0 0))) := by
  refine jMet_of (cc := cX4_setDriver) (maxL := 3) (ret := (some .int)) (by decide +kernel) rfl (Nat.le_of_ble_eq_true rfl) ?_
  intro p e s m args below meth c A hh hret hinit
  refine jr_loc (lv' := [(0, .ref (h 0)), (1, .int (iI d)), (2, .int (iI z))]) [0, 1, 2] rfl ?_
  obtain ⟨hV1, hV2, hV3, hV4, hV5, -⟩ := id hk
  have hrd1 := hrd.1
  have hrz1 := hrz.1
  have hrd2 := hrd.2
  have hrz2 := hrz.2
  refine jr_cut (σ := Int) 29 (fun (cd : Int) => cd = cdSetDriver (V 1) d z) (fun (cd : Int) => (wM G h F V fd)) (fun (cd : Int) => [(0, .ref (h 0)), (1, .int (iI d)), (2, .int (iI z))]) (fun (cd : Int) => [.int (iI cd), .ref (h 0)]) ?_ (fun cut29 => ?_)
  · rintro cd hcut29
    try dsimp only
    try dsimp only at hcut29
    have hcd2 := hcut29
    unfold cdSetDriver at hcd2
    refine jr_put (ws' := (wM G h F (jU V 0 cd) fd)) (pc := 29) hh in_X4_setDriver_X4 tyX4_ok nmX4 0 rfl rfl 16 (by decide) (by decide +kernel : Cond.fieldLink RX4 61 (TX4 16).1 (TX4 16).2.1 (TX4 16).2.2.1 ∈ wsX4_setDriver) rfl rfl (Nat.le_of_ble_eq_true rfl) rfl dX4_setDriver_29 ?_
    refine jr_aload_n (pc := 32) hh 0 dX4_setDriver_32 rfl rfl ?_
    refine jr_get (v := .int (iI cd)) (pc := 33) hh in_X4_setDriver_X4 0 rfl rfl 16 (by decide) (by decide +kernel : Cond.fieldLink RX4 61 (TX4 16).1 (TX4 16).2.1 (TX4 16).2.2.1 ∈ wsX4_setDriver) rfl dX4_setDriver_33 ?_
    refine jr_if_le (tgt := 41) (pc := 36) hh dX4_setDriver_36 (by decide) ⟨by omega, by omega⟩ (fun c1 => ?_) (fun c1 => ?_)
    · skip
      obtain ⟨dN, rfl⟩ : ∃ k : Nat, d = (k : Int) := ⟨d.toNat, by omega⟩
      have hk1 := okM_V0 (okM_dv hk dN (z := z) (by omega)) cd
      refine jr_aload_n (pc := 41) hh 0 dX4_setDriver_41 rfl rfl ?_
      refine jr_get (v := .ref (h 1)) (pc := 42) hh in_X4_setDriver_X4 0 rfl rfl 0 (by decide) (by decide +kernel : Cond.fieldLink RX4 7 (TX4 0).1 (TX4 0).2.1 (TX4 0).2.2.1 ∈ wsX4_setDriver) rfl dX4_setDriver_42 ?_
      refine jr_iload_n (pc := 45) hh 1 dX4_setDriver_45 rfl rfl ?_
      refine jr_iload_n (pc := 46) hh 2 dX4_setDriver_46 rfl rfl ?_
      refine jr_iast (F := (F 0)) (ws' := (wM G h (uF F 0 (jU (F 0) dN z)) (jU V 0 cd) fd)) (pc := 47) hh 1 rfl dN (by omega) (by omega) (by decide) rfl dX4_setDriver_47 ?_
      refine jr_aload_n (pc := 48) hh 0 dX4_setDriver_48 rfl rfl ?_
      refine jr_callV (pc := 49) hh [] [] (c_X4_looks l G h (uF F 0 (jU (F 0) dN z)) (jU V 0 cd) fd hk1) gX4_setDriver_X4_looks rfl (by decide) (by decide) [0, 1, 2, 3, 4, 5, 6, 7, 8, 9, 10, 11, 12, 13, 14, 15, 16] [] rfl rfl rfl rfl (by decide) 0 rfl rfl 0 rfl rfl (Nat.le_of_ble_eq_true rfl) (by decide +kernel) dX4_setDriver_49 (fun rvu2 wu2 hu2 => ?_)
      obtain ⟨rfl, isf, fd2, rfl⟩ := hu2
      refine jr_perm (ws' := (wM G h (uF (uF (uF F 0 (jU (F 0) dN z)) 13 isf) 14 (stM (uF F 0 (jU (F 0) dN z)) (jU V 0 cd))) (jU V 0 cd) fd2)) (st := [.int (iI (cntM (uF F 0 (jU (F 0) dN z)) (jU V 0 cd)))]) [0, 1, 2, 3, 4, 5, 6, 7, 8, 9, 10, 11, 12, 13, 14, 15, 16] rfl rfl ?_
      exact jr_iret (pc := 52) hh hret rfl ⟨_, _, _, _, rfl, rfl, fun q => absurd q (by omega), fun _ => ⟨rfl, mSc_14 _ _ _, by rw [show cd = 0 by omega]⟩⟩ (by decide) (by decide) dX4_setDriver_52
    · skip
      refine jr_iconst (pc := 39) hh dX4_setDriver_39 ?_
      exact jr_iret (pc := 40) hh hret rfl ⟨0, _, _, _, rfl, rfl, fun _ => ⟨(mSc_rf _), by rw [hcut29]⟩, fun q => absurd q (by omega)⟩ (by decide) (by decide) dX4_setDriver_40
  · try dsimp only at cut29
    refine jr_aload_n (pc := 0) hh 0 dX4_setDriver_0 rfl rfl ?_
    refine jr_aload_n (pc := 1) hh 0 dX4_setDriver_1 rfl rfl ?_
    refine jr_iload_n (pc := 2) hh 1 dX4_setDriver_2 rfl rfl ?_
    refine jr_callV (pc := 3) hh [.int (iI d)] [.ref (h 0)] (c_X4_isDriver l G h F V fd d ⟨by omega, by omega⟩ ⟨by omega, by omega⟩) gX4_setDriver_X4_isDriver rfl (by decide) (by decide) [0, 1, 2, 3, 4, 5, 6, 7, 8, 9, 10, 11, 12, 13, 14, 15, 16] [] rfl rfl rfl rfl (by decide) 0 rfl rfl 1 rfl rfl (Nat.le_of_ble_eq_true rfl) (by decide +kernel) dX4_setDriver_3 (fun rvu4 wu4 hu4 => ?_)
    obtain ⟨rfl, rfl⟩ := hu4
    refine jr_perm (ws' := (wM G h F V fd)) (st := [.int (iI (inI d 0 (V 1 - 1))), .ref (h 0)]) [0, 1, 2, 3, 4, 5, 6, 7, 8, 9, 10, 11, 12, 13, 14, 15, 16] rfl rfl ?_
    have hin3 : (inI d 0 (V 1 - 1)) = if 0 ≤ d ∧ d ≤ V 1 - 1 then 1 else 0 := rfl
    refine jr_if_ne (tgt := 13) (pc := 6) hh dX4_setDriver_6 (by decide) ⟨by omega, by omega⟩ (fun c5 => ?_) (fun c5 => ?_)
    · skip
      refine jr_iload_n (pc := 13) hh 2 dX4_setDriver_13 rfl rfl ?_
      refine jr_iconst (pc := 14) hh dX4_setDriver_14 ?_
      refine jr_sipush (pc := 15) hh dX4_setDriver_15 (by decide) ?_
      refine jr_callS (pc := 18) hh [.int (iI z), .int (iI 0), .int (iI 9999)] [.ref (h 0)] (c_X4_in l G z 0 9999 ⟨by omega, by omega⟩ ⟨by omega, by omega⟩ ⟨by omega, by omega⟩) gX4_setDriver_X4_in rfl (by decide) (by decide) [] [0, 1, 2, 3, 4, 5, 6, 7, 8, 9, 10, 11, 12, 13, 14, 15, 16] rfl rfl rfl rfl (by decide) 3 rfl rfl (Nat.le_of_ble_eq_true rfl) (by decide +kernel) dX4_setDriver_18 (fun rvu7 wu7 hu7 => ?_)
      obtain ⟨rfl, rfl⟩ := hu7
      refine jr_perm (ws' := (wM G h F V fd)) (st := [.int (iI (inI z 0 9999)), .ref (h 0)]) [0, 1, 2, 3, 4, 5, 6, 7, 8, 9, 10, 11, 12, 13, 14, 15, 16] rfl rfl ?_
      have hin6 : (inI z 0 9999) = if 0 ≤ z ∧ z ≤ 9999 then 1 else 0 := rfl
      refine jr_if_ne (tgt := 28) (pc := 21) hh dX4_setDriver_21 (by decide) ⟨by omega, by omega⟩ (fun c8 => ?_) (fun c8 => ?_)
      · skip
        refine jr_iconst (pc := 28) hh dX4_setDriver_28 ?_
        refine jr_loc (lv' := [(0, .ref (h 0)), (1, .int (iI d)), (2, .int (iI z))]) [0, 1, 2] rfl ?_
        exact cut29 (0) (by unfold cdSetDriver; omega)
      · skip
        refine jr_iconst (pc := 24) hh dX4_setDriver_24 ?_
        refine jr_goto (tgt := 29) (pc := 25) hh dX4_setDriver_25 (by decide) ?_
        refine jr_loc (lv' := [(0, .ref (h 0)), (1, .int (iI d)), (2, .int (iI z))]) [0, 1, 2] rfl ?_
        exact cut29 (2) (by unfold cdSetDriver; omega)
    · skip
      refine jr_iconst (pc := 9) hh dX4_setDriver_9 ?_
      refine jr_goto (tgt := 29) (pc := 10) hh dX4_setDriver_10 (by decide) ?_
      refine jr_loc (lv' := [(0, .ref (h 0)), (1, .int (iI d)), (2, .int (iI z))]) [0, 1, 2] rfl ?_
      exact cut29 (1) (by unfold cdSetDriver; omega)
set_option maxHeartbeats 4000000 in
set_option maxRecDepth 100000 in
theorem c_X4_driver (l : Launch) (G : jG) (h : Nat → Nat) (F : Nat → Nat → Int) (V : Nat → Int) (fd : Nat → Int) (sc d t : Int) (hrsc : jR sc) (hrd : jR d) (hrt : jR t) (hk : okM F V) : jMet l yX4_driver wsX4_driver { frames := 4, cells := 0, slots := 0, locals := 180 } G (wM G h F V fd) [.ref (h 0), .int (iI sc), .int (iI d), .int (iI t)] (fun rv w1 => ∃ (v : Int) (F' : Nat → Nat → Int) (V' fd' : Nat → Int), rv = some (.int (iI v)) ∧ w1 = wM G h F' V' fd' ∧ (cdDriver (V 3) (V 1) sc d t ≠ 0 → mSc F F' ∧ V' = jU V 0 (cdDriver (V 3) (V 1) sc d t)) ∧ (cdDriver (V 3) (V 1) sc d t = 0 → v = valM F V sc.toNat d.toNat t.toNat 6 ∧ mSc F F' ∧ V' = (jU V 0 0))) := by
  refine jMet_of (cc := cX4_driver) (maxL := 4) (ret := (some .int)) (by decide +kernel) rfl (Nat.le_of_ble_eq_true rfl) ?_
  intro p e s m args below meth c A hh hret hinit
  refine jr_loc (lv' := [(0, .ref (h 0)), (1, .int (iI sc)), (2, .int (iI d)), (3, .int (iI t))]) [0, 1, 2, 3] rfl ?_
  obtain ⟨hV1, hV2, hV3, hV4, hV5, -⟩ := id hk
  have hrsc1 := hrsc.1
  have hrd1 := hrd.1
  have hrt1 := hrt.1
  have hrsc2 := hrsc.2
  have hrd2 := hrd.2
  have hrt2 := hrt.2
  refine jr_cut (σ := Int) 29 (fun (z : Int) => z = 1 - cdDriver (V 3) (V 1) sc d t) (fun (z : Int) => (wM G h F V fd)) (fun (z : Int) => [(0, .ref (h 0)), (1, .int (iI sc)), (2, .int (iI d)), (3, .int (iI t))]) (fun (z : Int) => [.int (iI z), .ref (h 0)]) ?_ (fun cut29 => ?_)
  · rintro z hcut29
    try dsimp only
    try dsimp only at hcut29
    have hcd2 := hcut29
    unfold cdDriver at hcd2
    refine jr_callV (pc := 29) hh [.int (iI z)] [] (c_X4_checked l G h F V fd z (by omega)) gX4_driver_X4_checked rfl (by decide) (by decide) [0, 1, 2, 3, 4, 5, 6, 7, 8, 9, 10, 11, 12, 13, 14, 15, 16] [] rfl rfl rfl rfl (by decide) 0 rfl rfl 1 rfl rfl (Nat.le_of_ble_eq_true rfl) (by decide +kernel) dX4_driver_29 (fun rvu1 wu1 hu1 => ?_)
    obtain ⟨rfl, rfl⟩ := hu1
    refine jr_perm (ws' := (wM G h F (jU V 0 (1 - z)) fd)) (st := [.int (iI (1 - z))]) [0, 1, 2, 3, 4, 5, 6, 7, 8, 9, 10, 11, 12, 13, 14, 15, 16] rfl rfl ?_
    refine jr_if_le (tgt := 39) (pc := 32) hh dX4_driver_32 (by decide) ⟨by omega, by omega⟩ (fun c2 => ?_) (fun c2 => ?_)
    · skip
      obtain ⟨scN, rfl⟩ : ∃ k : Nat, sc = (k : Int) := ⟨sc.toNat, by omega⟩
      obtain ⟨dN, rfl⟩ : ∃ k : Nat, d = (k : Int) := ⟨d.toNat, by omega⟩
      obtain ⟨tN, rfl⟩ : ∃ k : Nat, t = (k : Int) := ⟨t.toNat, by omega⟩
      refine jr_aload_n (pc := 39) hh 0 dX4_driver_39 rfl rfl ?_
      refine jr_iload_n (pc := 40) hh 1 dX4_driver_40 rfl rfl ?_
      refine jr_iload_n (pc := 41) hh 2 dX4_driver_41 rfl rfl ?_
      refine jr_iload_n (pc := 42) hh 3 dX4_driver_42 rfl rfl ?_
      refine jr_bipush (pc := 43) hh dX4_driver_43 (by decide) ?_
      refine jr_callV (pc := 45) hh [.int (iI (scN : Int)), .int (iI (dN : Int)), .int (iI (tN : Int)), .int (iI 6)] [] (c_X4_valueIn l G h F (jU V 0 (1 - z)) fd scN dN tN 6 hk (by show (_ : Int) < V 3; omega) (by omega) (by omega) (by omega)) gX4_driver_X4_valueIn rfl (by decide) (by decide) [0, 1, 2, 3, 4, 5, 6, 7, 8, 9, 10, 11, 12, 13, 14, 15, 16] [] rfl rfl rfl rfl (by decide) 0 rfl rfl 4 rfl rfl (Nat.le_of_ble_eq_true rfl) (by decide +kernel) dX4_driver_45 (fun rvu3 wu3 hu3 => ?_)
      obtain ⟨rfl, rfl⟩ := hu3
      refine jr_perm (ws' := (wM G h F (jU V 0 (1 - z)) fd)) (st := [.int (iI (valM F V scN dN tN 6))]) [0, 1, 2, 3, 4, 5, 6, 7, 8, 9, 10, 11, 12, 13, 14, 15, 16] rfl rfl ?_
      exact jr_iret (pc := 48) hh hret rfl ⟨_, _, _, _, rfl, rfl, fun q => absurd q (by omega), fun _ => ⟨rfl, mSc_rf _, by congr 1; omega⟩⟩ (by decide) (by decide) dX4_driver_48
    · skip
      refine jr_iconst (pc := 35) hh dX4_driver_35 ?_
      refine jr_goto (tgt := 48) (pc := 36) hh dX4_driver_36 (by decide) ?_
      exact jr_iret (pc := 48) hh hret rfl ⟨0, _, _, _, rfl, rfl, fun _ => ⟨(mSc_rf _), by congr 1; omega⟩, fun q => absurd q (by omega)⟩ (by decide) (by decide) dX4_driver_48
  · try dsimp only at cut29
    refine jr_aload_n (pc := 0) hh 0 dX4_driver_0 rfl rfl ?_
    refine jr_aload_n (pc := 1) hh 0 dX4_driver_1 rfl rfl ?_
    refine jr_iload_n (pc := 2) hh 1 dX4_driver_2 rfl rfl ?_
    refine jr_callV (pc := 3) hh [.int (iI sc)] [.ref (h 0)] (c_X4_isScenario l G h F V fd sc ⟨by omega, by omega⟩ ⟨by omega, by omega⟩) gX4_driver_X4_isScenario rfl (by decide) (by decide) [0, 1, 2, 3, 4, 5, 6, 7, 8, 9, 10, 11, 12, 13, 14, 15, 16] [] rfl rfl rfl rfl (by decide) 0 rfl rfl 1 rfl rfl (Nat.le_of_ble_eq_true rfl) (by decide +kernel) dX4_driver_3 (fun rvu5 wu5 hu5 => ?_)
    obtain ⟨rfl, rfl⟩ := hu5
    refine jr_perm (ws' := (wM G h F V fd)) (st := [.int (iI (inI sc 0 (V 3 - 1))), .ref (h 0)]) [0, 1, 2, 3, 4, 5, 6, 7, 8, 9, 10, 11, 12, 13, 14, 15, 16] rfl rfl ?_
    have hin4 : (inI sc 0 (V 3 - 1)) = if 0 ≤ sc ∧ sc ≤ V 3 - 1 then 1 else 0 := rfl
    refine jr_if_eq (tgt := 28) (pc := 6) hh dX4_driver_6 (by decide) ⟨by omega, by omega⟩ (fun c6 => ?_) (fun c6 => ?_)
    · skip
      refine jr_iconst (pc := 28) hh dX4_driver_28 ?_
      refine jr_loc (lv' := [(0, .ref (h 0)), (1, .int (iI sc)), (2, .int (iI d)), (3, .int (iI t))]) [0, 1, 2, 3] rfl ?_
      exact cut29 (0) (by unfold cdDriver; omega)
    · skip
      refine jr_aload_n (pc := 9) hh 0 dX4_driver_9 rfl rfl ?_
      refine jr_iload_n (pc := 10) hh 2 dX4_driver_10 rfl rfl ?_
      refine jr_callV (pc := 11) hh [.int (iI d)] [.ref (h 0)] (c_X4_isDriver l G h F V fd d ⟨by omega, by omega⟩ ⟨by omega, by omega⟩) gX4_driver_X4_isDriver rfl (by decide) (by decide) [0, 1, 2, 3, 4, 5, 6, 7, 8, 9, 10, 11, 12, 13, 14, 15, 16] [] rfl rfl rfl rfl (by decide) 0 rfl rfl 1 rfl rfl (Nat.le_of_ble_eq_true rfl) (by decide +kernel) dX4_driver_11 (fun rvu8 wu8 hu8 => ?_)
      obtain ⟨rfl, rfl⟩ := hu8
      refine jr_perm (ws' := (wM G h F V fd)) (st := [.int (iI (inI d 0 (V 1 - 1))), .ref (h 0)]) [0, 1, 2, 3, 4, 5, 6, 7, 8, 9, 10, 11, 12, 13, 14, 15, 16] rfl rfl ?_
      have hin7 : (inI d 0 (V 1 - 1)) = if 0 ≤ d ∧ d ≤ V 1 - 1 then 1 else 0 := rfl
      refine jr_if_eq (tgt := 28) (pc := 14) hh dX4_driver_14 (by decide) ⟨by omega, by omega⟩ (fun c9 => ?_) (fun c9 => ?_)
      · skip
        refine jr_iconst (pc := 28) hh dX4_driver_28 ?_
        refine jr_loc (lv' := [(0, .ref (h 0)), (1, .int (iI sc)), (2, .int (iI d)), (3, .int (iI t))]) [0, 1, 2, 3] rfl ?_
        exact cut29 (0) (by unfold cdDriver; omega)
      · skip
        refine jr_iload_n (pc := 17) hh 3 dX4_driver_17 rfl rfl ?_
        refine jr_callS (pc := 18) hh [.int (iI t)] [.ref (h 0)] (c_X4_isMonth l G t ⟨by omega, by omega⟩) gX4_driver_X4_isMonth rfl (by decide) (by decide) [] [0, 1, 2, 3, 4, 5, 6, 7, 8, 9, 10, 11, 12, 13, 14, 15, 16] rfl rfl rfl rfl (by decide) 1 rfl rfl (Nat.le_of_ble_eq_true rfl) (by decide +kernel) dX4_driver_18 (fun rvu11 wu11 hu11 => ?_)
        obtain ⟨rfl, rfl⟩ := hu11
        refine jr_perm (ws' := (wM G h F V fd)) (st := [.int (iI (inI t 0 11)), .ref (h 0)]) [0, 1, 2, 3, 4, 5, 6, 7, 8, 9, 10, 11, 12, 13, 14, 15, 16] rfl rfl ?_
        have hin10 : (inI t 0 11) = if 0 ≤ t ∧ t ≤ 11 then 1 else 0 := rfl
        refine jr_if_eq (tgt := 28) (pc := 21) hh dX4_driver_21 (by decide) ⟨by omega, by omega⟩ (fun c12 => ?_) (fun c12 => ?_)
        · skip
          refine jr_iconst (pc := 28) hh dX4_driver_28 ?_
          refine jr_loc (lv' := [(0, .ref (h 0)), (1, .int (iI sc)), (2, .int (iI d)), (3, .int (iI t))]) [0, 1, 2, 3] rfl ?_
          exact cut29 (0) (by unfold cdDriver; omega)
        · skip
          refine jr_iconst (pc := 24) hh dX4_driver_24 ?_
          refine jr_goto (tgt := 29) (pc := 25) hh dX4_driver_25 (by decide) ?_
          refine jr_loc (lv' := [(0, .ref (h 0)), (1, .int (iI sc)), (2, .int (iI d)), (3, .int (iI t))]) [0, 1, 2, 3] rfl ?_
          exact cut29 (1) (by unfold cdDriver; omega)
set_option maxRecDepth 20000 in
theorem in_X4_addLine_X4 : ∀ w ∈ u_ws RX4 TX4 22, w ∈ wsX4_addLine := by decide +kernel
set_option maxHeartbeats 4000000 in
set_option maxRecDepth 100000 in
theorem c_X4_addLine (l : Launch) (G : jG) (h : Nat → Nat) (F : Nat → Nat → Int) (V : Nat → Int) (fd : Nat → Int) (kd on ot : Int) (hrkd : jR kd) (hron : jR on) (hrot : jR ot) (hk : okM F V) (hkd : 0 ≤ kd ∧ kd ≤ 65535) : jMet l yX4_addLine wsX4_addLine { frames := 3, cells := 0, slots := 0, locals := 120 } G (wM G h F V fd) [.ref (h 0), .int (iI kd), .int (iI on), .int (iI ot)] (fun rv w1 => ∃ (v : Int) (F' : Nat → Nat → Int) (V' fd' : Nat → Int), rv = some (.int (iI v)) ∧ w1 = wM G h F' V' fd' ∧ (cdAddLine (V 1) (V 2) kd on ot ≠ 0 → mSc F F' ∧ V' = jU V 0 (cdAddLine (V 1) (V 2) kd on ot)) ∧ (cdAddLine (V 1) (V 2) kd on ot = 0 → v = V 2 ∧ ∃ o : Int, (kd ≠ 100 → o = ot) ∧ mSc (uF (uF (uF F 1 (jU (F 1) (V 2).toNat kd)) 2 (jU (F 2) (V 2).toNat on)) 3 (jU (F 3) (V 2).toNat o)) F' ∧ V' = jU (jU V 0 0) 2 (V 2 + 1))) := by
  refine jMet_of (cc := cX4_addLine) (maxL := 5) (ret := (some .int)) (by decide +kernel) rfl (Nat.le_of_ble_eq_true rfl) ?_
  intro p e s m args below meth c A hh hret hinit
  refine jr_loc (lv' := [(0, .ref (h 0)), (1, .int (iI kd)), (2, .int (iI on)), (3, .int (iI ot))]) [0, 1, 2, 3] rfl ?_
  obtain ⟨hV1, hV2, hV3, hV4, hV5, -⟩ := id hk
  have hrkd1 := hrkd.1
  have hron1 := hron.1
  have hrot1 := hrot.1
  have hrkd2 := hrkd.2
  have hron2 := hron.2
  have hrot2 := hrot.2
  refine jr_cut (σ := Int) 35 (fun (y : Int) => (y = 0 ∨ y = 1) ∧ (y = 1 ↔ ((kd = 100 → 0 ≤ on ∧ on < V 1) ∧ (kd ≠ 100 → (0 ≤ on ∧ on < V 2) ∧ (0 ≤ ot ∧ ot < V 2))))) (fun (y : Int) => (wM G h F V fd)) (fun (y : Int) => [(0, .ref (h 0)), (1, .int (iI kd)), (2, .int (iI on)), (3, .int (iI ot))]) (fun (y : Int) => [.int (iI y)]) ?_ (fun cut35 => ?_)
  · rintro y hcut35
    try dsimp only
    try dsimp only at hcut35
    refine jr_istore (lv' := [(4, .int (iI y)), (0, .ref (h 0)), (1, .int (iI kd)), (2, .int (iI on)), (3, .int (iI ot))]) (pc := 35) hh dX4_addLine_35 (by decide) rfl ?_
    refine jr_cut (σ := Int) 89 (fun (cd : Int) => cd = cdAddLine (V 1) (V 2) kd on ot) (fun (cd : Int) => (wM G h F V fd)) (fun (cd : Int) => [(4, .int (iI y)), (0, .ref (h 0)), (1, .int (iI kd)), (2, .int (iI on)), (3, .int (iI ot))]) (fun (cd : Int) => [.int (iI cd), .ref (h 0)]) ?_ (fun cut89 => ?_)
    · rintro cd hcut89
      try dsimp only
      try dsimp only at hcut89
      have hcd2 := hcut89
      unfold cdAddLine at hcd2
      refine jr_put (ws' := (wM G h F (jU V 0 cd) fd)) (pc := 89) hh in_X4_addLine_X4 tyX4_ok nmX4 0 rfl rfl 16 (by decide) (by decide +kernel : Cond.fieldLink RX4 61 (TX4 16).1 (TX4 16).2.1 (TX4 16).2.2.1 ∈ wsX4_addLine) rfl rfl (Nat.le_of_ble_eq_true rfl) rfl dX4_addLine_89 ?_
      refine jr_aload_n (pc := 92) hh 1 dX4_addLine_92 rfl rfl ?_
      refine jr_get (v := .int (iI cd)) (pc := 93) hh in_X4_addLine_X4 0 rfl rfl 16 (by decide) (by decide +kernel : Cond.fieldLink RX4 61 (TX4 16).1 (TX4 16).2.1 (TX4 16).2.2.1 ∈ wsX4_addLine) rfl dX4_addLine_93 ?_
      refine jr_if_le (tgt := 101) (pc := 96) hh dX4_addLine_96 (by decide) ⟨by omega, by omega⟩ (fun c1 => ?_) (fun c1 => ?_)
      · skip
        refine jr_aload_n (pc := 101) hh 1 dX4_addLine_101 rfl rfl ?_
        refine jr_get (v := .ref (h 2)) (pc := 102) hh in_X4_addLine_X4 0 rfl rfl 1 (by decide) (by decide +kernel : Cond.fieldLink RX4 13 (TX4 1).1 (TX4 1).2.1 (TX4 1).2.2.1 ∈ wsX4_addLine) rfl dX4_addLine_102 ?_
        refine jr_aload_n (pc := 105) hh 1 dX4_addLine_105 rfl rfl ?_
        refine jr_get (v := .int (iI (V 2))) (pc := 106) hh in_X4_addLine_X4 0 rfl rfl 18 (by decide) (by decide +kernel : Cond.fieldLink RX4 68 (TX4 18).1 (TX4 18).2.1 (TX4 18).2.2.1 ∈ wsX4_addLine) rfl dX4_addLine_106 ?_
        refine jr_iload_n (pc := 109) hh 2 dX4_addLine_109 rfl rfl ?_
        refine jr_iast (F := (F 1)) (ws' := (wM G h (uF F 1 (jU (F 1) ((V 2).toNat) kd)) (jU V 0 cd) fd)) (pc := 110) hh 2 rfl ((V 2).toNat) (by omega) (by omega) (by decide) rfl dX4_addLine_110 ?_
        refine jr_aload_n (pc := 111) hh 1 dX4_addLine_111 rfl rfl ?_
        refine jr_get (v := .ref (h 3)) (pc := 112) hh in_X4_addLine_X4 0 rfl rfl 2 (by decide) (by decide +kernel : Cond.fieldLink RX4 16 (TX4 2).1 (TX4 2).2.1 (TX4 2).2.2.1 ∈ wsX4_addLine) rfl dX4_addLine_112 ?_
        refine jr_aload_n (pc := 115) hh 1 dX4_addLine_115 rfl rfl ?_
        refine jr_get (v := .int (iI (V 2))) (pc := 116) hh in_X4_addLine_X4 0 rfl rfl 18 (by decide) (by decide +kernel : Cond.fieldLink RX4 68 (TX4 18).1 (TX4 18).2.1 (TX4 18).2.2.1 ∈ wsX4_addLine) rfl dX4_addLine_116 ?_
        refine jr_iload_n (pc := 119) hh 3 dX4_addLine_119 rfl rfl ?_
        refine jr_iast (F := (F 2)) (ws' := (wM G h (uF (uF F 1 (jU (F 1) ((V 2).toNat) kd)) 2 (jU (F 2) ((V 2).toNat) on)) (jU V 0 cd) fd)) (pc := 120) hh 3 rfl ((V 2).toNat) (by omega) (by omega) (by decide) rfl dX4_addLine_120 ?_
        refine jr_aload_n (pc := 121) hh 1 dX4_addLine_121 rfl rfl ?_
        refine jr_get (v := .ref (h 4)) (pc := 122) hh in_X4_addLine_X4 0 rfl rfl 3 (by decide) (by decide +kernel : Cond.fieldLink RX4 19 (TX4 3).1 (TX4 3).2.1 (TX4 3).2.2.1 ∈ wsX4_addLine) rfl dX4_addLine_122 ?_
        refine jr_aload_n (pc := 125) hh 1 dX4_addLine_125 rfl rfl ?_
        refine jr_get (v := .int (iI (V 2))) (pc := 126) hh in_X4_addLine_X4 0 rfl rfl 18 (by decide) (by decide +kernel : Cond.fieldLink RX4 68 (TX4 18).1 (TX4 18).2.1 (TX4 18).2.2.1 ∈ wsX4_addLine) rfl dX4_addLine_126 ?_
        refine jr_iload_n (pc := 129) hh 2 dX4_addLine_129 rfl rfl ?_
        refine jr_bipush (pc := 130) hh dX4_addLine_130 (by decide) ?_
        refine jr_icmp_ne (tgt := 139) (pc := 132) hh dX4_addLine_132 (by decide) ⟨by omega, by omega⟩ ⟨by omega, by omega⟩ (fun c2 => ?_) (fun c2 => ?_)
        · skip
          refine jr_iload_n (pc := 139) hh 4 dX4_addLine_139 rfl rfl ?_
          refine jr_iast (F := (F 3)) (ws' := (wM G h (uF (uF (uF F 1 (jU (F 1) ((V 2).toNat) kd)) 2 (jU (F 2) ((V 2).toNat) on)) 3 (jU (F 3) ((V 2).toNat) ot)) (jU V 0 cd) fd)) (pc := 140) hh 4 rfl ((V 2).toNat) (by omega) (by omega) (by decide) rfl dX4_addLine_140 ?_
          refine jr_aload_n (pc := 141) hh 1 dX4_addLine_141 rfl rfl ?_
          refine jr_dup (pc := 142) hh dX4_addLine_142 rfl ?_
          refine jr_get (v := .int (iI (V 2))) (pc := 143) hh in_X4_addLine_X4 0 rfl rfl 18 (by decide) (by decide +kernel : Cond.fieldLink RX4 68 (TX4 18).1 (TX4 18).2.1 (TX4 18).2.2.1 ∈ wsX4_addLine) rfl dX4_addLine_143 ?_
          refine jr_iconst (pc := 146) hh dX4_addLine_146 ?_
          refine jr_iadd (pc := 147) hh dX4_addLine_147 ?_
          refine jr_put (ws' := (wM G h (uF (uF (uF F 1 (jU (F 1) ((V 2).toNat) kd)) 2 (jU (F 2) ((V 2).toNat) on)) 3 (jU (F 3) ((V 2).toNat) ot)) (jU (jU V 0 cd) 2 ((V 2) + 1)) fd)) (pc := 148) hh in_X4_addLine_X4 tyX4_ok nmX4 0 rfl rfl 18 (by decide) (by decide +kernel : Cond.fieldLink RX4 68 (TX4 18).1 (TX4 18).2.1 (TX4 18).2.2.1 ∈ wsX4_addLine) rfl rfl (Nat.le_of_ble_eq_true rfl) rfl dX4_addLine_148 ?_
          refine jr_aload_n (pc := 151) hh 1 dX4_addLine_151 rfl rfl ?_
          refine jr_get (v := .int (iI ((V 2) + 1))) (pc := 152) hh in_X4_addLine_X4 0 rfl rfl 18 (by decide) (by decide +kernel : Cond.fieldLink RX4 68 (TX4 18).1 (TX4 18).2.1 (TX4 18).2.2.1 ∈ wsX4_addLine) rfl dX4_addLine_152 ?_
          refine jr_iconst (pc := 155) hh dX4_addLine_155 ?_
          refine jr_isub (pc := 156) hh dX4_addLine_156 ?_
          exact jr_iret (pc := 157) hh hret rfl ⟨V 2, _, _, _, jsi (by omega), rfl, fun q => absurd q (by omega), fun _ => ⟨rfl, ot, by omega, mSc_rf _, by rw [show cd = 0 by omega]⟩⟩ (by decide) (by decide) dX4_addLine_157
        · skip
          refine jr_iconst (pc := 135) hh dX4_addLine_135 ?_
          refine jr_goto (tgt := 140) (pc := 136) hh dX4_addLine_136 (by decide) ?_
          refine jr_iast (F := (F 3)) (ws' := (wM G h (uF (uF (uF F 1 (jU (F 1) ((V 2).toNat) kd)) 2 (jU (F 2) ((V 2).toNat) on)) 3 (jU (F 3) ((V 2).toNat) 0)) (jU V 0 cd) fd)) (pc := 140) hh 4 rfl ((V 2).toNat) (by omega) (by omega) (by decide) rfl dX4_addLine_140 ?_
          refine jr_aload_n (pc := 141) hh 1 dX4_addLine_141 rfl rfl ?_
          refine jr_dup (pc := 142) hh dX4_addLine_142 rfl ?_
          refine jr_get (v := .int (iI (V 2))) (pc := 143) hh in_X4_addLine_X4 0 rfl rfl 18 (by decide) (by decide +kernel : Cond.fieldLink RX4 68 (TX4 18).1 (TX4 18).2.1 (TX4 18).2.2.1 ∈ wsX4_addLine) rfl dX4_addLine_143 ?_
          refine jr_iconst (pc := 146) hh dX4_addLine_146 ?_
          refine jr_iadd (pc := 147) hh dX4_addLine_147 ?_
          refine jr_put (ws' := (wM G h (uF (uF (uF F 1 (jU (F 1) ((V 2).toNat) kd)) 2 (jU (F 2) ((V 2).toNat) on)) 3 (jU (F 3) ((V 2).toNat) 0)) (jU (jU V 0 cd) 2 ((V 2) + 1)) fd)) (pc := 148) hh in_X4_addLine_X4 tyX4_ok nmX4 0 rfl rfl 18 (by decide) (by decide +kernel : Cond.fieldLink RX4 68 (TX4 18).1 (TX4 18).2.1 (TX4 18).2.2.1 ∈ wsX4_addLine) rfl rfl (Nat.le_of_ble_eq_true rfl) rfl dX4_addLine_148 ?_
          refine jr_aload_n (pc := 151) hh 1 dX4_addLine_151 rfl rfl ?_
          refine jr_get (v := .int (iI ((V 2) + 1))) (pc := 152) hh in_X4_addLine_X4 0 rfl rfl 18 (by decide) (by decide +kernel : Cond.fieldLink RX4 68 (TX4 18).1 (TX4 18).2.1 (TX4 18).2.2.1 ∈ wsX4_addLine) rfl dX4_addLine_152 ?_
          refine jr_iconst (pc := 155) hh dX4_addLine_155 ?_
          refine jr_isub (pc := 156) hh dX4_addLine_156 ?_
          exact jr_iret (pc := 157) hh hret rfl ⟨V 2, _, _, _, jsi (by omega), rfl, fun q => absurd q (by omega), fun _ => ⟨rfl, 0, by omega, mSc_rf _, by rw [show cd = 0 by omega]⟩⟩ (by decide) (by decide) dX4_addLine_157
      · skip
        refine jr_iconst (pc := 99) hh dX4_addLine_99 ?_
        exact jr_iret (pc := 100) hh hret rfl ⟨0, _, _, _, rfl, rfl, fun _ => ⟨mSc_rf _, by rw [hcut89]⟩, fun q => absurd q (by omega)⟩ (by decide) (by decide) dX4_addLine_100
    · try dsimp only at cut89
      refine jr_aload_n (pc := 37) hh 1 dX4_addLine_37 rfl rfl ?_
      refine jr_iload_n (pc := 38) hh 2 dX4_addLine_38 rfl rfl ?_
      refine jr_bipush (pc := 39) hh dX4_addLine_39 (by decide) ?_
      refine jr_icmp_eq (tgt := 66) (pc := 41) hh dX4_addLine_41 (by decide) ⟨by omega, by omega⟩ ⟨by omega, by omega⟩ (fun c3 => ?_) (fun c3 => ?_)
      · skip
        refine jr_iload (pc := 66) hh 0 dX4_addLine_66 rfl ?_
        refine jr_if_ne (tgt := 75) (pc := 68) hh dX4_addLine_68 (by decide) ⟨by omega, by omega⟩ (fun c4 => ?_) (fun c4 => ?_)
        · skip
          refine jr_aload_n (pc := 75) hh 1 dX4_addLine_75 rfl rfl ?_
          refine jr_get (v := .int (iI (V 2))) (pc := 76) hh in_X4_addLine_X4 0 rfl rfl 18 (by decide) (by decide +kernel : Cond.fieldLink RX4 68 (TX4 18).1 (TX4 18).2.1 (TX4 18).2.2.1 ∈ wsX4_addLine) rfl dX4_addLine_76 ?_
          refine jr_bipush (pc := 79) hh dX4_addLine_79 (by decide) ?_
          refine jr_icmp_ne (tgt := 88) (pc := 81) hh dX4_addLine_81 (by decide) ⟨by omega, by omega⟩ ⟨by omega, by omega⟩ (fun c5 => ?_) (fun c5 => ?_)
          · skip
            refine jr_iconst (pc := 88) hh dX4_addLine_88 ?_
            refine jr_loc (lv' := [(4, .int (iI y)), (0, .ref (h 0)), (1, .int (iI kd)), (2, .int (iI on)), (3, .int (iI ot))]) [0, 1, 2, 3, 4] rfl ?_
            exact cut89 (0) (by unfold cdAddLine; omega)
          · skip
            refine jr_iconst (pc := 84) hh dX4_addLine_84 ?_
            refine jr_goto (tgt := 89) (pc := 85) hh dX4_addLine_85 (by decide) ?_
            refine jr_loc (lv' := [(4, .int (iI y)), (0, .ref (h 0)), (1, .int (iI kd)), (2, .int (iI on)), (3, .int (iI ot))]) [0, 1, 2, 3, 4] rfl ?_
            exact cut89 (3) (by unfold cdAddLine; omega)
        · skip
          refine jr_iconst (pc := 71) hh dX4_addLine_71 ?_
          refine jr_goto (tgt := 89) (pc := 72) hh dX4_addLine_72 (by decide) ?_
          refine jr_loc (lv' := [(4, .int (iI y)), (0, .ref (h 0)), (1, .int (iI kd)), (2, .int (iI on)), (3, .int (iI ot))]) [0, 1, 2, 3, 4] rfl ?_
          exact cut89 (2) (by unfold cdAddLine; omega)
      · skip
        refine jr_iload_n (pc := 44) hh 2 dX4_addLine_44 rfl rfl ?_
        refine jr_bipush (pc := 45) hh dX4_addLine_45 (by decide) ?_
        refine jr_icmp_eq (tgt := 66) (pc := 47) hh dX4_addLine_47 (by decide) ⟨by omega, by omega⟩ ⟨by omega, by omega⟩ (fun c6 => ?_) (fun c6 => ?_)
        · skip
          refine jr_iload (pc := 66) hh 0 dX4_addLine_66 rfl ?_
          refine jr_if_ne (tgt := 75) (pc := 68) hh dX4_addLine_68 (by decide) ⟨by omega, by omega⟩ (fun c7 => ?_) (fun c7 => ?_)
          · skip
            refine jr_aload_n (pc := 75) hh 1 dX4_addLine_75 rfl rfl ?_
            refine jr_get (v := .int (iI (V 2))) (pc := 76) hh in_X4_addLine_X4 0 rfl rfl 18 (by decide) (by decide +kernel : Cond.fieldLink RX4 68 (TX4 18).1 (TX4 18).2.1 (TX4 18).2.2.1 ∈ wsX4_addLine) rfl dX4_addLine_76 ?_
            refine jr_bipush (pc := 79) hh dX4_addLine_79 (by decide) ?_
            refine jr_icmp_ne (tgt := 88) (pc := 81) hh dX4_addLine_81 (by decide) ⟨by omega, by omega⟩ ⟨by omega, by omega⟩ (fun c8 => ?_) (fun c8 => ?_)
            · skip
              refine jr_iconst (pc := 88) hh dX4_addLine_88 ?_
              refine jr_loc (lv' := [(4, .int (iI y)), (0, .ref (h 0)), (1, .int (iI kd)), (2, .int (iI on)), (3, .int (iI ot))]) [0, 1, 2, 3, 4] rfl ?_
              exact cut89 (0) (by unfold cdAddLine; omega)
            · skip
              refine jr_iconst (pc := 84) hh dX4_addLine_84 ?_
              refine jr_goto (tgt := 89) (pc := 85) hh dX4_addLine_85 (by decide) ?_
              refine jr_loc (lv' := [(4, .int (iI y)), (0, .ref (h 0)), (1, .int (iI kd)), (2, .int (iI on)), (3, .int (iI ot))]) [0, 1, 2, 3, 4] rfl ?_
              exact cut89 (3) (by unfold cdAddLine; omega)
          · skip
            refine jr_iconst (pc := 71) hh dX4_addLine_71 ?_
            refine jr_goto (tgt := 89) (pc := 72) hh dX4_addLine_72 (by decide) ?_
            refine jr_loc (lv' := [(4, .int (iI y)), (0, .ref (h 0)), (1, .int (iI kd)), (2, .int (iI on)), (3, .int (iI ot))]) [0, 1, 2, 3, 4] rfl ?_
            exact cut89 (2) (by unfold cdAddLine; omega)
        · skip
          refine jr_iload_n (pc := 50) hh 2 dX4_addLine_50 rfl rfl ?_
          refine jr_bipush (pc := 51) hh dX4_addLine_51 (by decide) ?_
          refine jr_icmp_eq (tgt := 66) (pc := 53) hh dX4_addLine_53 (by decide) ⟨by omega, by omega⟩ ⟨by omega, by omega⟩ (fun c9 => ?_) (fun c9 => ?_)
          · skip
            refine jr_iload (pc := 66) hh 0 dX4_addLine_66 rfl ?_
            refine jr_if_ne (tgt := 75) (pc := 68) hh dX4_addLine_68 (by decide) ⟨by omega, by omega⟩ (fun c10 => ?_) (fun c10 => ?_)
            · skip
              refine jr_aload_n (pc := 75) hh 1 dX4_addLine_75 rfl rfl ?_
              refine jr_get (v := .int (iI (V 2))) (pc := 76) hh in_X4_addLine_X4 0 rfl rfl 18 (by decide) (by decide +kernel : Cond.fieldLink RX4 68 (TX4 18).1 (TX4 18).2.1 (TX4 18).2.2.1 ∈ wsX4_addLine) rfl dX4_addLine_76 ?_
              refine jr_bipush (pc := 79) hh dX4_addLine_79 (by decide) ?_
              refine jr_icmp_ne (tgt := 88) (pc := 81) hh dX4_addLine_81 (by decide) ⟨by omega, by omega⟩ ⟨by omega, by omega⟩ (fun c11 => ?_) (fun c11 => ?_)
              · skip
                refine jr_iconst (pc := 88) hh dX4_addLine_88 ?_
                refine jr_loc (lv' := [(4, .int (iI y)), (0, .ref (h 0)), (1, .int (iI kd)), (2, .int (iI on)), (3, .int (iI ot))]) [0, 1, 2, 3, 4] rfl ?_
                exact cut89 (0) (by unfold cdAddLine; omega)
              · skip
                refine jr_iconst (pc := 84) hh dX4_addLine_84 ?_
                refine jr_goto (tgt := 89) (pc := 85) hh dX4_addLine_85 (by decide) ?_
                refine jr_loc (lv' := [(4, .int (iI y)), (0, .ref (h 0)), (1, .int (iI kd)), (2, .int (iI on)), (3, .int (iI ot))]) [0, 1, 2, 3, 4] rfl ?_
                exact cut89 (3) (by unfold cdAddLine; omega)
            · skip
              refine jr_iconst (pc := 71) hh dX4_addLine_71 ?_
              refine jr_goto (tgt := 89) (pc := 72) hh dX4_addLine_72 (by decide) ?_
              refine jr_loc (lv' := [(4, .int (iI y)), (0, .ref (h 0)), (1, .int (iI kd)), (2, .int (iI on)), (3, .int (iI ot))]) [0, 1, 2, 3, 4] rfl ?_
              exact cut89 (2) (by unfold cdAddLine; omega)
          · skip
            refine jr_iload_n (pc := 56) hh 2 dX4_addLine_56 rfl rfl ?_
            refine jr_bipush (pc := 57) hh dX4_addLine_57 (by decide) ?_
            refine jr_icmp_eq (tgt := 66) (pc := 59) hh dX4_addLine_59 (by decide) ⟨by omega, by omega⟩ ⟨by omega, by omega⟩ (fun c12 => ?_) (fun c12 => ?_)
            · skip
              refine jr_iload (pc := 66) hh 0 dX4_addLine_66 rfl ?_
              refine jr_if_ne (tgt := 75) (pc := 68) hh dX4_addLine_68 (by decide) ⟨by omega, by omega⟩ (fun c13 => ?_) (fun c13 => ?_)
              · skip
                refine jr_aload_n (pc := 75) hh 1 dX4_addLine_75 rfl rfl ?_
                refine jr_get (v := .int (iI (V 2))) (pc := 76) hh in_X4_addLine_X4 0 rfl rfl 18 (by decide) (by decide +kernel : Cond.fieldLink RX4 68 (TX4 18).1 (TX4 18).2.1 (TX4 18).2.2.1 ∈ wsX4_addLine) rfl dX4_addLine_76 ?_
                refine jr_bipush (pc := 79) hh dX4_addLine_79 (by decide) ?_
                refine jr_icmp_ne (tgt := 88) (pc := 81) hh dX4_addLine_81 (by decide) ⟨by omega, by omega⟩ ⟨by omega, by omega⟩ (fun c14 => ?_) (fun c14 => ?_)
                · skip
                  refine jr_iconst (pc := 88) hh dX4_addLine_88 ?_
                  refine jr_loc (lv' := [(4, .int (iI y)), (0, .ref (h 0)), (1, .int (iI kd)), (2, .int (iI on)), (3, .int (iI ot))]) [0, 1, 2, 3, 4] rfl ?_
                  exact cut89 (0) (by unfold cdAddLine; omega)
                · skip
                  refine jr_iconst (pc := 84) hh dX4_addLine_84 ?_
                  refine jr_goto (tgt := 89) (pc := 85) hh dX4_addLine_85 (by decide) ?_
                  refine jr_loc (lv' := [(4, .int (iI y)), (0, .ref (h 0)), (1, .int (iI kd)), (2, .int (iI on)), (3, .int (iI ot))]) [0, 1, 2, 3, 4] rfl ?_
                  exact cut89 (3) (by unfold cdAddLine; omega)
              · skip
                refine jr_iconst (pc := 71) hh dX4_addLine_71 ?_
                refine jr_goto (tgt := 89) (pc := 72) hh dX4_addLine_72 (by decide) ?_
                refine jr_loc (lv' := [(4, .int (iI y)), (0, .ref (h 0)), (1, .int (iI kd)), (2, .int (iI on)), (3, .int (iI ot))]) [0, 1, 2, 3, 4] rfl ?_
                exact cut89 (2) (by unfold cdAddLine; omega)
            · skip
              refine jr_iconst (pc := 62) hh dX4_addLine_62 ?_
              refine jr_goto (tgt := 89) (pc := 63) hh dX4_addLine_63 (by decide) ?_
              refine jr_loc (lv' := [(4, .int (iI y)), (0, .ref (h 0)), (1, .int (iI kd)), (2, .int (iI on)), (3, .int (iI ot))]) [0, 1, 2, 3, 4] rfl ?_
              exact cut89 (1) (by unfold cdAddLine; omega)
  · try dsimp only at cut35
    refine jr_iload_n (pc := 0) hh 1 dX4_addLine_0 rfl rfl ?_
    refine jr_bipush (pc := 1) hh dX4_addLine_1 (by decide) ?_
    refine jr_icmp_ne (tgt := 14) (pc := 3) hh dX4_addLine_3 (by decide) ⟨by omega, by omega⟩ ⟨by omega, by omega⟩ (fun c15 => ?_) (fun c15 => ?_)
    · skip
      refine jr_aload_n (pc := 14) hh 0 dX4_addLine_14 rfl rfl ?_
      refine jr_iload_n (pc := 15) hh 2 dX4_addLine_15 rfl rfl ?_
      refine jr_callV (pc := 16) hh [.int (iI on)] [] (c_X4_isLine l G h F V fd on ⟨by omega, by omega⟩ ⟨by omega, by omega⟩) gX4_addLine_X4_isLine rfl (by decide) (by decide) [0, 1, 2, 3, 4, 5, 6, 7, 8, 9, 10, 11, 12, 13, 14, 15, 16] [] rfl rfl rfl rfl (by decide) 0 rfl rfl 1 rfl rfl (Nat.le_of_ble_eq_true rfl) (by decide +kernel) dX4_addLine_16 (fun rvu17 wu17 hu17 => ?_)
      obtain ⟨rfl, rfl⟩ := hu17
      refine jr_perm (ws' := (wM G h F V fd)) (st := [.int (iI (inI on 0 (V 2 - 1)))]) [0, 1, 2, 3, 4, 5, 6, 7, 8, 9, 10, 11, 12, 13, 14, 15, 16] rfl rfl ?_
      have hin16 : (inI on 0 (V 2 - 1)) = if 0 ≤ on ∧ on ≤ V 2 - 1 then 1 else 0 := rfl
      refine jr_if_eq (tgt := 34) (pc := 19) hh dX4_addLine_19 (by decide) ⟨by omega, by omega⟩ (fun c18 => ?_) (fun c18 => ?_)
      · skip
        refine jr_iconst (pc := 34) hh dX4_addLine_34 ?_
        refine jr_loc (lv' := [(0, .ref (h 0)), (1, .int (iI kd)), (2, .int (iI on)), (3, .int (iI ot))]) [0, 1, 2, 3] rfl ?_
        exact cut35 (0) (by omega)
      · skip
        refine jr_aload_n (pc := 22) hh 0 dX4_addLine_22 rfl rfl ?_
        refine jr_iload_n (pc := 23) hh 3 dX4_addLine_23 rfl rfl ?_
        refine jr_callV (pc := 24) hh [.int (iI ot)] [] (c_X4_isLine l G h F V fd ot ⟨by omega, by omega⟩ ⟨by omega, by omega⟩) gX4_addLine_X4_isLine rfl (by decide) (by decide) [0, 1, 2, 3, 4, 5, 6, 7, 8, 9, 10, 11, 12, 13, 14, 15, 16] [] rfl rfl rfl rfl (by decide) 0 rfl rfl 1 rfl rfl (Nat.le_of_ble_eq_true rfl) (by decide +kernel) dX4_addLine_24 (fun rvu20 wu20 hu20 => ?_)
        obtain ⟨rfl, rfl⟩ := hu20
        refine jr_perm (ws' := (wM G h F V fd)) (st := [.int (iI (inI ot 0 (V 2 - 1)))]) [0, 1, 2, 3, 4, 5, 6, 7, 8, 9, 10, 11, 12, 13, 14, 15, 16] rfl rfl ?_
        have hin19 : (inI ot 0 (V 2 - 1)) = if 0 ≤ ot ∧ ot ≤ V 2 - 1 then 1 else 0 := rfl
        refine jr_if_eq (tgt := 34) (pc := 27) hh dX4_addLine_27 (by decide) ⟨by omega, by omega⟩ (fun c21 => ?_) (fun c21 => ?_)
        · skip
          refine jr_iconst (pc := 34) hh dX4_addLine_34 ?_
          refine jr_loc (lv' := [(0, .ref (h 0)), (1, .int (iI kd)), (2, .int (iI on)), (3, .int (iI ot))]) [0, 1, 2, 3] rfl ?_
          exact cut35 (0) (by omega)
        · skip
          refine jr_iconst (pc := 30) hh dX4_addLine_30 ?_
          refine jr_goto (tgt := 35) (pc := 31) hh dX4_addLine_31 (by decide) ?_
          refine jr_loc (lv' := [(0, .ref (h 0)), (1, .int (iI kd)), (2, .int (iI on)), (3, .int (iI ot))]) [0, 1, 2, 3] rfl ?_
          exact cut35 (1) (by omega)
    · skip
      refine jr_aload_n (pc := 6) hh 0 dX4_addLine_6 rfl rfl ?_
      refine jr_iload_n (pc := 7) hh 2 dX4_addLine_7 rfl rfl ?_
      refine jr_callV (pc := 8) hh [.int (iI on)] [] (c_X4_isDriver l G h F V fd on ⟨by omega, by omega⟩ ⟨by omega, by omega⟩) gX4_addLine_X4_isDriver rfl (by decide) (by decide) [0, 1, 2, 3, 4, 5, 6, 7, 8, 9, 10, 11, 12, 13, 14, 15, 16] [] rfl rfl rfl rfl (by decide) 0 rfl rfl 1 rfl rfl (Nat.le_of_ble_eq_true rfl) (by decide +kernel) dX4_addLine_8 (fun rvu23 wu23 hu23 => ?_)
      obtain ⟨rfl, rfl⟩ := hu23
      refine jr_perm (ws' := (wM G h F V fd)) (st := [.int (iI (inI on 0 (V 1 - 1)))]) [0, 1, 2, 3, 4, 5, 6, 7, 8, 9, 10, 11, 12, 13, 14, 15, 16] rfl rfl ?_
      have hin22 : (inI on 0 (V 1 - 1)) = if 0 ≤ on ∧ on ≤ V 1 - 1 then 1 else 0 := rfl
      refine jr_goto (tgt := 35) (pc := 11) hh dX4_addLine_11 (by decide) ?_
      refine jr_loc (lv' := [(0, .ref (h 0)), (1, .int (iI kd)), (2, .int (iI on)), (3, .int (iI ot))]) [0, 1, 2, 3] rfl ?_
      exact cut35 ((inI on 0 (V 1 - 1))) (by omega)
set_option maxRecDepth 20000 in
theorem in_X4_addScenario_X4 : ∀ w ∈ u_ws RX4 TX4 22, w ∈ wsX4_addScenario := by decide +kernel
set_option maxHeartbeats 4000000 in
set_option maxRecDepth 100000 in
theorem c_X4_addScenario (l : Launch) (G : jG) (h : Nat → Nat) (F : Nat → Nat → Int) (V : Nat → Int) (fd : Nat → Int) (pr : Int) (hrpr : jR pr) (hk : okM F V) : jMet l yX4_addScenario wsX4_addScenario { frames := 3, cells := 0, slots := 0, locals := 120 } G (wM G h F V fd) [.ref (h 0), .int (iI pr)] (fun rv w1 => ∃ (v : Int) (F' : Nat → Nat → Int) (V' fd' : Nat → Int), rv = some (.int (iI v)) ∧ w1 = wM G h F' V' fd' ∧ (cdAddScenario (V 3) pr ≠ 0 → mSc F F' ∧ V' = jU V 0 (cdAddScenario (V 3) pr)) ∧ (cdAddScenario (V 3) pr = 0 → v = V 3 ∧ mSc (uF F 4 (jU (F 4) (V 3).toNat pr)) F' ∧ V' = (jU (jU V 0 0) 3 (V 3 + 1)))) := by
  refine jMet_of (cc := cX4_addScenario) (maxL := 2) (ret := (some .int)) (by decide +kernel) rfl (Nat.le_of_ble_eq_true rfl) ?_
  intro p e s m args below meth c A hh hret hinit
  refine jr_loc (lv' := [(0, .ref (h 0)), (1, .int (iI pr))]) [0, 1] rfl ?_
  obtain ⟨hV1, hV2, hV3, hV4, hV5, -⟩ := id hk
  have hrpr1 := hrpr.1
  have hrpr2 := hrpr.2
  refine jr_cut (σ := Int) 26 (fun (cd : Int) => cd = cdAddScenario (V 3) pr) (fun (cd : Int) => (wM G h F V fd)) (fun (cd : Int) => [(0, .ref (h 0)), (1, .int (iI pr))]) (fun (cd : Int) => [.int (iI cd), .ref (h 0)]) ?_ (fun cut26 => ?_)
  · rintro cd hcut26
    try dsimp only
    try dsimp only at hcut26
    have hcd2 := hcut26
    unfold cdAddScenario at hcd2
    refine jr_put (ws' := (wM G h F (jU V 0 cd) fd)) (pc := 26) hh in_X4_addScenario_X4 tyX4_ok nmX4 0 rfl rfl 16 (by decide) (by decide +kernel : Cond.fieldLink RX4 61 (TX4 16).1 (TX4 16).2.1 (TX4 16).2.2.1 ∈ wsX4_addScenario) rfl rfl (Nat.le_of_ble_eq_true rfl) rfl dX4_addScenario_26 ?_
    refine jr_aload_n (pc := 29) hh 0 dX4_addScenario_29 rfl rfl ?_
    refine jr_get (v := .int (iI cd)) (pc := 30) hh in_X4_addScenario_X4 0 rfl rfl 16 (by decide) (by decide +kernel : Cond.fieldLink RX4 61 (TX4 16).1 (TX4 16).2.1 (TX4 16).2.2.1 ∈ wsX4_addScenario) rfl dX4_addScenario_30 ?_
    refine jr_if_le (tgt := 38) (pc := 33) hh dX4_addScenario_33 (by decide) ⟨by omega, by omega⟩ (fun c1 => ?_) (fun c1 => ?_)
    · skip
      refine jr_aload_n (pc := 38) hh 0 dX4_addScenario_38 rfl rfl ?_
      refine jr_get (v := .ref (h 5)) (pc := 39) hh in_X4_addScenario_X4 0 rfl rfl 4 (by decide) (by decide +kernel : Cond.fieldLink RX4 22 (TX4 4).1 (TX4 4).2.1 (TX4 4).2.2.1 ∈ wsX4_addScenario) rfl dX4_addScenario_39 ?_
      refine jr_aload_n (pc := 42) hh 0 dX4_addScenario_42 rfl rfl ?_
      refine jr_get (v := .int (iI (V 3))) (pc := 43) hh in_X4_addScenario_X4 0 rfl rfl 19 (by decide) (by decide +kernel : Cond.fieldLink RX4 71 (TX4 19).1 (TX4 19).2.1 (TX4 19).2.2.1 ∈ wsX4_addScenario) rfl dX4_addScenario_43 ?_
      refine jr_iload_n (pc := 46) hh 1 dX4_addScenario_46 rfl rfl ?_
      refine jr_iast (F := (F 4)) (ws' := (wM G h (uF F 4 (jU (F 4) ((V 3).toNat) pr)) (jU V 0 cd) fd)) (pc := 47) hh 5 rfl ((V 3).toNat) (by omega) (by omega) (by decide) rfl dX4_addScenario_47 ?_
      refine jr_aload_n (pc := 48) hh 0 dX4_addScenario_48 rfl rfl ?_
      refine jr_dup (pc := 49) hh dX4_addScenario_49 rfl ?_
      refine jr_get (v := .int (iI (V 3))) (pc := 50) hh in_X4_addScenario_X4 0 rfl rfl 19 (by decide) (by decide +kernel : Cond.fieldLink RX4 71 (TX4 19).1 (TX4 19).2.1 (TX4 19).2.2.1 ∈ wsX4_addScenario) rfl dX4_addScenario_50 ?_
      refine jr_iconst (pc := 53) hh dX4_addScenario_53 ?_
      refine jr_iadd (pc := 54) hh dX4_addScenario_54 ?_
      refine jr_put (ws' := (wM G h (uF F 4 (jU (F 4) ((V 3).toNat) pr)) (jU (jU V 0 cd) 3 ((V 3) + 1)) fd)) (pc := 55) hh in_X4_addScenario_X4 tyX4_ok nmX4 0 rfl rfl 19 (by decide) (by decide +kernel : Cond.fieldLink RX4 71 (TX4 19).1 (TX4 19).2.1 (TX4 19).2.2.1 ∈ wsX4_addScenario) rfl rfl (Nat.le_of_ble_eq_true rfl) rfl dX4_addScenario_55 ?_
      refine jr_aload_n (pc := 58) hh 0 dX4_addScenario_58 rfl rfl ?_
      refine jr_get (v := .int (iI ((V 3) + 1))) (pc := 59) hh in_X4_addScenario_X4 0 rfl rfl 19 (by decide) (by decide +kernel : Cond.fieldLink RX4 71 (TX4 19).1 (TX4 19).2.1 (TX4 19).2.2.1 ∈ wsX4_addScenario) rfl dX4_addScenario_59 ?_
      refine jr_iconst (pc := 62) hh dX4_addScenario_62 ?_
      refine jr_isub (pc := 63) hh dX4_addScenario_63 ?_
      exact jr_iret (pc := 64) hh hret rfl ⟨(V 3), _, _, _, (jsi (by omega)), rfl, fun q => absurd q (by omega), fun _ => ⟨rfl, mSc_rf _, by rw [show cd = 0 by omega]⟩⟩ (by decide) (by decide) dX4_addScenario_64
    · skip
      refine jr_iconst (pc := 36) hh dX4_addScenario_36 ?_
      exact jr_iret (pc := 37) hh hret rfl ⟨0, _, _, _, rfl, rfl, fun _ => ⟨(mSc_rf _), by rw [hcut26]⟩, fun q => absurd q (by omega)⟩ (by decide) (by decide) dX4_addScenario_37
  · try dsimp only at cut26
    refine jr_aload_n (pc := 0) hh 0 dX4_addScenario_0 rfl rfl ?_
    refine jr_aload_n (pc := 1) hh 0 dX4_addScenario_1 rfl rfl ?_
    refine jr_iload_n (pc := 2) hh 1 dX4_addScenario_2 rfl rfl ?_
    refine jr_callV (pc := 3) hh [.int (iI pr)] [.ref (h 0)] (c_X4_isScenario l G h F V fd pr ⟨by omega, by omega⟩ ⟨by omega, by omega⟩) gX4_addScenario_X4_isScenario rfl (by decide) (by decide) [0, 1, 2, 3, 4, 5, 6, 7, 8, 9, 10, 11, 12, 13, 14, 15, 16] [] rfl rfl rfl rfl (by decide) 0 rfl rfl 1 rfl rfl (Nat.le_of_ble_eq_true rfl) (by decide +kernel) dX4_addScenario_3 (fun rvu3 wu3 hu3 => ?_)
    obtain ⟨rfl, rfl⟩ := hu3
    refine jr_perm (ws' := (wM G h F V fd)) (st := [.int (iI (inI pr 0 (V 3 - 1))), .ref (h 0)]) [0, 1, 2, 3, 4, 5, 6, 7, 8, 9, 10, 11, 12, 13, 14, 15, 16] rfl rfl ?_
    have hin2 : (inI pr 0 (V 3 - 1)) = if 0 ≤ pr ∧ pr ≤ V 3 - 1 then 1 else 0 := rfl
    refine jr_if_ne (tgt := 13) (pc := 6) hh dX4_addScenario_6 (by decide) ⟨by omega, by omega⟩ (fun c4 => ?_) (fun c4 => ?_)
    · skip
      refine jr_aload_n (pc := 13) hh 0 dX4_addScenario_13 rfl rfl ?_
      refine jr_get (v := .int (iI (V 3))) (pc := 14) hh in_X4_addScenario_X4 0 rfl rfl 19 (by decide) (by decide +kernel : Cond.fieldLink RX4 71 (TX4 19).1 (TX4 19).2.1 (TX4 19).2.2.1 ∈ wsX4_addScenario) rfl dX4_addScenario_14 ?_
      refine jr_iconst (pc := 17) hh dX4_addScenario_17 ?_
      refine jr_icmp_ne (tgt := 25) (pc := 18) hh dX4_addScenario_18 (by decide) ⟨by omega, by omega⟩ ⟨by omega, by omega⟩ (fun c5 => ?_) (fun c5 => ?_)
      · skip
        refine jr_iconst (pc := 25) hh dX4_addScenario_25 ?_
        refine jr_loc (lv' := [(0, .ref (h 0)), (1, .int (iI pr))]) [0, 1] rfl ?_
        exact cut26 (0) (by unfold cdAddScenario; omega)
      · skip
        refine jr_iconst (pc := 21) hh dX4_addScenario_21 ?_
        refine jr_goto (tgt := 26) (pc := 22) hh dX4_addScenario_22 (by decide) ?_
        refine jr_loc (lv' := [(0, .ref (h 0)), (1, .int (iI pr))]) [0, 1] rfl ?_
        exact cut26 (2) (by unfold cdAddScenario; omega)
    · skip
      refine jr_iconst (pc := 9) hh dX4_addScenario_9 ?_
      refine jr_goto (tgt := 26) (pc := 10) hh dX4_addScenario_10 (by decide) ?_
      refine jr_loc (lv' := [(0, .ref (h 0)), (1, .int (iI pr))]) [0, 1] rfl ?_
      exact cut26 (1) (by unfold cdAddScenario; omega)
set_option maxRecDepth 20000 in
theorem in_X4_differ_X4 : ∀ w ∈ u_ws RX4 TX4 22, w ∈ wsX4_differ := by decide +kernel
set_option maxHeartbeats 4000000 in
set_option maxRecDepth 100000 in
theorem c_X4_differ (l : Launch) (G : jG) (h : Nat → Nat) (F : Nat → Nat → Int) (V : Nat → Int) (fd : Nat → Int) (sc d t x : Int) (hrsc : jR sc) (hrd : jR d) (hrt : jR t) (hrx : jR x) (hk : okM F V) : jMet l yX4_differ wsX4_differ { frames := 3, cells := 0, slots := 0, locals := 120 } G (wM G h F V fd) [.ref (h 0), .int (iI sc), .int (iI d), .int (iI t), .int (iI x)] (fun rv w1 => ∃ (v : Int) (F' : Nat → Nat → Int) (V' fd' : Nat → Int), rv = some (.int (iI v)) ∧ w1 = wM G h F' V' fd' ∧ (cdDiffer (V 3) (V 1) (V 4) sc d t x ≠ 0 → mSc F F' ∧ V' = jU V 0 (cdDiffer (V 3) (V 1) (V 4) sc d t x)) ∧ (cdDiffer (V 3) (V 1) (V 4) sc d t x = 0 → v = cntTo (jU (F 5) (V 4).toNat sc) sc ((V 4).toNat + 1) ∧ mSc (uF (uF (uF (uF F 5 (jU (F 5) (V 4).toNat sc)) 6 (jU (F 6) (V 4).toNat d)) 7 (jU (F 7) (V 4).toNat t)) 8 (jU (F 8) (V 4).toNat x)) F' ∧ V' = (jU (jU V 0 0) 4 (V 4 + 1)))) := by
  refine jMet_of (cc := cX4_differ) (maxL := 7) (ret := (some .int)) (by decide +kernel) rfl (Nat.le_of_ble_eq_true rfl) ?_
  intro p e s m args below meth c A hh hret hinit
  refine jr_loc (lv' := [(0, .ref (h 0)), (1, .int (iI sc)), (2, .int (iI d)), (3, .int (iI t)), (4, .int (iI x))]) [0, 1, 2, 3, 4] rfl ?_
  obtain ⟨hV1, hV2, hV3, hV4, hV5, -⟩ := id hk
  have hrsc1 := hrsc.1
  have hrd1 := hrd.1
  have hrt1 := hrt.1
  have hrx1 := hrx.1
  have hrsc2 := hrsc.2
  have hrd2 := hrd.2
  have hrt2 := hrt.2
  have hrx2 := hrx.2
  refine jr_cut (σ := Int) 68 (fun (cd : Int) => cd = cdDiffer (V 3) (V 1) (V 4) sc d t x) (fun (cd : Int) => (wM G h F V fd)) (fun (cd : Int) => [(0, .ref (h 0)), (1, .int (iI sc)), (2, .int (iI d)), (3, .int (iI t)), (4, .int (iI x))]) (fun (cd : Int) => [.int (iI cd), .ref (h 0)]) ?_ (fun cut68 => ?_)
  · rintro cd hcut68
    try dsimp only
    try dsimp only at hcut68
    have hcd2 := hcut68
    unfold cdDiffer at hcd2
    refine jr_put (ws' := (wM G h F (jU V 0 cd) fd)) (pc := 68) hh in_X4_differ_X4 tyX4_ok nmX4 0 rfl rfl 16 (by decide) (by decide +kernel : Cond.fieldLink RX4 61 (TX4 16).1 (TX4 16).2.1 (TX4 16).2.2.1 ∈ wsX4_differ) rfl rfl (Nat.le_of_ble_eq_true rfl) rfl dX4_differ_68 ?_
    refine jr_aload_n (pc := 71) hh 0 dX4_differ_71 rfl rfl ?_
    refine jr_get (v := .int (iI cd)) (pc := 72) hh in_X4_differ_X4 0 rfl rfl 16 (by decide) (by decide +kernel : Cond.fieldLink RX4 61 (TX4 16).1 (TX4 16).2.1 (TX4 16).2.2.1 ∈ wsX4_differ) rfl dX4_differ_72 ?_
    refine jr_if_le (tgt := 80) (pc := 75) hh dX4_differ_75 (by decide) ⟨by omega, by omega⟩ (fun c1 => ?_) (fun c1 => ?_)
    · skip
      refine jr_aload_n (pc := 80) hh 0 dX4_differ_80 rfl rfl ?_
      refine jr_get (v := .ref (h 6)) (pc := 81) hh in_X4_differ_X4 0 rfl rfl 5 (by decide) (by decide +kernel : Cond.fieldLink RX4 25 (TX4 5).1 (TX4 5).2.1 (TX4 5).2.2.1 ∈ wsX4_differ) rfl dX4_differ_81 ?_
      refine jr_aload_n (pc := 84) hh 0 dX4_differ_84 rfl rfl ?_
      refine jr_get (v := .int (iI (V 4))) (pc := 85) hh in_X4_differ_X4 0 rfl rfl 20 (by decide) (by decide +kernel : Cond.fieldLink RX4 74 (TX4 20).1 (TX4 20).2.1 (TX4 20).2.2.1 ∈ wsX4_differ) rfl dX4_differ_85 ?_
      refine jr_iload_n (pc := 88) hh 1 dX4_differ_88 rfl rfl ?_
      refine jr_iast (F := (F 5)) (ws' := (wM G h (uF F 5 (jU (F 5) ((V 4).toNat) sc)) (jU V 0 cd) fd)) (pc := 89) hh 6 rfl ((V 4).toNat) (by omega) (by omega) (by decide) rfl dX4_differ_89 ?_
      refine jr_aload_n (pc := 90) hh 0 dX4_differ_90 rfl rfl ?_
      refine jr_get (v := .ref (h 7)) (pc := 91) hh in_X4_differ_X4 0 rfl rfl 6 (by decide) (by decide +kernel : Cond.fieldLink RX4 28 (TX4 6).1 (TX4 6).2.1 (TX4 6).2.2.1 ∈ wsX4_differ) rfl dX4_differ_91 ?_
      refine jr_aload_n (pc := 94) hh 0 dX4_differ_94 rfl rfl ?_
      refine jr_get (v := .int (iI (V 4))) (pc := 95) hh in_X4_differ_X4 0 rfl rfl 20 (by decide) (by decide +kernel : Cond.fieldLink RX4 74 (TX4 20).1 (TX4 20).2.1 (TX4 20).2.2.1 ∈ wsX4_differ) rfl dX4_differ_95 ?_
      refine jr_iload_n (pc := 98) hh 2 dX4_differ_98 rfl rfl ?_
      refine jr_iast (F := (F 6)) (ws' := (wM G h (uF (uF F 5 (jU (F 5) ((V 4).toNat) sc)) 6 (jU (F 6) ((V 4).toNat) d)) (jU V 0 cd) fd)) (pc := 99) hh 7 rfl ((V 4).toNat) (by omega) (by omega) (by decide) rfl dX4_differ_99 ?_
      refine jr_aload_n (pc := 100) hh 0 dX4_differ_100 rfl rfl ?_
      refine jr_get (v := .ref (h 8)) (pc := 101) hh in_X4_differ_X4 0 rfl rfl 7 (by decide) (by decide +kernel : Cond.fieldLink RX4 31 (TX4 7).1 (TX4 7).2.1 (TX4 7).2.2.1 ∈ wsX4_differ) rfl dX4_differ_101 ?_
      refine jr_aload_n (pc := 104) hh 0 dX4_differ_104 rfl rfl ?_
      refine jr_get (v := .int (iI (V 4))) (pc := 105) hh in_X4_differ_X4 0 rfl rfl 20 (by decide) (by decide +kernel : Cond.fieldLink RX4 74 (TX4 20).1 (TX4 20).2.1 (TX4 20).2.2.1 ∈ wsX4_differ) rfl dX4_differ_105 ?_
      refine jr_iload_n (pc := 108) hh 3 dX4_differ_108 rfl rfl ?_
      refine jr_iast (F := (F 7)) (ws' := (wM G h (uF (uF (uF F 5 (jU (F 5) ((V 4).toNat) sc)) 6 (jU (F 6) ((V 4).toNat) d)) 7 (jU (F 7) ((V 4).toNat) t)) (jU V 0 cd) fd)) (pc := 109) hh 8 rfl ((V 4).toNat) (by omega) (by omega) (by decide) rfl dX4_differ_109 ?_
      refine jr_aload_n (pc := 110) hh 0 dX4_differ_110 rfl rfl ?_
      refine jr_get (v := .ref (h 9)) (pc := 111) hh in_X4_differ_X4 0 rfl rfl 8 (by decide) (by decide +kernel : Cond.fieldLink RX4 34 (TX4 8).1 (TX4 8).2.1 (TX4 8).2.2.1 ∈ wsX4_differ) rfl dX4_differ_111 ?_
      refine jr_aload_n (pc := 114) hh 0 dX4_differ_114 rfl rfl ?_
      refine jr_get (v := .int (iI (V 4))) (pc := 115) hh in_X4_differ_X4 0 rfl rfl 20 (by decide) (by decide +kernel : Cond.fieldLink RX4 74 (TX4 20).1 (TX4 20).2.1 (TX4 20).2.2.1 ∈ wsX4_differ) rfl dX4_differ_115 ?_
      refine jr_iload (pc := 118) hh 4 dX4_differ_118 rfl ?_
      refine jr_iast (F := (F 8)) (ws' := (wM G h (uF (uF (uF (uF F 5 (jU (F 5) ((V 4).toNat) sc)) 6 (jU (F 6) ((V 4).toNat) d)) 7 (jU (F 7) ((V 4).toNat) t)) 8 (jU (F 8) ((V 4).toNat) x)) (jU V 0 cd) fd)) (pc := 120) hh 9 rfl ((V 4).toNat) (by omega) (by omega) (by decide) rfl dX4_differ_120 ?_
      refine jr_aload_n (pc := 121) hh 0 dX4_differ_121 rfl rfl ?_
      refine jr_dup (pc := 122) hh dX4_differ_122 rfl ?_
      refine jr_get (v := .int (iI (V 4))) (pc := 123) hh in_X4_differ_X4 0 rfl rfl 20 (by decide) (by decide +kernel : Cond.fieldLink RX4 74 (TX4 20).1 (TX4 20).2.1 (TX4 20).2.2.1 ∈ wsX4_differ) rfl dX4_differ_123 ?_
      refine jr_iconst (pc := 126) hh dX4_differ_126 ?_
      refine jr_iadd (pc := 127) hh dX4_differ_127 ?_
      refine jr_put (ws' := (wM G h (uF (uF (uF (uF F 5 (jU (F 5) ((V 4).toNat) sc)) 6 (jU (F 6) ((V 4).toNat) d)) 7 (jU (F 7) ((V 4).toNat) t)) 8 (jU (F 8) ((V 4).toNat) x)) (jU (jU V 0 cd) 4 ((V 4) + 1)) fd)) (pc := 128) hh in_X4_differ_X4 tyX4_ok nmX4 0 rfl rfl 20 (by decide) (by decide +kernel : Cond.fieldLink RX4 74 (TX4 20).1 (TX4 20).2.1 (TX4 20).2.2.1 ∈ wsX4_differ) rfl rfl (Nat.le_of_ble_eq_true rfl) rfl dX4_differ_128 ?_
      refine jr_iconst (pc := 131) hh dX4_differ_131 ?_
      refine jr_istore (lv' := [(5, .int (iI 0)), (0, .ref (h 0)), (1, .int (iI sc)), (2, .int (iI d)), (3, .int (iI t)), (4, .int (iI x))]) (pc := 132) hh dX4_differ_132 (by decide) rfl ?_
      refine jr_iconst (pc := 134) hh dX4_differ_134 ?_
      refine jr_istore (lv' := [(6, .int (iI 0)), (5, .int (iI 0)), (0, .ref (h 0)), (1, .int (iI sc)), (2, .int (iI d)), (3, .int (iI t)), (4, .int (iI x))]) (pc := 135) hh dX4_differ_135 (by decide) rfl ?_
      refine jr_loc (lv' := [(0, .ref (h 0)), (1, .int (iI sc)), (2, .int (iI d)), (3, .int (iI t)), (4, .int (iI x)), (5, .int (iI 0)), (6, .int (iI 0))]) [2, 3, 4, 5, 6, 1, 0] rfl ?_
      refine jr_lvset (a := 0) (b := (cntTo (jU (F 5) ((V 4).toNat) sc) sc 0)) (lv' := [(0, .ref (h 0)), (1, .int (iI sc)), (2, .int (iI d)), (3, .int (iI t)), (4, .int (iI x)), (5, .int (iI (cntTo (jU (F 5) ((V 4).toNat) sc) sc 0))), (6, .int (iI 0))]) 5 rfl (by first | rfl | (rw [cntTo_s, if_pos (by assumption)]) | (rw [cntTo_s, if_neg (by assumption)])) rfl ?_
      refine jr_lvset (a := 0) (b := (0 : Int)) (lv' := [(0, .ref (h 0)), (1, .int (iI sc)), (2, .int (iI d)), (3, .int (iI t)), (4, .int (iI x)), (5, .int (iI (cntTo (jU (F 5) ((V 4).toNat) sc) sc 0))), (6, .int (iI (0 : Int)))]) 6 rfl (by first | rfl | omega) rfl ?_
      refine jr_loop (σ := Nat) (fun (k : Nat) => ((k : Int) ≤ V 4 + 1)) (fun (k : Nat) => (V 4 + 1).toNat - k) (fun (k : Nat) => (wM G h (uF (uF (uF (uF F 5 (jU (F 5) ((V 4).toNat) sc)) 6 (jU (F 6) ((V 4).toNat) d)) 7 (jU (F 7) ((V 4).toNat) t)) 8 (jU (F 8) ((V 4).toNat) x)) (jU (jU V 0 cd) 4 ((V 4) + 1)) fd)) (fun (k : Nat) => [(0, .ref (h 0)), (1, .int (iI sc)), (2, .int (iI d)), (3, .int (iI t)), (4, .int (iI x)), (5, .int (iI (cntTo (jU (F 5) ((V 4).toNat) sc) sc k))), (6, .int (iI (k : Int)))]) (fun (k : Nat) => []) ?_ (0) (by (try dsimp only); omega)
      rintro k hkk ih2
      try dsimp only at ih2 ⊢
      try dsimp only at hkk
      have hcb := cntTo_bound (jU (F 5) ((V 4).toNat) sc) sc k
      refine jr_iload (pc := 137) hh 6 dX4_differ_137 rfl ?_
      refine jr_aload_n (pc := 139) hh 0 dX4_differ_139 rfl rfl ?_
      refine jr_get (v := .int (iI ((V 4) + 1))) (pc := 140) hh in_X4_differ_X4 0 rfl rfl 20 (by decide) (by decide +kernel : Cond.fieldLink RX4 74 (TX4 20).1 (TX4 20).2.1 (TX4 20).2.2.1 ∈ wsX4_differ) rfl dX4_differ_140 ?_
      refine jr_icmp_ge (tgt := 173) (pc := 143) hh dX4_differ_143 (by decide) ⟨by omega, by omega⟩ ⟨by omega, by omega⟩ (fun c3 => ?_) (fun c3 => ?_)
      · skip
        refine jr_iload (pc := 173) hh 5 dX4_differ_173 rfl ?_
        exact jr_iret (pc := 175) hh hret rfl ⟨_, _, _, _, rfl, rfl, fun q => absurd q (by omega), fun _ => ⟨by rw [show k = (V 4).toNat + 1 by omega], mSc_rf _, by rw [show cd = 0 by omega]⟩⟩ (by decide) (by decide) dX4_differ_175
      · skip
        refine jr_iload (pc := 146) hh 5 dX4_differ_146 rfl ?_
        refine jr_aload_n (pc := 148) hh 0 dX4_differ_148 rfl rfl ?_
        refine jr_get (v := .ref (h 6)) (pc := 149) hh in_X4_differ_X4 0 rfl rfl 5 (by decide) (by decide +kernel : Cond.fieldLink RX4 25 (TX4 5).1 (TX4 5).2.1 (TX4 5).2.2.1 ∈ wsX4_differ) rfl dX4_differ_149 ?_
        refine jr_iload (pc := 152) hh 6 dX4_differ_152 rfl ?_
        refine jr_iald (F := (jU (F 5) ((V 4).toNat) sc)) (pc := 154) hh 6 rfl k (by omega) (by omega) (by decide) dX4_differ_154 ?_
        refine jr_iload_n (pc := 155) hh 1 dX4_differ_155 rfl rfl ?_
        have h5b : -2147483648 ≤ jU (F 5) (V 4).toNat sc k ∧ jU (F 5) (V 4).toNat sc k ≤ 2147483647 := by
          by_cases hq9 : k = (V 4).toNat
          · subst hq9; rw [jU_s]; omega
          · rw [jU_n hq9]; have := (hk.2.2.2.2.2.2.2.2.1 k (by omega)).1; omega
        refine jr_icmp_ne (tgt := 163) (pc := 156) hh dX4_differ_156 (by decide) ⟨by omega, by omega⟩ ⟨by omega, by omega⟩ (fun c4 => ?_) (fun c4 => ?_)
        · skip
          refine jr_iconst (pc := 163) hh dX4_differ_163 ?_
          refine jr_iadd (pc := 164) hh dX4_differ_164 ?_
          refine jr_istore (lv' := [(5, .int (iI ((cntTo (jU (F 5) ((V 4).toNat) sc) sc k) + 0))), (0, .ref (h 0)), (1, .int (iI sc)), (2, .int (iI d)), (3, .int (iI t)), (4, .int (iI x)), (6, .int (iI (k : Int)))]) (pc := 165) hh dX4_differ_165 (by decide) rfl ?_
          refine jr_iinc (a := (k : Int)) (b := (((k + 1) : Nat) : Int)) (lv' := [(6, .int (iI (((k + 1) : Nat) : Int))), (5, .int (iI ((cntTo (jU (F 5) ((V 4).toNat) sc) sc k) + 0))), (0, .ref (h 0)), (1, .int (iI sc)), (2, .int (iI d)), (3, .int (iI t)), (4, .int (iI x))]) (pc := 167) hh 6 dX4_differ_167 rfl (by omega) (by decide) rfl ?_
          refine jr_goto (tgt := 137) (pc := 170) hh dX4_differ_170 (by decide) ?_
          refine jr_loc (lv' := [(0, .ref (h 0)), (1, .int (iI sc)), (2, .int (iI d)), (3, .int (iI t)), (4, .int (iI x)), (5, .int (iI ((cntTo (jU (F 5) ((V 4).toNat) sc) sc k) + 0))), (6, .int (iI (((k + 1) : Nat) : Int)))]) [2, 3, 4, 5, 6, 1, 0] rfl ?_
          refine jr_lvset (a := ((cntTo (jU (F 5) ((V 4).toNat) sc) sc k) + 0)) (b := (cntTo (jU (F 5) ((V 4).toNat) sc) sc (k + 1))) (lv' := [(0, .ref (h 0)), (1, .int (iI sc)), (2, .int (iI d)), (3, .int (iI t)), (4, .int (iI x)), (5, .int (iI (cntTo (jU (F 5) ((V 4).toNat) sc) sc (k + 1)))), (6, .int (iI (((k + 1) : Nat) : Int)))]) 5 rfl (by first | rfl | (rw [cntTo_s, if_pos (by assumption)]) | (rw [cntTo_s, if_neg (by assumption)])) rfl ?_
          exact ih2 ((k + 1)) (by (try dsimp only); omega) (by (try dsimp only); omega)
        · skip
          refine jr_iconst (pc := 159) hh dX4_differ_159 ?_
          refine jr_goto (tgt := 164) (pc := 160) hh dX4_differ_160 (by decide) ?_
          refine jr_iadd (pc := 164) hh dX4_differ_164 ?_
          refine jr_istore (lv' := [(5, .int (iI ((cntTo (jU (F 5) ((V 4).toNat) sc) sc k) + 1))), (0, .ref (h 0)), (1, .int (iI sc)), (2, .int (iI d)), (3, .int (iI t)), (4, .int (iI x)), (6, .int (iI (k : Int)))]) (pc := 165) hh dX4_differ_165 (by decide) rfl ?_
          refine jr_iinc (a := (k : Int)) (b := (((k + 1) : Nat) : Int)) (lv' := [(6, .int (iI (((k + 1) : Nat) : Int))), (5, .int (iI ((cntTo (jU (F 5) ((V 4).toNat) sc) sc k) + 1))), (0, .ref (h 0)), (1, .int (iI sc)), (2, .int (iI d)), (3, .int (iI t)), (4, .int (iI x))]) (pc := 167) hh 6 dX4_differ_167 rfl (by omega) (by decide) rfl ?_
          refine jr_goto (tgt := 137) (pc := 170) hh dX4_differ_170 (by decide) ?_
          refine jr_loc (lv' := [(0, .ref (h 0)), (1, .int (iI sc)), (2, .int (iI d)), (3, .int (iI t)), (4, .int (iI x)), (5, .int (iI ((cntTo (jU (F 5) ((V 4).toNat) sc) sc k) + 1))), (6, .int (iI (((k + 1) : Nat) : Int)))]) [2, 3, 4, 5, 6, 1, 0] rfl ?_
          refine jr_lvset (a := ((cntTo (jU (F 5) ((V 4).toNat) sc) sc k) + 1)) (b := (cntTo (jU (F 5) ((V 4).toNat) sc) sc (k + 1))) (lv' := [(0, .ref (h 0)), (1, .int (iI sc)), (2, .int (iI d)), (3, .int (iI t)), (4, .int (iI x)), (5, .int (iI (cntTo (jU (F 5) ((V 4).toNat) sc) sc (k + 1)))), (6, .int (iI (((k + 1) : Nat) : Int)))]) 5 rfl (by first | rfl | (rw [cntTo_s, if_pos (by assumption)]) | (rw [cntTo_s, if_neg (by assumption)])) rfl ?_
          exact ih2 ((k + 1)) (by (try dsimp only); omega) (by (try dsimp only); omega)
    · skip
      refine jr_iconst (pc := 78) hh dX4_differ_78 ?_
      exact jr_iret (pc := 79) hh hret rfl ⟨0, _, _, _, rfl, rfl, fun _ => ⟨(mSc_rf _), by rw [hcut68]⟩, fun q => absurd q (by omega)⟩ (by decide) (by decide) dX4_differ_79
  · try dsimp only at cut68
    refine jr_aload_n (pc := 0) hh 0 dX4_differ_0 rfl rfl ?_
    refine jr_aload_n (pc := 1) hh 0 dX4_differ_1 rfl rfl ?_
    refine jr_iload_n (pc := 2) hh 1 dX4_differ_2 rfl rfl ?_
    refine jr_callV (pc := 3) hh [.int (iI sc)] [.ref (h 0)] (c_X4_isScenario l G h F V fd sc ⟨by omega, by omega⟩ ⟨by omega, by omega⟩) gX4_differ_X4_isScenario rfl (by decide) (by decide) [0, 1, 2, 3, 4, 5, 6, 7, 8, 9, 10, 11, 12, 13, 14, 15, 16] [] rfl rfl rfl rfl (by decide) 0 rfl rfl 1 rfl rfl (Nat.le_of_ble_eq_true rfl) (by decide +kernel) dX4_differ_3 (fun rvu6 wu6 hu6 => ?_)
    obtain ⟨rfl, rfl⟩ := hu6
    refine jr_perm (ws' := (wM G h F V fd)) (st := [.int (iI (inI sc 0 (V 3 - 1))), .ref (h 0)]) [0, 1, 2, 3, 4, 5, 6, 7, 8, 9, 10, 11, 12, 13, 14, 15, 16] rfl rfl ?_
    have hin5 : (inI sc 0 (V 3 - 1)) = if 0 ≤ sc ∧ sc ≤ V 3 - 1 then 1 else 0 := rfl
    refine jr_if_eq (tgt := 24) (pc := 6) hh dX4_differ_6 (by decide) ⟨by omega, by omega⟩ (fun c7 => ?_) (fun c7 => ?_)
    · skip
      refine jr_iconst (pc := 24) hh dX4_differ_24 ?_
      refine jr_goto (tgt := 68) (pc := 25) hh dX4_differ_25 (by decide) ?_
      refine jr_loc (lv' := [(0, .ref (h 0)), (1, .int (iI sc)), (2, .int (iI d)), (3, .int (iI t)), (4, .int (iI x))]) [0, 1, 2, 3, 4] rfl ?_
      exact cut68 (1) (by unfold cdDiffer; omega)
    · skip
      refine jr_aload_n (pc := 9) hh 0 dX4_differ_9 rfl rfl ?_
      refine jr_iload_n (pc := 10) hh 2 dX4_differ_10 rfl rfl ?_
      refine jr_callV (pc := 11) hh [.int (iI d)] [.ref (h 0)] (c_X4_isDriver l G h F V fd d ⟨by omega, by omega⟩ ⟨by omega, by omega⟩) gX4_differ_X4_isDriver rfl (by decide) (by decide) [0, 1, 2, 3, 4, 5, 6, 7, 8, 9, 10, 11, 12, 13, 14, 15, 16] [] rfl rfl rfl rfl (by decide) 0 rfl rfl 1 rfl rfl (Nat.le_of_ble_eq_true rfl) (by decide +kernel) dX4_differ_11 (fun rvu9 wu9 hu9 => ?_)
      obtain ⟨rfl, rfl⟩ := hu9
      refine jr_perm (ws' := (wM G h F V fd)) (st := [.int (iI (inI d 0 (V 1 - 1))), .ref (h 0)]) [0, 1, 2, 3, 4, 5, 6, 7, 8, 9, 10, 11, 12, 13, 14, 15, 16] rfl rfl ?_
      have hin8 : (inI d 0 (V 1 - 1)) = if 0 ≤ d ∧ d ≤ V 1 - 1 then 1 else 0 := rfl
      refine jr_if_eq (tgt := 24) (pc := 14) hh dX4_differ_14 (by decide) ⟨by omega, by omega⟩ (fun c10 => ?_) (fun c10 => ?_)
      · skip
        refine jr_iconst (pc := 24) hh dX4_differ_24 ?_
        refine jr_goto (tgt := 68) (pc := 25) hh dX4_differ_25 (by decide) ?_
        refine jr_loc (lv' := [(0, .ref (h 0)), (1, .int (iI sc)), (2, .int (iI d)), (3, .int (iI t)), (4, .int (iI x))]) [0, 1, 2, 3, 4] rfl ?_
        exact cut68 (1) (by unfold cdDiffer; omega)
      · skip
        refine jr_iload_n (pc := 17) hh 3 dX4_differ_17 rfl rfl ?_
        refine jr_callS (pc := 18) hh [.int (iI t)] [.ref (h 0)] (c_X4_isMonth l G t ⟨by omega, by omega⟩) gX4_differ_X4_isMonth rfl (by decide) (by decide) [] [0, 1, 2, 3, 4, 5, 6, 7, 8, 9, 10, 11, 12, 13, 14, 15, 16] rfl rfl rfl rfl (by decide) 1 rfl rfl (Nat.le_of_ble_eq_true rfl) (by decide +kernel) dX4_differ_18 (fun rvu12 wu12 hu12 => ?_)
        obtain ⟨rfl, rfl⟩ := hu12
        refine jr_perm (ws' := (wM G h F V fd)) (st := [.int (iI (inI t 0 11)), .ref (h 0)]) [0, 1, 2, 3, 4, 5, 6, 7, 8, 9, 10, 11, 12, 13, 14, 15, 16] rfl rfl ?_
        have hin11 : (inI t 0 11) = if 0 ≤ t ∧ t ≤ 11 then 1 else 0 := rfl
        refine jr_if_ne (tgt := 28) (pc := 21) hh dX4_differ_21 (by decide) ⟨by omega, by omega⟩ (fun c13 => ?_) (fun c13 => ?_)
        · skip
          refine jr_iload (pc := 28) hh 4 dX4_differ_28 rfl ?_
          refine jr_sipush (pc := 30) hh dX4_differ_30 (by decide) ?_
          refine jr_sipush (pc := 33) hh dX4_differ_33 (by decide) ?_
          refine jr_callS (pc := 36) hh [.int (iI x), .int (iI (-999)), .int (iI 999)] [.ref (h 0)] (c_X4_in l G x (-999) 999 ⟨by omega, by omega⟩ ⟨by omega, by omega⟩ ⟨by omega, by omega⟩) gX4_differ_X4_in rfl (by decide) (by decide) [] [0, 1, 2, 3, 4, 5, 6, 7, 8, 9, 10, 11, 12, 13, 14, 15, 16] rfl rfl rfl rfl (by decide) 3 rfl rfl (Nat.le_of_ble_eq_true rfl) (by decide +kernel) dX4_differ_36 (fun rvu15 wu15 hu15 => ?_)
          obtain ⟨rfl, rfl⟩ := hu15
          refine jr_perm (ws' := (wM G h F V fd)) (st := [.int (iI (inI x (-999) 999)), .ref (h 0)]) [0, 1, 2, 3, 4, 5, 6, 7, 8, 9, 10, 11, 12, 13, 14, 15, 16] rfl rfl ?_
          have hin14 : (inI x (-999) 999) = if (-999) ≤ x ∧ x ≤ 999 then 1 else 0 := rfl
          refine jr_if_ne (tgt := 46) (pc := 39) hh dX4_differ_39 (by decide) ⟨by omega, by omega⟩ (fun c16 => ?_) (fun c16 => ?_)
          · skip
            refine jr_iload_n (pc := 46) hh 1 dX4_differ_46 rfl rfl ?_
            refine jr_if_ne (tgt := 54) (pc := 47) hh dX4_differ_47 (by decide) ⟨by omega, by omega⟩ (fun c17 => ?_) (fun c17 => ?_)
            · skip
              refine jr_aload_n (pc := 54) hh 0 dX4_differ_54 rfl rfl ?_
              refine jr_get (v := .int (iI (V 4))) (pc := 55) hh in_X4_differ_X4 0 rfl rfl 20 (by decide) (by decide +kernel : Cond.fieldLink RX4 74 (TX4 20).1 (TX4 20).2.1 (TX4 20).2.2.1 ∈ wsX4_differ) rfl dX4_differ_55 ?_
              refine jr_bipush (pc := 58) hh dX4_differ_58 (by decide) ?_
              refine jr_icmp_ne (tgt := 67) (pc := 60) hh dX4_differ_60 (by decide) ⟨by omega, by omega⟩ ⟨by omega, by omega⟩ (fun c18 => ?_) (fun c18 => ?_)
              · skip
                refine jr_iconst (pc := 67) hh dX4_differ_67 ?_
                refine jr_loc (lv' := [(0, .ref (h 0)), (1, .int (iI sc)), (2, .int (iI d)), (3, .int (iI t)), (4, .int (iI x))]) [0, 1, 2, 3, 4] rfl ?_
                exact cut68 (0) (by unfold cdDiffer; omega)
              · skip
                refine jr_iconst (pc := 63) hh dX4_differ_63 ?_
                refine jr_goto (tgt := 68) (pc := 64) hh dX4_differ_64 (by decide) ?_
                refine jr_loc (lv' := [(0, .ref (h 0)), (1, .int (iI sc)), (2, .int (iI d)), (3, .int (iI t)), (4, .int (iI x))]) [0, 1, 2, 3, 4] rfl ?_
                exact cut68 (4) (by unfold cdDiffer; omega)
            · skip
              refine jr_iconst (pc := 50) hh dX4_differ_50 ?_
              refine jr_goto (tgt := 68) (pc := 51) hh dX4_differ_51 (by decide) ?_
              refine jr_loc (lv' := [(0, .ref (h 0)), (1, .int (iI sc)), (2, .int (iI d)), (3, .int (iI t)), (4, .int (iI x))]) [0, 1, 2, 3, 4] rfl ?_
              exact cut68 (3) (by unfold cdDiffer; omega)
          · skip
            refine jr_iconst (pc := 42) hh dX4_differ_42 ?_
            refine jr_goto (tgt := 68) (pc := 43) hh dX4_differ_43 (by decide) ?_
            refine jr_loc (lv' := [(0, .ref (h 0)), (1, .int (iI sc)), (2, .int (iI d)), (3, .int (iI t)), (4, .int (iI x))]) [0, 1, 2, 3, 4] rfl ?_
            exact cut68 (2) (by unfold cdDiffer; omega)
        · skip
          refine jr_iconst (pc := 24) hh dX4_differ_24 ?_
          refine jr_goto (tgt := 68) (pc := 25) hh dX4_differ_25 (by decide) ?_
          refine jr_loc (lv' := [(0, .ref (h 0)), (1, .int (iI sc)), (2, .int (iI d)), (3, .int (iI t)), (4, .int (iI x))]) [0, 1, 2, 3, 4] rfl ?_
          exact cut68 (1) (by unfold cdDiffer; omega)
