/-! CostStudio's public methods, the last ones -/
section JFL
variable {p : Program} {l : Launch} {e : Env} {R : Room} {s : State} {m : MethodId} {args : Array Value} {below : List Frame} {meth : Method} {c : Code} {A : Nat → Prop} {G : jG} {nL cells slots : Nat} {Q : State → Prop} {ws ws' : va_W} {pc : Nat} {lv lv' : List (Nat × Value)} {st : List Value} {cc : ByteArray} {Ts : List Cond} {own : String}
theorem jr_i2f (h : jOK p s m args meth c A G cc Ts own nL) {a : Int} (hd : decode cc pc = .ok (.i2f, 1)) (k : J p l e R s m args below meth c A G nL cells slots Q ws (pc + 1) lv (.float (FP.i2f (iI a)) :: st)) : J p l e R s m args below meth c A G nL cells slots Q ws pc lv (.int (iI a) :: st) :=
  fun H locs ls hP hD hS hl => lv_i2f (jx h) (jb h) hd (k H locs ls hP hD hS hl)
theorem jr_i2d (h : jOK p s m args meth c A G cc Ts own nL) {a : Int} (hd : decode cc pc = .ok (.i2d, 1)) (k : J p l e R s m args below meth c A G nL cells slots Q ws (pc + 1) lv (.double (FP.i2d (iI a)) :: st)) : J p l e R s m args below meth c A G nL cells slots Q ws pc lv (.int (iI a) :: st) :=
  fun H locs ls hP hD hS hl => lv_i2d (jx h) (jb h) hd (k H locs ls hP hD hS hl)
theorem jr_fdiv (h : jOK p s m args meth c A G cc Ts own nL) {x y : UInt32} (hd : decode cc pc = .ok (.fdiv, 1)) (hne : vf_n32 (FP.fdiv x y)) (k : J p l e R s m args below meth c A G nL cells slots Q ws (pc + 1) lv (.float (FP.fdiv x y) :: st)) : J p l e R s m args below meth c A G nL cells slots Q ws pc lv (.float y :: .float x :: st) :=
  fun H locs ls hP hD hS hl => lv_fdiv (jx h) (jb h) hd hne (k H locs ls hP hD hS hl)
theorem jr_ddiv (h : jOK p s m args meth c A G cc Ts own nL) {x y : UInt64} (hd : decode cc pc = .ok (.ddiv, 1)) (hne : vf_n64 (FP.ddiv x y)) (k : J p l e R s m args below meth c A G nL cells slots Q ws (pc + 1) lv (.double (FP.ddiv x y) :: st)) : J p l e R s m args below meth c A G nL cells slots Q ws pc lv (.double y :: .double x :: st) :=
  fun H locs ls hP hD hS hl => lv_ddiv (jx h) (jb h) hd hne (k H locs ls hP hD hS hl)
end JFL
theorem jn32 {r : UInt32} (h : FP.Core.fIsNaN r = false) : vf_n32 r := by
  unfold vf_n32
  rw [UInt32.le_iff_toNat_le, UInt32.toNat_and]
  show r.toNat &&& (2 ^ 31 - 1) ≤ 2139095040
  rw [Nat.and_two_pow_sub_one_eq_mod]
  have h1 : ¬ 2139095040 < r.toNat % 2 ^ 31 := fun q => by rw [(FP.Core.isNaN_bits32 r).mpr q] at h; cases h
  omega
theorem jn64 {r : UInt64} (h : FP.Core.dIsNaN r = false) : vf_n64 r := by
  unfold vf_n64
  rw [UInt64.le_iff_toNat_le, UInt64.toNat_and]
  show r.toNat &&& (2 ^ 63 - 1) ≤ 9218868437227405312
  rw [Nat.and_two_pow_sub_one_eq_mod]
  have h1 : ¬ 9218868437227405312 < r.toNat % 2 ^ 63 := fun q => by rw [(FP.Core.isNaN_bits r).mpr q] at h; cases h
  omega
theorem i2f_nan (v : Int32) : FP.Core.fIsNaN (FP.i2f v) = false := by
  have h1 := (FP.Core.fin_bits32 (FP.i2f v)).mp (FP.Core.i2f_fin v)
  cases hq : FP.Core.fIsNaN (FP.i2f v) with
  | false => rfl
  | true => have := (FP.Core.isNaN_bits32 _).mp hq; omega
theorem i2d_nan (v : Int32) : FP.Core.dIsNaN (FP.i2d v) = false := by
  have h1 := (FP.Core.fin_bits (FP.i2d v)).mp (FP.Core.i2d_fin v)
  cases hq : FP.Core.dIsNaN (FP.i2d v) with
  | false => rfl
  | true => have := (FP.Core.isNaN_bits _).mp hq; omega
theorem fdiv_ok {a b : Int} (hb : jR b) (h0 : b ≠ 0) : FP.Core.fIsNaN (FP.fdiv (FP.i2f (iI a)) (FP.i2f (iI b))) = false := by
  refine FP.Core.fdiv_out (i2f_nan _) (FP.Core.i2f_fin _) (fun hz => ?_)
  have h1 : iI b ≠ 0 := fun q => h0 ((iI_eq hb ⟨by decide, by decide⟩).mp (q.trans (show (0 : Int32) = iI 0 from rfl)))
  exact FP.Core.i2f_ne_zero h1 ((FP.Core.zero_bits232 _).mp hz)
theorem ddiv_ok {a b : Int} (hb : jR b) (h0 : b ≠ 0) : FP.Core.dIsNaN (FP.ddiv (FP.i2d (iI a)) (FP.i2d (iI b))) = false := by
  refine FP.Core.ddiv_out (i2d_nan _) (FP.Core.i2d_fin _) (fun hz => ?_)
  have h1 : iI b ≠ 0 := fun q => h0 ((iI_eq hb ⟨by decide, by decide⟩).mp (q.trans (show (0 : Int32) = iI 0 from rfl)))
  exact FP.Core.i2d_ne_zero h1 ((FP.Core.zero_bits2 _).mp hz)
set_option maxRecDepth 20000 in
theorem in_X3_pass_X3 : ∀ w ∈ u_ws RX3 TX3 7, w ∈ wsX3_pass := by decide +kernel
set_option maxHeartbeats 4000000 in
set_option maxRecDepth 100000 in
theorem c_X3_pass (l : Launch) (G : jG) (h : Nat → Nat) (F : Nat → Nat → Int) (V : Nat → Int) (hk : okC F V) (hm : V 4 < 11) : jMet l yX3_pass wsX3_pass { frames := 7, cells := 0, slots := 0, locals := 400 } G (wC G h F V) [.ref (h 0)] (fun rv w1 => rv = some (.int (iI (V 4 + 1))) ∧ w1 = wC G h F (jU V 4 (V 4 + 1))) := by
  refine jMet_of (cc := cX3_pass) (maxL := 1) (ret := (some .int)) (by decide +kernel) rfl (Nat.le_of_ble_eq_true rfl) ?_
  intro p e s m args below meth c A hh hret hinit
  refine jr_loc (lv' := [(0, .ref (h 0))]) [0] rfl ?_
  obtain ⟨hV0, hV1, hV2, hV3, hV4, -⟩ := id hk
  refine jr_aload_n (pc := 0) hh 0 dX3_pass_0 rfl rfl ?_
  refine jr_get (v := .int (iI (V 4))) (pc := 1) hh in_X3_pass_X3 0 rfl rfl 6 (by decide) (by decide +kernel : Cond.fieldLink RX3 121 (TX3 6).1 (TX3 6).2.1 (TX3 6).2.2.1 ∈ wsX3_pass) rfl dX3_pass_1 ?_
  refine jr_bipush (pc := 4) hh dX3_pass_4 (by decide) ?_
  refine jr_icmp_lt (tgt := 17) (pc := 6) hh dX3_pass_6 (by decide) ⟨by omega, by omega⟩ ⟨by omega, by omega⟩ (fun c1 => ?_) (fun c1 => ?_)
  · skip
    refine jr_aload_n (pc := 17) hh 0 dX3_pass_17 rfl rfl ?_
    refine jr_dup (pc := 18) hh dX3_pass_18 rfl ?_
    refine jr_get (v := .int (iI (V 4))) (pc := 19) hh in_X3_pass_X3 0 rfl rfl 6 (by decide) (by decide +kernel : Cond.fieldLink RX3 121 (TX3 6).1 (TX3 6).2.1 (TX3 6).2.2.1 ∈ wsX3_pass) rfl dX3_pass_19 ?_
    refine jr_iconst (pc := 22) hh dX3_pass_22 ?_
    refine jr_iadd (pc := 23) hh dX3_pass_23 ?_
    refine jr_put (ws' := (wC G h F (jU V 4 ((V 4) + 1)))) (pc := 24) hh in_X3_pass_X3 tyX3_ok nmX3 0 rfl rfl 6 (by decide) (by decide +kernel : Cond.fieldLink RX3 121 (TX3 6).1 (TX3 6).2.1 (TX3 6).2.2.1 ∈ wsX3_pass) rfl rfl (Nat.le_of_ble_eq_true rfl) rfl dX3_pass_24 ?_
    refine jr_aload_n (pc := 27) hh 0 dX3_pass_27 rfl rfl ?_
    refine jr_get (v := .int (iI ((V 4) + 1))) (pc := 28) hh in_X3_pass_X3 0 rfl rfl 6 (by decide) (by decide +kernel : Cond.fieldLink RX3 121 (TX3 6).1 (TX3 6).2.1 (TX3 6).2.2.1 ∈ wsX3_pass) rfl dX3_pass_28 ?_
    exact jr_iret (pc := 31) hh hret rfl ⟨rfl, rfl⟩ (by decide) (by decide) dX3_pass_31
  · skip
    exfalso
    omega
set_option maxRecDepth 20000 in
theorem tw_X3_pass_47 : ∀ w ∈ (vx_at0 RX3 47 "java/lang/IllegalStateException" ["java/lang/RuntimeException", "java/lang/Exception"]).filter goodWord, w ∈ wsX3_pass := by decide +kernel
set_option maxHeartbeats 4000000 in
set_option maxRecDepth 100000 in
theorem t_X3_pass (l : Launch) (G : jG) (h : Nat → Nat) (F : Nat → Nat → Int) (V : Nat → Int) (hk : okC F V) (hcd : cdPass (V 4) ≠ 0) (hlt : l.stackTraces = false) : jThr l yX3_pass wsX3_pass { frames := 8, cells := 1, slots := 6, locals := 520 } G (wC G h F V) [.ref (h 0)] (fun E w1 => ((cdPass (V 4) = 1 ∧ E = "java/lang/IllegalStateException")) ∧ w1 = wC G h F V) := by
  refine jThr_of (cc := cX3_pass) (maxL := 1) (ret := (some .int)) (by decide +kernel) rfl (Nat.le_of_ble_eq_true rfl) ?_
  intro p e s m args below meth c A hh htab
  refine jr_loc (lv' := [(0, .ref (h 0))]) [0] rfl ?_
  obtain ⟨hV0, hV1, hV2, hV3, hV4, -⟩ := id hk
  refine jr_aload_n (pc := 0) hh 0 dX3_pass_0 rfl rfl ?_
  refine jr_get (v := .int (iI (V 4))) (pc := 1) hh in_X3_pass_X3 0 rfl rfl 6 (by decide) (by decide +kernel : Cond.fieldLink RX3 121 (TX3 6).1 (TX3 6).2.1 (TX3 6).2.2.1 ∈ wsX3_pass) rfl dX3_pass_1 ?_
  refine jr_bipush (pc := 4) hh dX3_pass_4 (by decide) ?_
  refine jr_icmp_lt (tgt := 17) (pc := 6) hh dX3_pass_6 (by decide) ⟨by omega, by omega⟩ ⟨by omega, by omega⟩ (fun c1 => ?_) (fun c1 => ?_)
  · skip
    exfalso
    unfold cdPass at hcd
    omega
  · skip
    exact jr_throw (pc := 9) hh hlt htab (cls := "java/lang/IllegalStateException") (names := ["java/lang/RuntimeException", "java/lang/Exception"]) (by decide +kernel) (by decide +kernel) (by decide +kernel) (by decide +kernel) tw_X3_pass_47 tb_47 (by decide) tg_47 dX3_pass_9 dX3_pass_12 dX3_pass_13 dX3_pass_16 ⟨Nat.le_of_ble_eq_true rfl, Nat.le_of_ble_eq_true rfl, Nat.le_of_ble_eq_true rfl, Nat.le_of_ble_eq_true rfl⟩ (Nat.le_of_ble_eq_true rfl) (Nat.le_of_ble_eq_true rfl) ⟨⟨by unfold cdPass; omega, rfl⟩, rfl⟩
set_option maxRecDepth 20000 in
theorem in_X3_month_X3 : ∀ w ∈ u_ws RX3 TX3 7, w ∈ wsX3_month := by decide +kernel
set_option maxHeartbeats 4000000 in
set_option maxRecDepth 100000 in
theorem c_X3_month (l : Launch) (G : jG) (h : Nat → Nat) (F : Nat → Nat → Int) (V : Nat → Int) (hk : okC F V)  : jMet l yX3_month wsX3_month { frames := 7, cells := 0, slots := 0, locals := 400 } G (wC G h F V) [.ref (h 0)] (fun rv w1 => rv = some (.int (iI (V 4))) ∧ w1 = wC G h F V) := by
  refine jMet_of (cc := cX3_month) (maxL := 1) (ret := (some .int)) (by decide +kernel) rfl (Nat.le_of_ble_eq_true rfl) ?_
  intro p e s m args below meth c A hh hret hinit
  refine jr_loc (lv' := [(0, .ref (h 0))]) [0] rfl ?_
  obtain ⟨hV0, hV1, hV2, hV3, hV4, -⟩ := id hk
  refine jr_aload_n (pc := 0) hh 0 dX3_month_0 rfl rfl ?_
  refine jr_get (v := .int (iI (V 4))) (pc := 1) hh in_X3_month_X3 0 rfl rfl 6 (by decide) (by decide +kernel : Cond.fieldLink RX3 121 (TX3 6).1 (TX3 6).2.1 (TX3 6).2.2.1 ∈ wsX3_month) rfl dX3_month_1 ?_
  exact jr_iret (pc := 4) hh hret rfl ⟨rfl, rfl⟩ (by decide) (by decide) dX3_month_4
set_option maxRecDepth 20000 in
theorem in_X3_open_X3 : ∀ w ∈ u_ws RX3 TX3 7, w ∈ wsX3_open := by decide +kernel
set_option maxHeartbeats 4000000 in
set_option maxRecDepth 100000 in
theorem c_X3_open (l : Launch) (G : jG) (h : Nat → Nat) (F : Nat → Nat → Int) (V : Nat → Int) (hk : okC F V)  : jMet l yX3_open wsX3_open { frames := 7, cells := 0, slots := 0, locals := 400 } G (wC G h F V) [.ref (h 0)] (fun rv w1 => rv = some (.int (iI (cntTo (F 11) 111 120))) ∧ w1 = wC G h F V) := by
  refine jMet_of (cc := cX3_open) (maxL := 1) (ret := (some .int)) (by decide +kernel) rfl (Nat.le_of_ble_eq_true rfl) ?_
  intro p e s m args below meth c A hh hret hinit
  refine jr_loc (lv' := [(0, .ref (h 0))]) [0] rfl ?_
  obtain ⟨hV0, hV1, hV2, hV3, hV4, -⟩ := id hk
  refine jr_aload_n (pc := 0) hh 0 dX3_open_0 rfl rfl ?_
  refine jr_get (v := .ref (h 14)) (pc := 1) hh in_X3_open_X3 0 rfl rfl 3 (by decide) (by decide +kernel : Cond.fieldLink RX3 30 (TX3 3).1 (TX3 3).2.1 (TX3 3).2.2.1 ∈ wsX3_open) rfl dX3_open_1 ?_
  refine jr_bipush (pc := 4) hh dX3_open_4 (by decide) ?_
  refine jr_callVN (pc := 6) hh [.int (iI 111)] [] (c_X0_countIn l G (fun k => h (14 + k)) (fun k => F (11 + k)) 111 (by decide) (fun k q => (hk.2.2.2.2.2.2.2.2.2.2.2 k q).1)) gX3_open_X0_countIn_n143 rfl (by decide +kernel) (by decide +kernel) (by decide +kernel) (by decide +kernel) (by decide) (by decide) [14, 15, 16, 17] [0, 1, 2, 3, 4, 5, 6, 7, 8, 9, 10, 11, 12, 13] rfl rfl rfl rfl (by decide) 0 rfl rfl 1 rfl rfl (Nat.le_of_ble_eq_true rfl) (by decide +kernel) dX3_open_6 (fun rvu1 wu1 hu1 => ?_)
  obtain ⟨rfl, rfl⟩ := hu1
  refine jr_perm (ws' := (wC G h F V)) (st := [.int (iI (cntTo (F 11) 111 120))]) [0, 1, 2, 3, 4, 5, 6, 7, 8, 9, 10, 11, 12, 13, 14, 15, 16, 17] rfl rfl ?_
  have hcb111 := cntTo_bound (F 11) 111 120
  exact jr_iret (pc := 9) hh hret rfl ⟨rfl, rfl⟩ (by decide) (by decide) dX3_open_9
set_option maxRecDepth 20000 in
theorem in_X3_approvedShare_X3 : ∀ w ∈ u_ws RX3 TX3 7, w ∈ wsX3_approvedShare := by decide +kernel
set_option maxHeartbeats 4000000 in
set_option maxRecDepth 100000 in
theorem c_X3_approvedShare (l : Launch) (G : jG) (h : Nat → Nat) (F : Nat → Nat → Int) (V : Nat → Int) (hk : okC F V) (hn : (cntTo (F 11) 97 120 + cntTo (F 11) 111 120) ≠ 0) : jMet l yX3_approvedShare wsX3_approvedShare { frames := 7, cells := 0, slots := 0, locals := 400 } G (wC G h F V) [.ref (h 0)] (fun rv w1 => rv = some (.float (FP.fdiv (FP.i2f (iI (cntTo (F 11) 97 120))) (FP.i2f (iI (cntTo (F 11) 97 120 + cntTo (F 11) 111 120))))) ∧ w1 = wC G h F V) := by
  refine jMet_of (cc := cX3_approvedShare) (maxL := 3) (ret := (some .float)) (by decide +kernel) rfl (Nat.le_of_ble_eq_true rfl) ?_
  intro p e s m args below meth c A hh hret hinit
  refine jr_loc (lv' := [(0, .ref (h 0))]) [0] rfl ?_
  obtain ⟨hV0, hV1, hV2, hV3, hV4, -⟩ := id hk
  refine jr_aload_n (pc := 0) hh 0 dX3_approvedShare_0 rfl rfl ?_
  refine jr_get (v := .ref (h 14)) (pc := 1) hh in_X3_approvedShare_X3 0 rfl rfl 3 (by decide) (by decide +kernel : Cond.fieldLink RX3 30 (TX3 3).1 (TX3 3).2.1 (TX3 3).2.2.1 ∈ wsX3_approvedShare) rfl dX3_approvedShare_1 ?_
  refine jr_bipush (pc := 4) hh dX3_approvedShare_4 (by decide) ?_
  refine jr_callVN (pc := 6) hh [.int (iI 97)] [] (c_X0_countIn l G (fun k => h (14 + k)) (fun k => F (11 + k)) 97 (by decide) (fun k q => (hk.2.2.2.2.2.2.2.2.2.2.2 k q).1)) gX3_approvedShare_X0_countIn_n143 rfl (by decide +kernel) (by decide +kernel) (by decide +kernel) (by decide +kernel) (by decide) (by decide) [14, 15, 16, 17] [0, 1, 2, 3, 4, 5, 6, 7, 8, 9, 10, 11, 12, 13] rfl rfl rfl rfl (by decide) 0 rfl rfl 1 rfl rfl (Nat.le_of_ble_eq_true rfl) (by decide +kernel) dX3_approvedShare_6 (fun rvu1 wu1 hu1 => ?_)
  obtain ⟨rfl, rfl⟩ := hu1
  refine jr_perm (ws' := (wC G h F V)) (st := [.int (iI (cntTo (F 11) 97 120))]) [0, 1, 2, 3, 4, 5, 6, 7, 8, 9, 10, 11, 12, 13, 14, 15, 16, 17] rfl rfl ?_
  have hcb97 := cntTo_bound (F 11) 97 120
  refine jr_istore_n (lv' := [(1, .int (iI (cntTo (F 11) 97 120))), (0, .ref (h 0))]) (pc := 9) hh dX3_approvedShare_9 rfl (by decide) rfl ?_
  refine jr_iload_n (pc := 10) hh 0 dX3_approvedShare_10 rfl rfl ?_
  refine jr_aload_n (pc := 11) hh 1 dX3_approvedShare_11 rfl rfl ?_
  refine jr_get (v := .ref (h 14)) (pc := 12) hh in_X3_approvedShare_X3 0 rfl rfl 3 (by decide) (by decide +kernel : Cond.fieldLink RX3 30 (TX3 3).1 (TX3 3).2.1 (TX3 3).2.2.1 ∈ wsX3_approvedShare) rfl dX3_approvedShare_12 ?_
  refine jr_bipush (pc := 15) hh dX3_approvedShare_15 (by decide) ?_
  refine jr_callVN (pc := 17) hh [.int (iI 111)] [.int (iI (cntTo (F 11) 97 120))] (c_X0_countIn l G (fun k => h (14 + k)) (fun k => F (11 + k)) 111 (by decide) (fun k q => (hk.2.2.2.2.2.2.2.2.2.2.2 k q).1)) gX3_approvedShare_X0_countIn_n143 rfl (by decide +kernel) (by decide +kernel) (by decide +kernel) (by decide +kernel) (by decide) (by decide) [14, 15, 16, 17] [0, 1, 2, 3, 4, 5, 6, 7, 8, 9, 10, 11, 12, 13] rfl rfl rfl rfl (by decide) 0 rfl rfl 1 rfl rfl (Nat.le_of_ble_eq_true rfl) (by decide +kernel) dX3_approvedShare_17 (fun rvu2 wu2 hu2 => ?_)
  obtain ⟨rfl, rfl⟩ := hu2
  refine jr_perm (ws' := (wC G h F V)) (st := [.int (iI (cntTo (F 11) 111 120)), .int (iI (cntTo (F 11) 97 120))]) [0, 1, 2, 3, 4, 5, 6, 7, 8, 9, 10, 11, 12, 13, 14, 15, 16, 17] rfl rfl ?_
  have hcb111 := cntTo_bound (F 11) 111 120
  refine jr_iadd (pc := 20) hh dX3_approvedShare_20 ?_
  refine jr_istore_n (lv' := [(2, .int (iI ((cntTo (F 11) 97 120) + (cntTo (F 11) 111 120)))), (1, .int (iI (cntTo (F 11) 97 120))), (0, .ref (h 0))]) (pc := 21) hh dX3_approvedShare_21 rfl (by decide) rfl ?_
  refine jr_iload_n (pc := 22) hh 0 dX3_approvedShare_22 rfl rfl ?_
  refine jr_if_ne (tgt := 34) (pc := 23) hh dX3_approvedShare_23 (by decide) ⟨by omega, by omega⟩ (fun c3 => ?_) (fun c3 => ?_)
  · skip
    refine jr_iload_n (pc := 34) hh 1 dX3_approvedShare_34 rfl rfl ?_
    refine jr_i2f (pc := 35) hh dX3_approvedShare_35 ?_
    refine jr_iload_n (pc := 36) hh 0 dX3_approvedShare_36 rfl rfl ?_
    refine jr_i2f (pc := 37) hh dX3_approvedShare_37 ?_
    refine jr_fdiv (pc := 38) hh dX3_approvedShare_38 (jn32 (fdiv_ok ⟨by omega, by omega⟩ hn)) ?_
    exact jr_fret (pc := 39) hh hret ⟨rfl, rfl⟩ (by decide) (by decide) dX3_approvedShare_39
  · skip
    exfalso
    omega
set_option maxRecDepth 20000 in
theorem tw_X3_approvedShare_149 : ∀ w ∈ (vx_at0 RX3 149 "java/lang/ArithmeticException" ["java/lang/RuntimeException", "java/lang/Exception"]).filter goodWord, w ∈ wsX3_approvedShare := by decide +kernel
set_option maxRecDepth 20000 in
theorem tb_149 : ∀ w ∈ (vx_at0 RX3 149 "java/lang/ArithmeticException" ["java/lang/RuntimeException", "java/lang/Exception"]).filter (fun w => !goodWord w), w ∈ [Cond.castable "java/lang/ArithmeticException" "java/lang/ArithmeticException", Cond.declares (Bundle.init0 "java/lang/RuntimeException"), Cond.declares (Bundle.init0 "java/lang/Exception"), Cond.declares (Bundle.init0 Bundle.tN)] := by decide +kernel
set_option maxRecDepth 20000 in
theorem tg_149 : ∀ w ∈ Cond.classLink RX3 147 "java/lang/ArithmeticException" :: Cond.initialized "java/lang/ArithmeticException" :: vx_at0 RX3 149 "java/lang/ArithmeticException" ["java/lang/RuntimeException", "java/lang/Exception"], vx_ot w = true := by decide +kernel
set_option maxHeartbeats 4000000 in
set_option maxRecDepth 100000 in
theorem t_X3_approvedShare (l : Launch) (G : jG) (h : Nat → Nat) (F : Nat → Nat → Int) (V : Nat → Int) (hk : okC F V) (hcd : cdShare (cntTo (F 11) 97 120 + cntTo (F 11) 111 120) ≠ 0) (hlt : l.stackTraces = false) : jThr l yX3_approvedShare wsX3_approvedShare { frames := 8, cells := 1, slots := 6, locals := 520 } G (wC G h F V) [.ref (h 0)] (fun E w1 => ((cdShare (cntTo (F 11) 97 120 + cntTo (F 11) 111 120) = 1 ∧ E = "java/lang/ArithmeticException")) ∧ w1 = wC G h F V) := by
  refine jThr_of (cc := cX3_approvedShare) (maxL := 3) (ret := (some .float)) (by decide +kernel) rfl (Nat.le_of_ble_eq_true rfl) ?_
  intro p e s m args below meth c A hh htab
  refine jr_loc (lv' := [(0, .ref (h 0))]) [0] rfl ?_
  obtain ⟨hV0, hV1, hV2, hV3, hV4, -⟩ := id hk
  refine jr_aload_n (pc := 0) hh 0 dX3_approvedShare_0 rfl rfl ?_
  refine jr_get (v := .ref (h 14)) (pc := 1) hh in_X3_approvedShare_X3 0 rfl rfl 3 (by decide) (by decide +kernel : Cond.fieldLink RX3 30 (TX3 3).1 (TX3 3).2.1 (TX3 3).2.2.1 ∈ wsX3_approvedShare) rfl dX3_approvedShare_1 ?_
  refine jr_bipush (pc := 4) hh dX3_approvedShare_4 (by decide) ?_
  refine jr_callVN (pc := 6) hh [.int (iI 97)] [] (c_X0_countIn l G (fun k => h (14 + k)) (fun k => F (11 + k)) 97 (by decide) (fun k q => (hk.2.2.2.2.2.2.2.2.2.2.2 k q).1)) gX3_approvedShare_X0_countIn_n143 rfl (by decide +kernel) (by decide +kernel) (by decide +kernel) (by decide +kernel) (by decide) (by decide) [14, 15, 16, 17] [0, 1, 2, 3, 4, 5, 6, 7, 8, 9, 10, 11, 12, 13] rfl rfl rfl rfl (by decide) 0 rfl rfl 1 rfl rfl (Nat.le_of_ble_eq_true rfl) (by decide +kernel) dX3_approvedShare_6 (fun rvu1 wu1 hu1 => ?_)
  obtain ⟨rfl, rfl⟩ := hu1
  refine jr_perm (ws' := (wC G h F V)) (st := [.int (iI (cntTo (F 11) 97 120))]) [0, 1, 2, 3, 4, 5, 6, 7, 8, 9, 10, 11, 12, 13, 14, 15, 16, 17] rfl rfl ?_
  have hcb97 := cntTo_bound (F 11) 97 120
  refine jr_istore_n (lv' := [(1, .int (iI (cntTo (F 11) 97 120))), (0, .ref (h 0))]) (pc := 9) hh dX3_approvedShare_9 rfl (by decide) rfl ?_
  refine jr_iload_n (pc := 10) hh 0 dX3_approvedShare_10 rfl rfl ?_
  refine jr_aload_n (pc := 11) hh 1 dX3_approvedShare_11 rfl rfl ?_
  refine jr_get (v := .ref (h 14)) (pc := 12) hh in_X3_approvedShare_X3 0 rfl rfl 3 (by decide) (by decide +kernel : Cond.fieldLink RX3 30 (TX3 3).1 (TX3 3).2.1 (TX3 3).2.2.1 ∈ wsX3_approvedShare) rfl dX3_approvedShare_12 ?_
  refine jr_bipush (pc := 15) hh dX3_approvedShare_15 (by decide) ?_
  refine jr_callVN (pc := 17) hh [.int (iI 111)] [.int (iI (cntTo (F 11) 97 120))] (c_X0_countIn l G (fun k => h (14 + k)) (fun k => F (11 + k)) 111 (by decide) (fun k q => (hk.2.2.2.2.2.2.2.2.2.2.2 k q).1)) gX3_approvedShare_X0_countIn_n143 rfl (by decide +kernel) (by decide +kernel) (by decide +kernel) (by decide +kernel) (by decide) (by decide) [14, 15, 16, 17] [0, 1, 2, 3, 4, 5, 6, 7, 8, 9, 10, 11, 12, 13] rfl rfl rfl rfl (by decide) 0 rfl rfl 1 rfl rfl (Nat.le_of_ble_eq_true rfl) (by decide +kernel) dX3_approvedShare_17 (fun rvu2 wu2 hu2 => ?_)
  obtain ⟨rfl, rfl⟩ := hu2
  refine jr_perm (ws' := (wC G h F V)) (st := [.int (iI (cntTo (F 11) 111 120)), .int (iI (cntTo (F 11) 97 120))]) [0, 1, 2, 3, 4, 5, 6, 7, 8, 9, 10, 11, 12, 13, 14, 15, 16, 17] rfl rfl ?_
  have hcb111 := cntTo_bound (F 11) 111 120
  refine jr_iadd (pc := 20) hh dX3_approvedShare_20 ?_
  refine jr_istore_n (lv' := [(2, .int (iI ((cntTo (F 11) 97 120) + (cntTo (F 11) 111 120)))), (1, .int (iI (cntTo (F 11) 97 120))), (0, .ref (h 0))]) (pc := 21) hh dX3_approvedShare_21 rfl (by decide) rfl ?_
  refine jr_iload_n (pc := 22) hh 0 dX3_approvedShare_22 rfl rfl ?_
  refine jr_if_ne (tgt := 34) (pc := 23) hh dX3_approvedShare_23 (by decide) ⟨by omega, by omega⟩ (fun c3 => ?_) (fun c3 => ?_)
  · skip
    exfalso
    unfold cdShare at hcd
    omega
  · skip
    exact jr_throw (pc := 26) hh hlt htab (cls := "java/lang/ArithmeticException") (names := ["java/lang/RuntimeException", "java/lang/Exception"]) (by decide +kernel) (by decide +kernel) (by decide +kernel) (by decide +kernel) tw_X3_approvedShare_149 tb_149 (by decide) tg_149 dX3_approvedShare_26 dX3_approvedShare_29 dX3_approvedShare_30 dX3_approvedShare_33 ⟨Nat.le_of_ble_eq_true rfl, Nat.le_of_ble_eq_true rfl, Nat.le_of_ble_eq_true rfl, Nat.le_of_ble_eq_true rfl⟩ (Nat.le_of_ble_eq_true rfl) (Nat.le_of_ble_eq_true rfl) ⟨⟨by unfold cdShare; omega, rfl⟩, rfl⟩
set_option maxRecDepth 20000 in
theorem in_X3_meanTolerance_X3 : ∀ w ∈ u_ws RX3 TX3 7, w ∈ wsX3_meanTolerance := by decide +kernel
set_option maxHeartbeats 4000000 in
set_option maxRecDepth 100000 in
theorem c_X3_meanTolerance (l : Launch) (G : jG) (h : Nat → Nat) (F : Nat → Nat → Int) (V : Nat → Int) (hk : okC F V) (hn : (cntTo (F 11) 97 120 + cntTo (F 11) 111 120) ≠ 0) : jMet l yX3_meanTolerance wsX3_meanTolerance { frames := 7, cells := 0, slots := 0, locals := 400 } G (wC G h F V) [.ref (h 0)] (fun rv w1 => rv = some (.double (FP.ddiv (FP.i2d (iI (sumTo (F 13) 120))) (FP.i2d (iI (cntTo (F 11) 97 120 + cntTo (F 11) 111 120))))) ∧ w1 = wC G h F V) := by
  refine jMet_of (cc := cX3_meanTolerance) (maxL := 2) (ret := (some .double)) (by decide +kernel) rfl (Nat.le_of_ble_eq_true rfl) ?_
  intro p e s m args below meth c A hh hret hinit
  refine jr_loc (lv' := [(0, .ref (h 0))]) [0] rfl ?_
  obtain ⟨hV0, hV1, hV2, hV3, hV4, -⟩ := id hk
  refine jr_aload_n (pc := 0) hh 0 dX3_meanTolerance_0 rfl rfl ?_
  refine jr_get (v := .ref (h 14)) (pc := 1) hh in_X3_meanTolerance_X3 0 rfl rfl 3 (by decide) (by decide +kernel : Cond.fieldLink RX3 30 (TX3 3).1 (TX3 3).2.1 (TX3 3).2.2.1 ∈ wsX3_meanTolerance) rfl dX3_meanTolerance_1 ?_
  refine jr_bipush (pc := 4) hh dX3_meanTolerance_4 (by decide) ?_
  refine jr_callVN (pc := 6) hh [.int (iI 97)] [] (c_X0_countIn l G (fun k => h (14 + k)) (fun k => F (11 + k)) 97 (by decide) (fun k q => (hk.2.2.2.2.2.2.2.2.2.2.2 k q).1)) gX3_meanTolerance_X0_countIn_n143 rfl (by decide +kernel) (by decide +kernel) (by decide +kernel) (by decide +kernel) (by decide) (by decide) [14, 15, 16, 17] [0, 1, 2, 3, 4, 5, 6, 7, 8, 9, 10, 11, 12, 13] rfl rfl rfl rfl (by decide) 0 rfl rfl 1 rfl rfl (Nat.le_of_ble_eq_true rfl) (by decide +kernel) dX3_meanTolerance_6 (fun rvu1 wu1 hu1 => ?_)
  obtain ⟨rfl, rfl⟩ := hu1
  refine jr_perm (ws' := (wC G h F V)) (st := [.int (iI (cntTo (F 11) 97 120))]) [0, 1, 2, 3, 4, 5, 6, 7, 8, 9, 10, 11, 12, 13, 14, 15, 16, 17] rfl rfl ?_
  have hcb97 := cntTo_bound (F 11) 97 120
  refine jr_aload_n (pc := 9) hh 0 dX3_meanTolerance_9 rfl rfl ?_
  refine jr_get (v := .ref (h 14)) (pc := 10) hh in_X3_meanTolerance_X3 0 rfl rfl 3 (by decide) (by decide +kernel : Cond.fieldLink RX3 30 (TX3 3).1 (TX3 3).2.1 (TX3 3).2.2.1 ∈ wsX3_meanTolerance) rfl dX3_meanTolerance_10 ?_
  refine jr_bipush (pc := 13) hh dX3_meanTolerance_13 (by decide) ?_
  refine jr_callVN (pc := 15) hh [.int (iI 111)] [.int (iI (cntTo (F 11) 97 120))] (c_X0_countIn l G (fun k => h (14 + k)) (fun k => F (11 + k)) 111 (by decide) (fun k q => (hk.2.2.2.2.2.2.2.2.2.2.2 k q).1)) gX3_meanTolerance_X0_countIn_n143 rfl (by decide +kernel) (by decide +kernel) (by decide +kernel) (by decide +kernel) (by decide) (by decide) [14, 15, 16, 17] [0, 1, 2, 3, 4, 5, 6, 7, 8, 9, 10, 11, 12, 13] rfl rfl rfl rfl (by decide) 0 rfl rfl 1 rfl rfl (Nat.le_of_ble_eq_true rfl) (by decide +kernel) dX3_meanTolerance_15 (fun rvu2 wu2 hu2 => ?_)
  obtain ⟨rfl, rfl⟩ := hu2
  refine jr_perm (ws' := (wC G h F V)) (st := [.int (iI (cntTo (F 11) 111 120)), .int (iI (cntTo (F 11) 97 120))]) [0, 1, 2, 3, 4, 5, 6, 7, 8, 9, 10, 11, 12, 13, 14, 15, 16, 17] rfl rfl ?_
  have hcb111 := cntTo_bound (F 11) 111 120
  refine jr_iadd (pc := 18) hh dX3_meanTolerance_18 ?_
  refine jr_istore_n (lv' := [(1, .int (iI ((cntTo (F 11) 97 120) + (cntTo (F 11) 111 120)))), (0, .ref (h 0))]) (pc := 19) hh dX3_meanTolerance_19 rfl (by decide) rfl ?_
  refine jr_iload_n (pc := 20) hh 0 dX3_meanTolerance_20 rfl rfl ?_
  refine jr_if_ne (tgt := 32) (pc := 21) hh dX3_meanTolerance_21 (by decide) ⟨by omega, by omega⟩ (fun c3 => ?_) (fun c3 => ?_)
  · skip
    refine jr_aload_n (pc := 32) hh 1 dX3_meanTolerance_32 rfl rfl ?_
    refine jr_get (v := .ref (h 14)) (pc := 33) hh in_X3_meanTolerance_X3 0 rfl rfl 3 (by decide) (by decide +kernel : Cond.fieldLink RX3 30 (TX3 3).1 (TX3 3).2.1 (TX3 3).2.2.1 ∈ wsX3_meanTolerance) rfl dX3_meanTolerance_33 ?_
    refine jr_callVN (pc := 36) hh [] [] (c_X0_sumOfTolerances l G (fun k => h (14 + k)) (fun k => F (11 + k)) (fun k q => (hk.2.2.2.2.2.2.2.2.2.2.2 k q).2.2)) gX3_meanTolerance_X0_sumOfTolerances_n150 rfl (by decide +kernel) (by decide +kernel) (by decide +kernel) (by decide +kernel) (by decide) (by decide) [14, 15, 16, 17] [0, 1, 2, 3, 4, 5, 6, 7, 8, 9, 10, 11, 12, 13] rfl rfl rfl rfl (by decide) 0 rfl rfl 0 rfl rfl (Nat.le_of_ble_eq_true rfl) (by decide +kernel) dX3_meanTolerance_36 (fun rvu4 wu4 hu4 => ?_)
    obtain ⟨rfl, rfl⟩ := hu4
    refine jr_perm (ws' := (wC G h F V)) (st := [.int (iI (sumTo (F 13) 120))]) [0, 1, 2, 3, 4, 5, 6, 7, 8, 9, 10, 11, 12, 13, 14, 15, 16, 17] rfl rfl ?_
    refine jr_i2d (pc := 39) hh dX3_meanTolerance_39 ?_
    refine jr_iload_n (pc := 40) hh 0 dX3_meanTolerance_40 rfl rfl ?_
    refine jr_i2d (pc := 41) hh dX3_meanTolerance_41 ?_
    refine jr_ddiv (pc := 42) hh dX3_meanTolerance_42 (jn64 (ddiv_ok ⟨by omega, by omega⟩ hn)) ?_
    exact jr_dret (pc := 43) hh hret ⟨rfl, rfl⟩ (by decide) (by decide) dX3_meanTolerance_43
  · skip
    exfalso
    omega
set_option maxRecDepth 20000 in
theorem tw_X3_meanTolerance_149 : ∀ w ∈ (vx_at0 RX3 149 "java/lang/ArithmeticException" ["java/lang/RuntimeException", "java/lang/Exception"]).filter goodWord, w ∈ wsX3_meanTolerance := by decide +kernel
set_option maxHeartbeats 4000000 in
set_option maxRecDepth 100000 in
theorem t_X3_meanTolerance (l : Launch) (G : jG) (h : Nat → Nat) (F : Nat → Nat → Int) (V : Nat → Int) (hk : okC F V) (hcd : cdShare (cntTo (F 11) 97 120 + cntTo (F 11) 111 120) ≠ 0) (hlt : l.stackTraces = false) : jThr l yX3_meanTolerance wsX3_meanTolerance { frames := 8, cells := 1, slots := 6, locals := 520 } G (wC G h F V) [.ref (h 0)] (fun E w1 => ((cdShare (cntTo (F 11) 97 120 + cntTo (F 11) 111 120) = 1 ∧ E = "java/lang/ArithmeticException")) ∧ w1 = wC G h F V) := by
  refine jThr_of (cc := cX3_meanTolerance) (maxL := 2) (ret := (some .double)) (by decide +kernel) rfl (Nat.le_of_ble_eq_true rfl) ?_
  intro p e s m args below meth c A hh htab
  refine jr_loc (lv' := [(0, .ref (h 0))]) [0] rfl ?_
  obtain ⟨hV0, hV1, hV2, hV3, hV4, -⟩ := id hk
  refine jr_aload_n (pc := 0) hh 0 dX3_meanTolerance_0 rfl rfl ?_
  refine jr_get (v := .ref (h 14)) (pc := 1) hh in_X3_meanTolerance_X3 0 rfl rfl 3 (by decide) (by decide +kernel : Cond.fieldLink RX3 30 (TX3 3).1 (TX3 3).2.1 (TX3 3).2.2.1 ∈ wsX3_meanTolerance) rfl dX3_meanTolerance_1 ?_
  refine jr_bipush (pc := 4) hh dX3_meanTolerance_4 (by decide) ?_
  refine jr_callVN (pc := 6) hh [.int (iI 97)] [] (c_X0_countIn l G (fun k => h (14 + k)) (fun k => F (11 + k)) 97 (by decide) (fun k q => (hk.2.2.2.2.2.2.2.2.2.2.2 k q).1)) gX3_meanTolerance_X0_countIn_n143 rfl (by decide +kernel) (by decide +kernel) (by decide +kernel) (by decide +kernel) (by decide) (by decide) [14, 15, 16, 17] [0, 1, 2, 3, 4, 5, 6, 7, 8, 9, 10, 11, 12, 13] rfl rfl rfl rfl (by decide) 0 rfl rfl 1 rfl rfl (Nat.le_of_ble_eq_true rfl) (by decide +kernel) dX3_meanTolerance_6 (fun rvu1 wu1 hu1 => ?_)
  obtain ⟨rfl, rfl⟩ := hu1
  refine jr_perm (ws' := (wC G h F V)) (st := [.int (iI (cntTo (F 11) 97 120))]) [0, 1, 2, 3, 4, 5, 6, 7, 8, 9, 10, 11, 12, 13, 14, 15, 16, 17] rfl rfl ?_
  have hcb97 := cntTo_bound (F 11) 97 120
  refine jr_aload_n (pc := 9) hh 0 dX3_meanTolerance_9 rfl rfl ?_
  refine jr_get (v := .ref (h 14)) (pc := 10) hh in_X3_meanTolerance_X3 0 rfl rfl 3 (by decide) (by decide +kernel : Cond.fieldLink RX3 30 (TX3 3).1 (TX3 3).2.1 (TX3 3).2.2.1 ∈ wsX3_meanTolerance) rfl dX3_meanTolerance_10 ?_
  refine jr_bipush (pc := 13) hh dX3_meanTolerance_13 (by decide) ?_
  refine jr_callVN (pc := 15) hh [.int (iI 111)] [.int (iI (cntTo (F 11) 97 120))] (c_X0_countIn l G (fun k => h (14 + k)) (fun k => F (11 + k)) 111 (by decide) (fun k q => (hk.2.2.2.2.2.2.2.2.2.2.2 k q).1)) gX3_meanTolerance_X0_countIn_n143 rfl (by decide +kernel) (by decide +kernel) (by decide +kernel) (by decide +kernel) (by decide) (by decide) [14, 15, 16, 17] [0, 1, 2, 3, 4, 5, 6, 7, 8, 9, 10, 11, 12, 13] rfl rfl rfl rfl (by decide) 0 rfl rfl 1 rfl rfl (Nat.le_of_ble_eq_true rfl) (by decide +kernel) dX3_meanTolerance_15 (fun rvu2 wu2 hu2 => ?_)
  obtain ⟨rfl, rfl⟩ := hu2
  refine jr_perm (ws' := (wC G h F V)) (st := [.int (iI (cntTo (F 11) 111 120)), .int (iI (cntTo (F 11) 97 120))]) [0, 1, 2, 3, 4, 5, 6, 7, 8, 9, 10, 11, 12, 13, 14, 15, 16, 17] rfl rfl ?_
  have hcb111 := cntTo_bound (F 11) 111 120
  refine jr_iadd (pc := 18) hh dX3_meanTolerance_18 ?_
  refine jr_istore_n (lv' := [(1, .int (iI ((cntTo (F 11) 97 120) + (cntTo (F 11) 111 120)))), (0, .ref (h 0))]) (pc := 19) hh dX3_meanTolerance_19 rfl (by decide) rfl ?_
  refine jr_iload_n (pc := 20) hh 0 dX3_meanTolerance_20 rfl rfl ?_
  refine jr_if_ne (tgt := 32) (pc := 21) hh dX3_meanTolerance_21 (by decide) ⟨by omega, by omega⟩ (fun c3 => ?_) (fun c3 => ?_)
  · skip
    exfalso
    unfold cdShare at hcd
    omega
  · skip
    exact jr_throw (pc := 24) hh hlt htab (cls := "java/lang/ArithmeticException") (names := ["java/lang/RuntimeException", "java/lang/Exception"]) (by decide +kernel) (by decide +kernel) (by decide +kernel) (by decide +kernel) tw_X3_meanTolerance_149 tb_149 (by decide) tg_149 dX3_meanTolerance_24 dX3_meanTolerance_27 dX3_meanTolerance_28 dX3_meanTolerance_31 ⟨Nat.le_of_ble_eq_true rfl, Nat.le_of_ble_eq_true rfl, Nat.le_of_ble_eq_true rfl, Nat.le_of_ble_eq_true rfl⟩ (Nat.le_of_ble_eq_true rfl) (Nat.le_of_ble_eq_true rfl) ⟨⟨by unfold cdShare; omega, rfl⟩, rfl⟩
set_option maxRecDepth 20000 in
theorem in_X3_actual_X3 : ∀ w ∈ u_ws RX3 TX3 7, w ∈ wsX3_actual := by decide +kernel
set_option maxRecDepth 20000 in
theorem in_X3_actual_X1 : ∀ w ∈ u_ws RX1 TX1 7, w ∈ wsX3_actual := by decide +kernel
set_option maxHeartbeats 4000000 in
set_option maxRecDepth 100000 in
theorem c_X3_actual (l : Launch) (G : jG) (h : Nat → Nat) (F : Nat → Nat → Int) (V : Nat → Int) (i t : Nat) (x : Int) (hk : okC F V) (hi : (i : Int) < V 2) (ht : t < 12) (htm : (t : Int) ≤ V 4) (hx : -9999999 ≤ x ∧ x ≤ 9999999) : jMet l yX3_actual wsX3_actual { frames := 7, cells := 0, slots := 0, locals := 400 } G (wC G h F V) [.ref (h 0), .int (iI (i : Int)), .int (iI (t : Int)), .int (iI x)] (fun rv w1 => rv = some (.int (iI (cntC (uF F 8 (jU (F 8) (i * 12 + t) x)) V))) ∧ ∃ F' : Nat → Nat → Int, scS (uF F 8 (jU (F 8) (i * 12 + t) x)) F' V 12 ∧ w1 = wC G h F' V) := by
  refine jMet_of (cc := cX3_actual) (maxL := 4) (ret := (some .int)) (by decide +kernel) rfl (Nat.le_of_ble_eq_true rfl) ?_
  intro p e s m args below meth c A hh hret hinit
  refine jr_loc (lv' := [(0, .ref (h 0)), (1, .int (iI (i : Int))), (2, .int (iI (t : Int))), (3, .int (iI x))]) [0, 1, 2, 3] rfl ?_
  obtain ⟨hV0, hV1, hV2, hV3, hV4, -⟩ := id hk
  refine jr_aload_n (pc := 0) hh 0 dX3_actual_0 rfl rfl ?_
  refine jr_iload_n (pc := 1) hh 1 dX3_actual_1 rfl rfl ?_
  refine jr_callV (pc := 2) hh [.int (iI (i : Int))] [] (c_X3_requireLine l G h F V (i : Int) (by omega) (by omega)) gX3_actual_X3_requireLine rfl (by decide) (by decide) [0, 1, 2, 3, 4, 5, 6, 7, 8, 9, 10, 11, 12, 13, 14, 15, 16, 17] [] rfl rfl rfl rfl (by decide) 0 rfl rfl 1 rfl rfl (Nat.le_of_ble_eq_true rfl) (by decide +kernel) dX3_actual_2 (fun rvu1 wu1 hu1 => ?_)
  obtain ⟨rfl, rfl⟩ := hu1
  refine jr_perm (ws' := (wC G h F V)) (st := []) [0, 1, 2, 3, 4, 5, 6, 7, 8, 9, 10, 11, 12, 13, 14, 15, 16, 17] rfl rfl ?_
  refine jr_iload_n (pc := 5) hh 2 dX3_actual_5 rfl rfl ?_
  refine jr_callS (pc := 6) hh [.int (iI (t : Int))] [] (c_X3_requireMonth l G (t : Int) (by omega)) gX3_actual_X3_requireMonth rfl (by decide) (by decide) [] [0, 1, 2, 3, 4, 5, 6, 7, 8, 9, 10, 11, 12, 13, 14, 15, 16, 17] rfl rfl rfl rfl (by decide) 1 rfl rfl (Nat.le_of_ble_eq_true rfl) (by decide +kernel) dX3_actual_6 (fun rvu2 wu2 hu2 => ?_)
  obtain ⟨rfl, rfl⟩ := hu2
  refine jr_perm (ws' := (wC G h F V)) (st := []) [0, 1, 2, 3, 4, 5, 6, 7, 8, 9, 10, 11, 12, 13, 14, 15, 16, 17] rfl rfl ?_
  refine jr_iload_n (pc := 9) hh 2 dX3_actual_9 rfl rfl ?_
  refine jr_aload_n (pc := 10) hh 0 dX3_actual_10 rfl rfl ?_
  refine jr_get (v := .int (iI (V 4))) (pc := 11) hh in_X3_actual_X3 0 rfl rfl 6 (by decide) (by decide +kernel : Cond.fieldLink RX3 121 (TX3 6).1 (TX3 6).2.1 (TX3 6).2.2.1 ∈ wsX3_actual) rfl dX3_actual_11 ?_
  refine jr_icmp_gt (tgt := 29) (pc := 14) hh dX3_actual_14 (by decide) ⟨by omega, by omega⟩ ⟨by omega, by omega⟩ (fun c3 => ?_) (fun c3 => ?_)
  · skip
    exfalso
    omega
  · skip
    refine jr_iload_n (pc := 17) hh 3 dX3_actual_17 rfl rfl ?_
    refine jr_ldc (z := (-9999999)) (v := -9999999) (pc := 18) hh (by decide) (by decide +kernel : Cond.constant RX3 124 (-9999999) ∈ wsX3_actual) dX3_actual_18 ?_
    refine jr_icmp_lt (tgt := 29) (pc := 20) hh dX3_actual_20 (by decide) ⟨by omega, by omega⟩ ⟨by omega, by omega⟩ (fun c4 => ?_) (fun c4 => ?_)
    · skip
      exfalso
      omega
    · skip
      refine jr_iload_n (pc := 23) hh 3 dX3_actual_23 rfl rfl ?_
      refine jr_ldc (z := 9999999) (v := 9999999) (pc := 24) hh (by decide) (by decide +kernel : Cond.constant RX3 125 (9999999) ∈ wsX3_actual) dX3_actual_24 ?_
      refine jr_icmp_le (tgt := 37) (pc := 26) hh dX3_actual_26 (by decide) ⟨by omega, by omega⟩ ⟨by omega, by omega⟩ (fun c5 => ?_) (fun c5 => ?_)
      · skip
        refine jr_aload_n (pc := 37) hh 0 dX3_actual_37 rfl rfl ?_
        refine jr_get (v := .ref (h 7)) (pc := 38) hh in_X3_actual_X3 0 rfl rfl 2 (by decide) (by decide +kernel : Cond.fieldLink RX3 23 (TX3 2).1 (TX3 2).2.1 (TX3 2).2.2.1 ∈ wsX3_actual) rfl dX3_actual_38 ?_
        refine jr_getN (v := .ref (h 11)) (pc := 41) hh in_X3_actual_X1 7 rfl rfl 3 (by decide) rfl (by decide +kernel) rfl dX3_actual_41 ?_
        refine jr_iload_n (pc := 44) hh 1 dX3_actual_44 rfl rfl ?_
        refine jr_iload_n (pc := 45) hh 2 dX3_actual_45 rfl rfl ?_
        refine jr_callS (pc := 46) hh [.int (iI (i : Int)), .int (iI (t : Int))] [.ref (h 11)] (c_X3_cell l G i t) gX3_actual_X3_cell rfl (by decide) (by decide) [] [0, 1, 2, 3, 4, 5, 6, 7, 8, 9, 10, 11, 12, 13, 14, 15, 16, 17] rfl rfl rfl rfl (by decide) 2 rfl rfl (Nat.le_of_ble_eq_true rfl) (by decide +kernel) dX3_actual_46 (fun rvu6 wu6 hu6 => ?_)
        obtain ⟨rfl, rfl⟩ := hu6
        refine jr_perm (ws' := (wC G h F V)) (st := [.int (iI ((i * 12 + t : Nat) : Int)), .ref (h 11)]) [0, 1, 2, 3, 4, 5, 6, 7, 8, 9, 10, 11, 12, 13, 14, 15, 16, 17] rfl rfl ?_
        refine jr_iload_n (pc := 49) hh 3 dX3_actual_49 rfl rfl ?_
        refine jr_iast (F := (F 8)) (ws' := (wC G h (uF F 8 (jU (F 8) (i * 12 + t) x)) V)) (pc := 50) hh 11 rfl (i * 12 + t) (by omega) (by omega) (by decide) rfl dX3_actual_50 ?_
        have hk1 := okC_act hk (i * 12 + t) (Or.inr hx)
        refine jr_aload_n (pc := 51) hh 0 dX3_actual_51 rfl rfl ?_
        refine jr_callV (pc := 52) hh [] [] (c_X3_reopenDrifted l G h (uF F 8 (jU (F 8) (i * 12 + t) x)) V hk1) gX3_actual_X3_reopenDrifted rfl (by decide) (by decide) [0, 1, 2, 3, 4, 5, 6, 7, 8, 9, 10, 11, 12, 13, 14, 15, 16, 17] [] rfl rfl rfl rfl (by decide) 0 rfl rfl 0 rfl rfl (Nat.le_of_ble_eq_true rfl) (by decide +kernel) dX3_actual_52 (fun rvu7 wu7 hu7 => ?_)
        obtain ⟨rfl, F', hF', rfl⟩ := hu7
        refine jr_perm (ws' := (wC G h F' V)) (st := [.int (iI (cntC (uF F 8 (jU (F 8) (i * 12 + t) x)) V))]) [0, 1, 2, 3, 4, 5, 6, 7, 8, 9, 10, 11, 12, 13, 14, 15, 16, 17] rfl rfl ?_
        exact jr_iret (pc := 55) hh hret rfl ⟨rfl, F', hF', rfl⟩ (by decide) (by decide) dX3_actual_55
      · skip
        exfalso
        omega
set_option maxRecDepth 20000 in
theorem tw_X3_actual_67 : ∀ w ∈ (vx_at0 RX3 67 "java/lang/IllegalArgumentException" ["java/lang/RuntimeException", "java/lang/Exception"]).filter goodWord, w ∈ wsX3_actual := by decide +kernel
set_option maxHeartbeats 4000000 in
set_option maxRecDepth 100000 in
theorem t_X3_actual (l : Launch) (G : jG) (h : Nat → Nat) (F : Nat → Nat → Int) (V : Nat → Int) (i t x : Int) (hri : jR i) (hrt : jR t) (hrx : jR x) (hk : okC F V) (hcd : cdActual (V 2) (V 4) i t x ≠ 0) (hlt : l.stackTraces = false) : jThr l yX3_actual wsX3_actual { frames := 8, cells := 1, slots := 6, locals := 520 } G (wC G h F V) [.ref (h 0), .int (iI i), .int (iI t), .int (iI x)] (fun E w1 => ((cdActual (V 2) (V 4) i t x = 1 ∧ E = "java/lang/IndexOutOfBoundsException") ∨ (cdActual (V 2) (V 4) i t x = 2 ∧ E = "java/lang/IllegalArgumentException")) ∧ w1 = wC G h F V) := by
  refine jThr_of (cc := cX3_actual) (maxL := 4) (ret := (some .int)) (by decide +kernel) rfl (Nat.le_of_ble_eq_true rfl) ?_
  intro p e s m args below meth c A hh htab
  refine jr_loc (lv' := [(0, .ref (h 0)), (1, .int (iI i)), (2, .int (iI t)), (3, .int (iI x))]) [0, 1, 2, 3] rfl ?_
  obtain ⟨hV0, hV1, hV2, hV3, hV4, -⟩ := id hk
  have hri1 := hri.1
  have hrt1 := hrt.1
  have hrx1 := hrx.1
  have hri2 := hri.2
  have hrt2 := hrt.2
  have hrx2 := hrx.2
  refine jr_aload_n (pc := 0) hh 0 dX3_actual_0 rfl rfl ?_
  refine jr_iload_n (pc := 1) hh 1 dX3_actual_1 rfl rfl ?_
  by_cases q1 : 0 ≤ i ∧ i < V 2
  · skip
    obtain ⟨iN, rfl⟩ : ∃ k : Nat, i = (k : Int) := ⟨i.toNat, by omega⟩
    refine jr_callV (pc := 2) hh [.int (iI (iN : Int))] [] (c_X3_requireLine l G h F V (iN : Int) (by omega) (by omega)) gX3_actual_X3_requireLine rfl (by decide) (by decide) [0, 1, 2, 3, 4, 5, 6, 7, 8, 9, 10, 11, 12, 13, 14, 15, 16, 17] [] rfl rfl rfl rfl (by decide) 0 rfl rfl 1 rfl rfl (Nat.le_of_ble_eq_true rfl) (by decide +kernel) dX3_actual_2 (fun rvu2 wu2 hu2 => ?_)
    obtain ⟨rfl, rfl⟩ := hu2
    refine jr_perm (ws' := (wC G h F V)) (st := []) [0, 1, 2, 3, 4, 5, 6, 7, 8, 9, 10, 11, 12, 13, 14, 15, 16, 17] rfl rfl ?_
    refine jr_iload_n (pc := 5) hh 2 dX3_actual_5 rfl rfl ?_
    by_cases q3 : 0 ≤ t ∧ t < 12
    · skip
      obtain ⟨tN, rfl⟩ : ∃ k : Nat, t = (k : Int) := ⟨t.toNat, by omega⟩
      refine jr_callS (pc := 6) hh [.int (iI (tN : Int))] [] (c_X3_requireMonth l G (tN : Int) (by omega)) gX3_actual_X3_requireMonth rfl (by decide) (by decide) [] [0, 1, 2, 3, 4, 5, 6, 7, 8, 9, 10, 11, 12, 13, 14, 15, 16, 17] rfl rfl rfl rfl (by decide) 1 rfl rfl (Nat.le_of_ble_eq_true rfl) (by decide +kernel) dX3_actual_6 (fun rvu4 wu4 hu4 => ?_)
      obtain ⟨rfl, rfl⟩ := hu4
      refine jr_perm (ws' := (wC G h F V)) (st := []) [0, 1, 2, 3, 4, 5, 6, 7, 8, 9, 10, 11, 12, 13, 14, 15, 16, 17] rfl rfl ?_
      refine jr_iload_n (pc := 9) hh 2 dX3_actual_9 rfl rfl ?_
      refine jr_aload_n (pc := 10) hh 0 dX3_actual_10 rfl rfl ?_
      refine jr_get (v := .int (iI (V 4))) (pc := 11) hh in_X3_actual_X3 0 rfl rfl 6 (by decide) (by decide +kernel : Cond.fieldLink RX3 121 (TX3 6).1 (TX3 6).2.1 (TX3 6).2.2.1 ∈ wsX3_actual) rfl dX3_actual_11 ?_
      refine jr_icmp_gt (tgt := 29) (pc := 14) hh dX3_actual_14 (by decide) ⟨by omega, by omega⟩ ⟨by omega, by omega⟩ (fun c5 => ?_) (fun c5 => ?_)
      · skip
        exact jr_throw (pc := 29) hh hlt htab (cls := "java/lang/IllegalArgumentException") (names := ["java/lang/RuntimeException", "java/lang/Exception"]) (by decide +kernel) (by decide +kernel) (by decide +kernel) (by decide +kernel) tw_X3_actual_67 tb_67 (by decide) tg_67 dX3_actual_29 dX3_actual_32 dX3_actual_33 dX3_actual_36 ⟨Nat.le_of_ble_eq_true rfl, Nat.le_of_ble_eq_true rfl, Nat.le_of_ble_eq_true rfl, Nat.le_of_ble_eq_true rfl⟩ (Nat.le_of_ble_eq_true rfl) (Nat.le_of_ble_eq_true rfl) ⟨Or.inr (⟨by unfold cdActual; omega, rfl⟩), rfl⟩
      · skip
        refine jr_iload_n (pc := 17) hh 3 dX3_actual_17 rfl rfl ?_
        refine jr_ldc (z := (-9999999)) (v := -9999999) (pc := 18) hh (by decide) (by decide +kernel : Cond.constant RX3 124 (-9999999) ∈ wsX3_actual) dX3_actual_18 ?_
        refine jr_icmp_lt (tgt := 29) (pc := 20) hh dX3_actual_20 (by decide) ⟨by omega, by omega⟩ ⟨by omega, by omega⟩ (fun c6 => ?_) (fun c6 => ?_)
        · skip
          exact jr_throw (pc := 29) hh hlt htab (cls := "java/lang/IllegalArgumentException") (names := ["java/lang/RuntimeException", "java/lang/Exception"]) (by decide +kernel) (by decide +kernel) (by decide +kernel) (by decide +kernel) tw_X3_actual_67 tb_67 (by decide) tg_67 dX3_actual_29 dX3_actual_32 dX3_actual_33 dX3_actual_36 ⟨Nat.le_of_ble_eq_true rfl, Nat.le_of_ble_eq_true rfl, Nat.le_of_ble_eq_true rfl, Nat.le_of_ble_eq_true rfl⟩ (Nat.le_of_ble_eq_true rfl) (Nat.le_of_ble_eq_true rfl) ⟨Or.inr (⟨by unfold cdActual; omega, rfl⟩), rfl⟩
        · skip
          refine jr_iload_n (pc := 23) hh 3 dX3_actual_23 rfl rfl ?_
          refine jr_ldc (z := 9999999) (v := 9999999) (pc := 24) hh (by decide) (by decide +kernel : Cond.constant RX3 125 (9999999) ∈ wsX3_actual) dX3_actual_24 ?_
          refine jr_icmp_le (tgt := 37) (pc := 26) hh dX3_actual_26 (by decide) ⟨by omega, by omega⟩ ⟨by omega, by omega⟩ (fun c7 => ?_) (fun c7 => ?_)
          · skip
            exfalso
            unfold cdActual at hcd
            omega
          · skip
            exact jr_throw (pc := 29) hh hlt htab (cls := "java/lang/IllegalArgumentException") (names := ["java/lang/RuntimeException", "java/lang/Exception"]) (by decide +kernel) (by decide +kernel) (by decide +kernel) (by decide +kernel) tw_X3_actual_67 tb_67 (by decide) tg_67 dX3_actual_29 dX3_actual_32 dX3_actual_33 dX3_actual_36 ⟨Nat.le_of_ble_eq_true rfl, Nat.le_of_ble_eq_true rfl, Nat.le_of_ble_eq_true rfl, Nat.le_of_ble_eq_true rfl⟩ (Nat.le_of_ble_eq_true rfl) (Nat.le_of_ble_eq_true rfl) ⟨Or.inr (⟨by unfold cdActual; omega, rfl⟩), rfl⟩
    · skip
      exact jr_tcallS (pc := 6) hh [.int (iI t)] [] (t_X3_requireMonth l G t ⟨by omega, by omega⟩ (by omega) hlt) gX3_actual_X3_requireMonth rfl (by decide) (by decide) [] [0, 1, 2, 3, 4, 5, 6, 7, 8, 9, 10, 11, 12, 13, 14, 15, 16, 17] rfl rfl rfl rfl (by decide) 1 rfl rfl (Nat.le_of_ble_eq_true rfl) (by decide +kernel) (fun E w1 hx => by obtain ⟨rfl, rfl⟩ := hx; exact ⟨Or.inl ⟨by unfold cdActual; omega, rfl⟩, rfl⟩) htab (by decide) (by decide) dX3_actual_6
  · skip
    exact jr_tcallV (pc := 2) hh [.int (iI i)] [] (t_X3_requireLine l G h F V i ⟨by omega, by omega⟩ q1 (by omega) hlt) gX3_actual_X3_requireLine rfl (by decide) (by decide) [0, 1, 2, 3, 4, 5, 6, 7, 8, 9, 10, 11, 12, 13, 14, 15, 16, 17] [] rfl rfl rfl rfl (by decide) 0 rfl rfl 1 rfl rfl (Nat.le_of_ble_eq_true rfl) (by decide +kernel) (fun E w1 hx => by obtain ⟨rfl, rfl⟩ := hx; exact ⟨Or.inl ⟨by unfold cdActual; omega, rfl⟩, rfl⟩) htab (by decide) (by decide) dX3_actual_2
set_option maxRecDepth 20000 in
theorem in_X3_takeActual_X3 : ∀ w ∈ u_ws RX3 TX3 7, w ∈ wsX3_takeActual := by decide +kernel
set_option maxRecDepth 20000 in
theorem in_X3_takeActual_X1 : ∀ w ∈ u_ws RX1 TX1 7, w ∈ wsX3_takeActual := by decide +kernel
set_option maxHeartbeats 4000000 in
set_option maxRecDepth 100000 in
theorem c_X3_takeActual (l : Launch) (G : jG) (h : Nat → Nat) (F : Nat → Nat → Int) (V : Nat → Int) (i t : Nat) (hk : okC F V) (hi : (i : Int) < V 2) (ht : t < 12) (hx : F 8 (i * 12 + t) ≠ -1000000000) : jMet l yX3_takeActual wsX3_takeActual { frames := 7, cells := 0, slots := 0, locals := 400 } G (wC G h F V) [.ref (h 0), .int (iI (i : Int)), .int (iI (t : Int))] (fun rv w1 => rv = some (.int (iI (cntC (uF F 8 (jU (F 8) (i * 12 + t) (-1000000000))) V))) ∧ ∃ F' : Nat → Nat → Int, scS (uF F 8 (jU (F 8) (i * 12 + t) (-1000000000))) F' V 12 ∧ w1 = wC G h F' V) := by
  refine jMet_of (cc := cX3_takeActual) (maxL := 3) (ret := (some .int)) (by decide +kernel) rfl (Nat.le_of_ble_eq_true rfl) ?_
  intro p e s m args below meth c A hh hret hinit
  refine jr_loc (lv' := [(0, .ref (h 0)), (1, .int (iI (i : Int))), (2, .int (iI (t : Int)))]) [0, 1, 2] rfl ?_
  obtain ⟨hV0, hV1, hV2, hV3, hV4, -⟩ := id hk
  refine jr_aload_n (pc := 0) hh 0 dX3_takeActual_0 rfl rfl ?_
  refine jr_iload_n (pc := 1) hh 1 dX3_takeActual_1 rfl rfl ?_
  refine jr_callV (pc := 2) hh [.int (iI (i : Int))] [] (c_X3_requireLine l G h F V (i : Int) (by omega) (by omega)) gX3_takeActual_X3_requireLine rfl (by decide) (by decide) [0, 1, 2, 3, 4, 5, 6, 7, 8, 9, 10, 11, 12, 13, 14, 15, 16, 17] [] rfl rfl rfl rfl (by decide) 0 rfl rfl 1 rfl rfl (Nat.le_of_ble_eq_true rfl) (by decide +kernel) dX3_takeActual_2 (fun rvu1 wu1 hu1 => ?_)
  obtain ⟨rfl, rfl⟩ := hu1
  refine jr_perm (ws' := (wC G h F V)) (st := []) [0, 1, 2, 3, 4, 5, 6, 7, 8, 9, 10, 11, 12, 13, 14, 15, 16, 17] rfl rfl ?_
  refine jr_iload_n (pc := 5) hh 2 dX3_takeActual_5 rfl rfl ?_
  refine jr_callS (pc := 6) hh [.int (iI (t : Int))] [] (c_X3_requireMonth l G (t : Int) (by omega)) gX3_takeActual_X3_requireMonth rfl (by decide) (by decide) [] [0, 1, 2, 3, 4, 5, 6, 7, 8, 9, 10, 11, 12, 13, 14, 15, 16, 17] rfl rfl rfl rfl (by decide) 1 rfl rfl (Nat.le_of_ble_eq_true rfl) (by decide +kernel) dX3_takeActual_6 (fun rvu2 wu2 hu2 => ?_)
  obtain ⟨rfl, rfl⟩ := hu2
  refine jr_perm (ws' := (wC G h F V)) (st := []) [0, 1, 2, 3, 4, 5, 6, 7, 8, 9, 10, 11, 12, 13, 14, 15, 16, 17] rfl rfl ?_
  refine jr_aload_n (pc := 9) hh 0 dX3_takeActual_9 rfl rfl ?_
  refine jr_get (v := .ref (h 7)) (pc := 10) hh in_X3_takeActual_X3 0 rfl rfl 2 (by decide) (by decide +kernel : Cond.fieldLink RX3 23 (TX3 2).1 (TX3 2).2.1 (TX3 2).2.2.1 ∈ wsX3_takeActual) rfl dX3_takeActual_10 ?_
  refine jr_getN (v := .ref (h 11)) (pc := 13) hh in_X3_takeActual_X1 7 rfl rfl 3 (by decide) rfl (by decide +kernel) rfl dX3_takeActual_13 ?_
  refine jr_iload_n (pc := 16) hh 1 dX3_takeActual_16 rfl rfl ?_
  refine jr_iload_n (pc := 17) hh 2 dX3_takeActual_17 rfl rfl ?_
  refine jr_callS (pc := 18) hh [.int (iI (i : Int)), .int (iI (t : Int))] [.ref (h 11)] (c_X3_cell l G i t) gX3_takeActual_X3_cell rfl (by decide) (by decide) [] [0, 1, 2, 3, 4, 5, 6, 7, 8, 9, 10, 11, 12, 13, 14, 15, 16, 17] rfl rfl rfl rfl (by decide) 2 rfl rfl (Nat.le_of_ble_eq_true rfl) (by decide +kernel) dX3_takeActual_18 (fun rvu3 wu3 hu3 => ?_)
  obtain ⟨rfl, rfl⟩ := hu3
  refine jr_perm (ws' := (wC G h F V)) (st := [.int (iI ((i * 12 + t : Nat) : Int)), .ref (h 11)]) [0, 1, 2, 3, 4, 5, 6, 7, 8, 9, 10, 11, 12, 13, 14, 15, 16, 17] rfl rfl ?_
  have hac := hk.2.2.2.2.2.2.2.2.2.1 (i * 12 + t) (by omega)
  refine jr_iald (F := (F 8)) (pc := 21) hh 11 rfl (i * 12 + t) (by omega) (by omega) (by decide) dX3_takeActual_21 ?_
  refine jr_ldc (z := (-1000000000)) (v := -1000000000) (pc := 22) hh (by decide) (by decide +kernel : Cond.constant RX3 117 (-1000000000) ∈ wsX3_takeActual) dX3_takeActual_22 ?_
  refine jr_icmp_ne (tgt := 35) (pc := 24) hh dX3_takeActual_24 (by decide) ⟨by omega, by omega⟩ ⟨by omega, by omega⟩ (fun c4 => ?_) (fun c4 => ?_)
  · skip
    refine jr_aload_n (pc := 35) hh 0 dX3_takeActual_35 rfl rfl ?_
    refine jr_get (v := .ref (h 7)) (pc := 36) hh in_X3_takeActual_X3 0 rfl rfl 2 (by decide) (by decide +kernel : Cond.fieldLink RX3 23 (TX3 2).1 (TX3 2).2.1 (TX3 2).2.2.1 ∈ wsX3_takeActual) rfl dX3_takeActual_36 ?_
    refine jr_getN (v := .ref (h 11)) (pc := 39) hh in_X3_takeActual_X1 7 rfl rfl 3 (by decide) rfl (by decide +kernel) rfl dX3_takeActual_39 ?_
    refine jr_iload_n (pc := 42) hh 1 dX3_takeActual_42 rfl rfl ?_
    refine jr_iload_n (pc := 43) hh 2 dX3_takeActual_43 rfl rfl ?_
    refine jr_callS (pc := 44) hh [.int (iI (i : Int)), .int (iI (t : Int))] [.ref (h 11)] (c_X3_cell l G i t) gX3_takeActual_X3_cell rfl (by decide) (by decide) [] [0, 1, 2, 3, 4, 5, 6, 7, 8, 9, 10, 11, 12, 13, 14, 15, 16, 17] rfl rfl rfl rfl (by decide) 2 rfl rfl (Nat.le_of_ble_eq_true rfl) (by decide +kernel) dX3_takeActual_44 (fun rvu5 wu5 hu5 => ?_)
    obtain ⟨rfl, rfl⟩ := hu5
    refine jr_perm (ws' := (wC G h F V)) (st := [.int (iI ((i * 12 + t : Nat) : Int)), .ref (h 11)]) [0, 1, 2, 3, 4, 5, 6, 7, 8, 9, 10, 11, 12, 13, 14, 15, 16, 17] rfl rfl ?_
    refine jr_ldc (z := (-1000000000)) (v := -1000000000) (pc := 47) hh (by decide) (by decide +kernel : Cond.constant RX3 117 (-1000000000) ∈ wsX3_takeActual) dX3_takeActual_47 ?_
    refine jr_iast (F := (F 8)) (ws' := (wC G h (uF F 8 (jU (F 8) (i * 12 + t) (-1000000000))) V)) (pc := 49) hh 11 rfl (i * 12 + t) (by omega) (by omega) (by decide) rfl dX3_takeActual_49 ?_
    have hk1 := okC_act hk (i * 12 + t) (Or.inl rfl)
    refine jr_aload_n (pc := 50) hh 0 dX3_takeActual_50 rfl rfl ?_
    refine jr_callV (pc := 51) hh [] [] (c_X3_reopenDrifted l G h (uF F 8 (jU (F 8) (i * 12 + t) (-1000000000))) V hk1) gX3_takeActual_X3_reopenDrifted rfl (by decide) (by decide) [0, 1, 2, 3, 4, 5, 6, 7, 8, 9, 10, 11, 12, 13, 14, 15, 16, 17] [] rfl rfl rfl rfl (by decide) 0 rfl rfl 0 rfl rfl (Nat.le_of_ble_eq_true rfl) (by decide +kernel) dX3_takeActual_51 (fun rvu6 wu6 hu6 => ?_)
    obtain ⟨rfl, F', hF', rfl⟩ := hu6
    refine jr_perm (ws' := (wC G h F' V)) (st := [.int (iI (cntC (uF F 8 (jU (F 8) (i * 12 + t) (-1000000000))) V))]) [0, 1, 2, 3, 4, 5, 6, 7, 8, 9, 10, 11, 12, 13, 14, 15, 16, 17] rfl rfl ?_
    exact jr_iret (pc := 54) hh hret rfl ⟨rfl, F', hF', rfl⟩ (by decide) (by decide) dX3_takeActual_54
  · skip
    exfalso
    omega
set_option maxRecDepth 20000 in
theorem tw_X3_takeActual_120 : ∀ w ∈ (vx_at0 RX3 120 "java/util/NoSuchElementException" ["java/lang/RuntimeException", "java/lang/Exception"]).filter goodWord, w ∈ wsX3_takeActual := by decide +kernel
set_option maxRecDepth 20000 in
theorem tb_120 : ∀ w ∈ (vx_at0 RX3 120 "java/util/NoSuchElementException" ["java/lang/RuntimeException", "java/lang/Exception"]).filter (fun w => !goodWord w), w ∈ [Cond.castable "java/util/NoSuchElementException" "java/util/NoSuchElementException", Cond.declares (Bundle.init0 "java/lang/RuntimeException"), Cond.declares (Bundle.init0 "java/lang/Exception"), Cond.declares (Bundle.init0 Bundle.tN)] := by decide +kernel
set_option maxRecDepth 20000 in
theorem tg_120 : ∀ w ∈ Cond.classLink RX3 118 "java/util/NoSuchElementException" :: Cond.initialized "java/util/NoSuchElementException" :: vx_at0 RX3 120 "java/util/NoSuchElementException" ["java/lang/RuntimeException", "java/lang/Exception"], vx_ot w = true := by decide +kernel
set_option maxHeartbeats 4000000 in
set_option maxRecDepth 100000 in
theorem t_X3_takeActual (l : Launch) (G : jG) (h : Nat → Nat) (F : Nat → Nat → Int) (V : Nat → Int) (i t : Int) (hri : jR i) (hrt : jR t) (hk : okC F V) (hcd : cdTake (V 2) i t (F 8 (i.toNat * 12 + t.toNat)) ≠ 0) (hlt : l.stackTraces = false) : jThr l yX3_takeActual wsX3_takeActual { frames := 8, cells := 1, slots := 6, locals := 520 } G (wC G h F V) [.ref (h 0), .int (iI i), .int (iI t)] (fun E w1 => ((cdTake (V 2) i t (F 8 (i.toNat * 12 + t.toNat)) = 1 ∧ E = "java/lang/IndexOutOfBoundsException") ∨ (cdTake (V 2) i t (F 8 (i.toNat * 12 + t.toNat)) = 2 ∧ E = "java/util/NoSuchElementException")) ∧ w1 = wC G h F V) := by
  refine jThr_of (cc := cX3_takeActual) (maxL := 3) (ret := (some .int)) (by decide +kernel) rfl (Nat.le_of_ble_eq_true rfl) ?_
  intro p e s m args below meth c A hh htab
  refine jr_loc (lv' := [(0, .ref (h 0)), (1, .int (iI i)), (2, .int (iI t))]) [0, 1, 2] rfl ?_
  obtain ⟨hV0, hV1, hV2, hV3, hV4, -⟩ := id hk
  have hri1 := hri.1
  have hrt1 := hrt.1
  have hri2 := hri.2
  have hrt2 := hrt.2
  refine jr_aload_n (pc := 0) hh 0 dX3_takeActual_0 rfl rfl ?_
  refine jr_iload_n (pc := 1) hh 1 dX3_takeActual_1 rfl rfl ?_
  by_cases q1 : 0 ≤ i ∧ i < V 2
  · skip
    obtain ⟨iN, rfl⟩ : ∃ k : Nat, i = (k : Int) := ⟨i.toNat, by omega⟩
    try simp only [Int.toNat_natCast] at hcd ⊢
    refine jr_callV (pc := 2) hh [.int (iI (iN : Int))] [] (c_X3_requireLine l G h F V (iN : Int) (by omega) (by omega)) gX3_takeActual_X3_requireLine rfl (by decide) (by decide) [0, 1, 2, 3, 4, 5, 6, 7, 8, 9, 10, 11, 12, 13, 14, 15, 16, 17] [] rfl rfl rfl rfl (by decide) 0 rfl rfl 1 rfl rfl (Nat.le_of_ble_eq_true rfl) (by decide +kernel) dX3_takeActual_2 (fun rvu2 wu2 hu2 => ?_)
    obtain ⟨rfl, rfl⟩ := hu2
    refine jr_perm (ws' := (wC G h F V)) (st := []) [0, 1, 2, 3, 4, 5, 6, 7, 8, 9, 10, 11, 12, 13, 14, 15, 16, 17] rfl rfl ?_
    refine jr_iload_n (pc := 5) hh 2 dX3_takeActual_5 rfl rfl ?_
    by_cases q3 : 0 ≤ t ∧ t < 12
    · skip
      obtain ⟨tN, rfl⟩ : ∃ k : Nat, t = (k : Int) := ⟨t.toNat, by omega⟩
      try simp only [Int.toNat_natCast] at hcd ⊢
      refine jr_callS (pc := 6) hh [.int (iI (tN : Int))] [] (c_X3_requireMonth l G (tN : Int) (by omega)) gX3_takeActual_X3_requireMonth rfl (by decide) (by decide) [] [0, 1, 2, 3, 4, 5, 6, 7, 8, 9, 10, 11, 12, 13, 14, 15, 16, 17] rfl rfl rfl rfl (by decide) 1 rfl rfl (Nat.le_of_ble_eq_true rfl) (by decide +kernel) dX3_takeActual_6 (fun rvu4 wu4 hu4 => ?_)
      obtain ⟨rfl, rfl⟩ := hu4
      refine jr_perm (ws' := (wC G h F V)) (st := []) [0, 1, 2, 3, 4, 5, 6, 7, 8, 9, 10, 11, 12, 13, 14, 15, 16, 17] rfl rfl ?_
      refine jr_aload_n (pc := 9) hh 0 dX3_takeActual_9 rfl rfl ?_
      refine jr_get (v := .ref (h 7)) (pc := 10) hh in_X3_takeActual_X3 0 rfl rfl 2 (by decide) (by decide +kernel : Cond.fieldLink RX3 23 (TX3 2).1 (TX3 2).2.1 (TX3 2).2.2.1 ∈ wsX3_takeActual) rfl dX3_takeActual_10 ?_
      refine jr_getN (v := .ref (h 11)) (pc := 13) hh in_X3_takeActual_X1 7 rfl rfl 3 (by decide) rfl (by decide +kernel) rfl dX3_takeActual_13 ?_
      refine jr_iload_n (pc := 16) hh 1 dX3_takeActual_16 rfl rfl ?_
      refine jr_iload_n (pc := 17) hh 2 dX3_takeActual_17 rfl rfl ?_
      refine jr_callS (pc := 18) hh [.int (iI (iN : Int)), .int (iI (tN : Int))] [.ref (h 11)] (c_X3_cell l G iN tN) gX3_takeActual_X3_cell rfl (by decide) (by decide) [] [0, 1, 2, 3, 4, 5, 6, 7, 8, 9, 10, 11, 12, 13, 14, 15, 16, 17] rfl rfl rfl rfl (by decide) 2 rfl rfl (Nat.le_of_ble_eq_true rfl) (by decide +kernel) dX3_takeActual_18 (fun rvu5 wu5 hu5 => ?_)
      obtain ⟨rfl, rfl⟩ := hu5
      refine jr_perm (ws' := (wC G h F V)) (st := [.int (iI ((iN * 12 + tN : Nat) : Int)), .ref (h 11)]) [0, 1, 2, 3, 4, 5, 6, 7, 8, 9, 10, 11, 12, 13, 14, 15, 16, 17] rfl rfl ?_
      have hac := hk.2.2.2.2.2.2.2.2.2.1 (iN * 12 + tN) (by omega)
      refine jr_iald (F := (F 8)) (pc := 21) hh 11 rfl (iN * 12 + tN) (by omega) (by omega) (by decide) dX3_takeActual_21 ?_
      refine jr_ldc (z := (-1000000000)) (v := -1000000000) (pc := 22) hh (by decide) (by decide +kernel : Cond.constant RX3 117 (-1000000000) ∈ wsX3_takeActual) dX3_takeActual_22 ?_
      refine jr_icmp_ne (tgt := 35) (pc := 24) hh dX3_takeActual_24 (by decide) ⟨by omega, by omega⟩ ⟨by omega, by omega⟩ (fun c6 => ?_) (fun c6 => ?_)
      · skip
        exfalso
        unfold cdTake at hcd
        omega
      · skip
        exact jr_throw (pc := 27) hh hlt htab (cls := "java/util/NoSuchElementException") (names := ["java/lang/RuntimeException", "java/lang/Exception"]) (by decide +kernel) (by decide +kernel) (by decide +kernel) (by decide +kernel) tw_X3_takeActual_120 tb_120 (by decide) tg_120 dX3_takeActual_27 dX3_takeActual_30 dX3_takeActual_31 dX3_takeActual_34 ⟨Nat.le_of_ble_eq_true rfl, Nat.le_of_ble_eq_true rfl, Nat.le_of_ble_eq_true rfl, Nat.le_of_ble_eq_true rfl⟩ (Nat.le_of_ble_eq_true rfl) (Nat.le_of_ble_eq_true rfl) ⟨Or.inr (⟨by unfold cdTake; omega, rfl⟩), rfl⟩
    · skip
      exact jr_tcallS (pc := 6) hh [.int (iI t)] [] (t_X3_requireMonth l G t ⟨by omega, by omega⟩ (by omega) hlt) gX3_takeActual_X3_requireMonth rfl (by decide) (by decide) [] [0, 1, 2, 3, 4, 5, 6, 7, 8, 9, 10, 11, 12, 13, 14, 15, 16, 17] rfl rfl rfl rfl (by decide) 1 rfl rfl (Nat.le_of_ble_eq_true rfl) (by decide +kernel) (fun E w1 hx => by obtain ⟨rfl, rfl⟩ := hx; exact ⟨Or.inl ⟨by unfold cdTake; omega, rfl⟩, rfl⟩) htab (by decide) (by decide) dX3_takeActual_6
  · skip
    exact jr_tcallV (pc := 2) hh [.int (iI i)] [] (t_X3_requireLine l G h F V i ⟨by omega, by omega⟩ q1 (by omega) hlt) gX3_takeActual_X3_requireLine rfl (by decide) (by decide) [0, 1, 2, 3, 4, 5, 6, 7, 8, 9, 10, 11, 12, 13, 14, 15, 16, 17] [] rfl rfl rfl rfl (by decide) 0 rfl rfl 1 rfl rfl (Nat.le_of_ble_eq_true rfl) (by decide +kernel) (fun E w1 hx => by obtain ⟨rfl, rfl⟩ := hx; exact ⟨Or.inl ⟨by unfold cdTake; omega, rfl⟩, rfl⟩) htab (by decide) (by decide) dX3_takeActual_2
set_option maxRecDepth 20000 in
theorem in_X3_state_X3 : ∀ w ∈ u_ws RX3 TX3 7, w ∈ wsX3_state := by decide +kernel
set_option maxRecDepth 20000 in
theorem in_X3_state_X0 : ∀ w ∈ u_ws RX0 TX0 3, w ∈ wsX3_state := by decide +kernel
set_option maxHeartbeats 4000000 in
set_option maxRecDepth 100000 in
theorem c_X3_state (l : Launch) (G : jG) (h : Nat → Nat) (F : Nat → Nat → Int) (V : Nat → Int) (i t : Nat) (hk : okC F V) (hi : (i : Int) < V 2) (ht : t < 12) : jMet l yX3_state wsX3_state { frames := 7, cells := 0, slots := 0, locals := 400 } G (wC G h F V) [.ref (h 0), .int (iI (i : Int)), .int (iI (t : Int))] (fun rv w1 => rv = some (.int (iI (F 11 (i * 12 + t)))) ∧ w1 = wC G h F V) := by
  refine jMet_of (cc := cX3_state) (maxL := 3) (ret := (some .char)) (by decide +kernel) rfl (Nat.le_of_ble_eq_true rfl) ?_
  intro p e s m args below meth c A hh hret hinit
  refine jr_loc (lv' := [(0, .ref (h 0)), (1, .int (iI (i : Int))), (2, .int (iI (t : Int)))]) [0, 1, 2] rfl ?_
  obtain ⟨hV0, hV1, hV2, hV3, hV4, -⟩ := id hk
  refine jr_aload_n (pc := 0) hh 0 dX3_state_0 rfl rfl ?_
  refine jr_iload_n (pc := 1) hh 1 dX3_state_1 rfl rfl ?_
  refine jr_callV (pc := 2) hh [.int (iI (i : Int))] [] (c_X3_requireLine l G h F V (i : Int) (by omega) (by omega)) gX3_state_X3_requireLine rfl (by decide) (by decide) [0, 1, 2, 3, 4, 5, 6, 7, 8, 9, 10, 11, 12, 13, 14, 15, 16, 17] [] rfl rfl rfl rfl (by decide) 0 rfl rfl 1 rfl rfl (Nat.le_of_ble_eq_true rfl) (by decide +kernel) dX3_state_2 (fun rvu1 wu1 hu1 => ?_)
  obtain ⟨rfl, rfl⟩ := hu1
  refine jr_perm (ws' := (wC G h F V)) (st := []) [0, 1, 2, 3, 4, 5, 6, 7, 8, 9, 10, 11, 12, 13, 14, 15, 16, 17] rfl rfl ?_
  refine jr_iload_n (pc := 5) hh 2 dX3_state_5 rfl rfl ?_
  refine jr_callS (pc := 6) hh [.int (iI (t : Int))] [] (c_X3_requireMonth l G (t : Int) (by omega)) gX3_state_X3_requireMonth rfl (by decide) (by decide) [] [0, 1, 2, 3, 4, 5, 6, 7, 8, 9, 10, 11, 12, 13, 14, 15, 16, 17] rfl rfl rfl rfl (by decide) 1 rfl rfl (Nat.le_of_ble_eq_true rfl) (by decide +kernel) dX3_state_6 (fun rvu2 wu2 hu2 => ?_)
  obtain ⟨rfl, rfl⟩ := hu2
  refine jr_perm (ws' := (wC G h F V)) (st := []) [0, 1, 2, 3, 4, 5, 6, 7, 8, 9, 10, 11, 12, 13, 14, 15, 16, 17] rfl rfl ?_
  refine jr_aload_n (pc := 9) hh 0 dX3_state_9 rfl rfl ?_
  refine jr_get (v := .ref (h 14)) (pc := 10) hh in_X3_state_X3 0 rfl rfl 3 (by decide) (by decide +kernel : Cond.fieldLink RX3 30 (TX3 3).1 (TX3 3).2.1 (TX3 3).2.2.1 ∈ wsX3_state) rfl dX3_state_10 ?_
  refine jr_getN (v := .ref (h 15)) (pc := 13) hh in_X3_state_X0 14 rfl rfl 0 (by decide) rfl (by decide +kernel) rfl dX3_state_13 ?_
  refine jr_iload_n (pc := 16) hh 1 dX3_state_16 rfl rfl ?_
  refine jr_iload_n (pc := 17) hh 2 dX3_state_17 rfl rfl ?_
  refine jr_callS (pc := 18) hh [.int (iI (i : Int)), .int (iI (t : Int))] [.ref (h 15)] (c_X3_cell l G i t) gX3_state_X3_cell rfl (by decide) (by decide) [] [0, 1, 2, 3, 4, 5, 6, 7, 8, 9, 10, 11, 12, 13, 14, 15, 16, 17] rfl rfl rfl rfl (by decide) 2 rfl rfl (Nat.le_of_ble_eq_true rfl) (by decide +kernel) dX3_state_18 (fun rvu3 wu3 hu3 => ?_)
  obtain ⟨rfl, rfl⟩ := hu3
  refine jr_perm (ws' := (wC G h F V)) (st := [.int (iI ((i * 12 + t : Nat) : Int)), .ref (h 15)]) [0, 1, 2, 3, 4, 5, 6, 7, 8, 9, 10, 11, 12, 13, 14, 15, 16, 17] rfl rfl ?_
  have hst := (hk.2.2.2.2.2.2.2.2.2.2.2 (i * 12 + t) (by omega)).1
  refine jr_cald (F := (F 11)) (pc := 21) hh 15 rfl (i * 12 + t) (by omega) (by omega) (by decide) dX3_state_21 ?_
  exact jr_iret (pc := 22) hh hret (jnarC ⟨by omega, by omega⟩) ⟨rfl, rfl⟩ (by decide) (by decide) dX3_state_22
set_option maxHeartbeats 4000000 in
set_option maxRecDepth 100000 in
theorem t_X3_state (l : Launch) (G : jG) (h : Nat → Nat) (F : Nat → Nat → Int) (V : Nat → Int) (i t : Int) (hri : jR i) (hrt : jR t) (hk : okC F V) (hcd : cdState (V 2) i t ≠ 0) (hlt : l.stackTraces = false) : jThr l yX3_state wsX3_state { frames := 8, cells := 1, slots := 6, locals := 520 } G (wC G h F V) [.ref (h 0), .int (iI i), .int (iI t)] (fun E w1 => ((cdState (V 2) i t = 1 ∧ E = "java/lang/IndexOutOfBoundsException")) ∧ w1 = wC G h F V) := by
  refine jThr_of (cc := cX3_state) (maxL := 3) (ret := (some .char)) (by decide +kernel) rfl (Nat.le_of_ble_eq_true rfl) ?_
  intro p e s m args below meth c A hh htab
  refine jr_loc (lv' := [(0, .ref (h 0)), (1, .int (iI i)), (2, .int (iI t))]) [0, 1, 2] rfl ?_
  obtain ⟨hV0, hV1, hV2, hV3, hV4, -⟩ := id hk
  have hri1 := hri.1
  have hrt1 := hrt.1
  have hri2 := hri.2
  have hrt2 := hrt.2
  refine jr_aload_n (pc := 0) hh 0 dX3_state_0 rfl rfl ?_
  refine jr_iload_n (pc := 1) hh 1 dX3_state_1 rfl rfl ?_
  by_cases q1 : 0 ≤ i ∧ i < V 2
  · skip
    obtain ⟨iN, rfl⟩ : ∃ k : Nat, i = (k : Int) := ⟨i.toNat, by omega⟩
    refine jr_callV (pc := 2) hh [.int (iI (iN : Int))] [] (c_X3_requireLine l G h F V (iN : Int) (by omega) (by omega)) gX3_state_X3_requireLine rfl (by decide) (by decide) [0, 1, 2, 3, 4, 5, 6, 7, 8, 9, 10, 11, 12, 13, 14, 15, 16, 17] [] rfl rfl rfl rfl (by decide) 0 rfl rfl 1 rfl rfl (Nat.le_of_ble_eq_true rfl) (by decide +kernel) dX3_state_2 (fun rvu2 wu2 hu2 => ?_)
    obtain ⟨rfl, rfl⟩ := hu2
    refine jr_perm (ws' := (wC G h F V)) (st := []) [0, 1, 2, 3, 4, 5, 6, 7, 8, 9, 10, 11, 12, 13, 14, 15, 16, 17] rfl rfl ?_
    refine jr_iload_n (pc := 5) hh 2 dX3_state_5 rfl rfl ?_
    by_cases q3 : 0 ≤ t ∧ t < 12
    · skip
      obtain ⟨tN, rfl⟩ : ∃ k : Nat, t = (k : Int) := ⟨t.toNat, by omega⟩
      refine jr_callS (pc := 6) hh [.int (iI (tN : Int))] [] (c_X3_requireMonth l G (tN : Int) (by omega)) gX3_state_X3_requireMonth rfl (by decide) (by decide) [] [0, 1, 2, 3, 4, 5, 6, 7, 8, 9, 10, 11, 12, 13, 14, 15, 16, 17] rfl rfl rfl rfl (by decide) 1 rfl rfl (Nat.le_of_ble_eq_true rfl) (by decide +kernel) dX3_state_6 (fun rvu4 wu4 hu4 => ?_)
      obtain ⟨rfl, rfl⟩ := hu4
      refine jr_perm (ws' := (wC G h F V)) (st := []) [0, 1, 2, 3, 4, 5, 6, 7, 8, 9, 10, 11, 12, 13, 14, 15, 16, 17] rfl rfl ?_
      exfalso
      unfold cdState at hcd
      omega
    · skip
      exact jr_tcallS (pc := 6) hh [.int (iI t)] [] (t_X3_requireMonth l G t ⟨by omega, by omega⟩ (by omega) hlt) gX3_state_X3_requireMonth rfl (by decide) (by decide) [] [0, 1, 2, 3, 4, 5, 6, 7, 8, 9, 10, 11, 12, 13, 14, 15, 16, 17] rfl rfl rfl rfl (by decide) 1 rfl rfl (Nat.le_of_ble_eq_true rfl) (by decide +kernel) (fun E w1 hx => by obtain ⟨rfl, rfl⟩ := hx; exact ⟨⟨by unfold cdState; omega, rfl⟩, rfl⟩) htab (by decide) (by decide) dX3_state_6
  · skip
    exact jr_tcallV (pc := 2) hh [.int (iI i)] [] (t_X3_requireLine l G h F V i ⟨by omega, by omega⟩ q1 (by omega) hlt) gX3_state_X3_requireLine rfl (by decide) (by decide) [0, 1, 2, 3, 4, 5, 6, 7, 8, 9, 10, 11, 12, 13, 14, 15, 16, 17] [] rfl rfl rfl rfl (by decide) 0 rfl rfl 1 rfl rfl (Nat.le_of_ble_eq_true rfl) (by decide +kernel) (fun E w1 hx => by obtain ⟨rfl, rfl⟩ := hx; exact ⟨⟨by unfold cdState; omega, rfl⟩, rfl⟩) htab (by decide) (by decide) dX3_state_2
set_option maxRecDepth 20000 in
theorem in_X3_approve_X3 : ∀ w ∈ u_ws RX3 TX3 7, w ∈ wsX3_approve := by decide +kernel
set_option maxHeartbeats 4000000 in
set_option maxRecDepth 100000 in
theorem c_X3_approve (l : Launch) (G : jG) (h : Nat → Nat) (F : Nat → Nat → Int) (V : Nat → Int) (i t : Nat) (tol : Int) (hk : okC F V) (hi : (i : Int) < V 2) (ht : t < 12) (htol : 0 ≤ tol ∧ tol ≤ 9999) (hx : (enc (nmC F 0 t 6 i)) ≠ -1000000000) : jMet l yX3_approve wsX3_approve { frames := 7, cells := 0, slots := 0, locals := 400 } G (wC G h F V) [.ref (h 0), .int (iI (i : Int)), .int (iI (t : Int)), .int (iI tol)] (fun rv w1 => rv = some (.int (iI (enc (nmC F 0 t 6 i)))) ∧ ∃ F' : Nat → Nat → Int, scr F F' ∧ w1 = wC G h (uF (uF (uF F' 11 (jU (F' 11) (i * 12 + t) 97)) 12 (jU (F' 12) (i * 12 + t) (enc (nmC F 0 t 6 i)))) 13 (jU (F' 13) (i * 12 + t) tol)) V) := by
  refine jMet_of (cc := cX3_approve) (maxL := 5) (ret := (some .int)) (by decide +kernel) rfl (Nat.le_of_ble_eq_true rfl) ?_
  intro p e s m args below meth c A hh hret hinit
  refine jr_loc (lv' := [(0, .ref (h 0)), (1, .int (iI (i : Int))), (2, .int (iI (t : Int))), (3, .int (iI tol))]) [0, 1, 2, 3] rfl ?_
  obtain ⟨hV0, hV1, hV2, hV3, hV4, -⟩ := id hk
  refine jr_aload_n (pc := 0) hh 0 dX3_approve_0 rfl rfl ?_
  refine jr_iload_n (pc := 1) hh 1 dX3_approve_1 rfl rfl ?_
  refine jr_callV (pc := 2) hh [.int (iI (i : Int))] [] (c_X3_requireLine l G h F V (i : Int) (by omega) (by omega)) gX3_approve_X3_requireLine rfl (by decide) (by decide) [0, 1, 2, 3, 4, 5, 6, 7, 8, 9, 10, 11, 12, 13, 14, 15, 16, 17] [] rfl rfl rfl rfl (by decide) 0 rfl rfl 1 rfl rfl (Nat.le_of_ble_eq_true rfl) (by decide +kernel) dX3_approve_2 (fun rvu1 wu1 hu1 => ?_)
  obtain ⟨rfl, rfl⟩ := hu1
  refine jr_perm (ws' := (wC G h F V)) (st := []) [0, 1, 2, 3, 4, 5, 6, 7, 8, 9, 10, 11, 12, 13, 14, 15, 16, 17] rfl rfl ?_
  refine jr_iload_n (pc := 5) hh 2 dX3_approve_5 rfl rfl ?_
  refine jr_callS (pc := 6) hh [.int (iI (t : Int))] [] (c_X3_requireMonth l G (t : Int) (by omega)) gX3_approve_X3_requireMonth rfl (by decide) (by decide) [] [0, 1, 2, 3, 4, 5, 6, 7, 8, 9, 10, 11, 12, 13, 14, 15, 16, 17] rfl rfl rfl rfl (by decide) 1 rfl rfl (Nat.le_of_ble_eq_true rfl) (by decide +kernel) dX3_approve_6 (fun rvu2 wu2 hu2 => ?_)
  obtain ⟨rfl, rfl⟩ := hu2
  refine jr_perm (ws' := (wC G h F V)) (st := []) [0, 1, 2, 3, 4, 5, 6, 7, 8, 9, 10, 11, 12, 13, 14, 15, 16, 17] rfl rfl ?_
  refine jr_iload_n (pc := 9) hh 3 dX3_approve_9 rfl rfl ?_
  refine jr_if_lt (tgt := 20) (pc := 10) hh dX3_approve_10 (by decide) ⟨by omega, by omega⟩ (fun c3 => ?_) (fun c3 => ?_)
  · skip
    exfalso
    omega
  · skip
    refine jr_iload_n (pc := 13) hh 3 dX3_approve_13 rfl rfl ?_
    refine jr_sipush (pc := 14) hh dX3_approve_14 (by decide) ?_
    refine jr_icmp_le (tgt := 28) (pc := 17) hh dX3_approve_17 (by decide) ⟨by omega, by omega⟩ ⟨by omega, by omega⟩ (fun c4 => ?_) (fun c4 => ?_)
    · skip
      refine jr_aload_n (pc := 28) hh 0 dX3_approve_28 rfl rfl ?_
      refine jr_iconst (pc := 29) hh dX3_approve_29 ?_
      refine jr_iload_n (pc := 30) hh 1 dX3_approve_30 rfl rfl ?_
      refine jr_iload_n (pc := 31) hh 2 dX3_approve_31 rfl rfl ?_
      refine jr_bipush (pc := 32) hh dX3_approve_32 (by decide) ?_
      refine jr_callV (pc := 34) hh [.int (iI 0), .int (iI (i : Int)), .int (iI (t : Int)), .int (iI 6)] [] (c_X3_numberIn l G h F V 0 i t 6 hk (by omega) (by omega) (by omega) (by omega)) gX3_approve_X3_numberIn rfl (by decide) (by decide) [0, 1, 2, 3, 4, 5, 6, 7, 8, 9, 10, 11, 12, 13, 14, 15, 16, 17] [] rfl rfl rfl rfl (by decide) 0 rfl rfl 4 rfl rfl (Nat.le_of_ble_eq_true rfl) (by decide +kernel) dX3_approve_34 (fun rvu6 wu6 hu6 => ?_)
      obtain ⟨rfl, Fz5, hFz5, rfl⟩ := hu6
      refine jr_perm (ws' := (wC G h Fz5 V)) (st := [.int (iI (enc (nmC F 0 t 6 i)))]) [0, 1, 2, 3, 4, 5, 6, 7, 8, 9, 10, 11, 12, 13, 14, 15, 16, 17] rfl rfl ?_
      have hnrFz5 := enc_range (nmC_B hk (s := 0) (i := i) (m := t) (cd := 6) (by omega) (by omega) (by omega))
      refine jr_callS (pc := 37) hh [.int (iI (enc (nmC F 0 t 6 i)))] [] (c_X3_required l G (enc (nmC F 0 t 6 i)) hx ⟨by omega, by omega⟩) gX3_approve_X3_required rfl (by decide) (by decide) [] [0, 1, 2, 3, 4, 5, 6, 7, 8, 9, 10, 11, 12, 13, 14, 15, 16, 17] rfl rfl rfl rfl (by decide) 1 rfl rfl (Nat.le_of_ble_eq_true rfl) (by decide +kernel) dX3_approve_37 (fun rvu7 wu7 hu7 => ?_)
      obtain ⟨rfl, rfl⟩ := hu7
      refine jr_perm (ws' := (wC G h Fz5 V)) (st := [.int (iI (enc (nmC F 0 t 6 i)))]) [0, 1, 2, 3, 4, 5, 6, 7, 8, 9, 10, 11, 12, 13, 14, 15, 16, 17] rfl rfl ?_
      refine jr_istore (lv' := [(4, .int (iI (enc (nmC F 0 t 6 i)))), (0, .ref (h 0)), (1, .int (iI (i : Int))), (2, .int (iI (t : Int))), (3, .int (iI tol))]) (pc := 40) hh dX3_approve_40 (by decide) rfl ?_
      refine jr_aload_n (pc := 42) hh 1 dX3_approve_42 rfl rfl ?_
      refine jr_get (v := .ref (h 14)) (pc := 43) hh in_X3_approve_X3 0 rfl rfl 3 (by decide) (by decide +kernel : Cond.fieldLink RX3 30 (TX3 3).1 (TX3 3).2.1 (TX3 3).2.2.1 ∈ wsX3_approve) rfl dX3_approve_43 ?_
      refine jr_iload_n (pc := 46) hh 2 dX3_approve_46 rfl rfl ?_
      refine jr_iload_n (pc := 47) hh 3 dX3_approve_47 rfl rfl ?_
      refine jr_callS (pc := 48) hh [.int (iI (i : Int)), .int (iI (t : Int))] [.ref (h 14)] (c_X3_cell l G i t) gX3_approve_X3_cell rfl (by decide) (by decide) [] [0, 1, 2, 3, 4, 5, 6, 7, 8, 9, 10, 11, 12, 13, 14, 15, 16, 17] rfl rfl rfl rfl (by decide) 2 rfl rfl (Nat.le_of_ble_eq_true rfl) (by decide +kernel) dX3_approve_48 (fun rvu8 wu8 hu8 => ?_)
      obtain ⟨rfl, rfl⟩ := hu8
      refine jr_perm (ws' := (wC G h Fz5 V)) (st := [.int (iI ((i * 12 + t : Nat) : Int)), .ref (h 14)]) [0, 1, 2, 3, 4, 5, 6, 7, 8, 9, 10, 11, 12, 13, 14, 15, 16, 17] rfl rfl ?_
      refine jr_iload (pc := 51) hh 0 dX3_approve_51 rfl ?_
      refine jr_iload_n (pc := 53) hh 4 dX3_approve_53 rfl rfl ?_
      refine jr_callVN (pc := 54) hh [.int (iI ((i * 12 + t : Nat) : Int)), .int (iI (enc (nmC F 0 t 6 i))), .int (iI tol)] [] (c_X0_keep l G (fun k => h (14 + k)) (fun k => Fz5 (11 + k)) (i * 12 + t) (enc (nmC F 0 t 6 i)) tol (by omega)) gX3_approve_X0_keep_n133 rfl (by decide +kernel) (by decide +kernel) (by decide +kernel) (by decide +kernel) (by decide) (by decide) [14, 15, 16, 17] [0, 1, 2, 3, 4, 5, 6, 7, 8, 9, 10, 11, 12, 13] rfl rfl rfl rfl (by decide) 0 rfl rfl 3 rfl rfl (Nat.le_of_ble_eq_true rfl) (by decide +kernel) dX3_approve_54 (fun rvu9 wu9 hu9 => ?_)
      obtain ⟨rfl, rfl⟩ := hu9
      refine jr_perm (ws' := (wC G h (uF (uF (uF Fz5 11 (jU (Fz5 11) ((i * 12 + t)) 97)) 12 (jU (Fz5 12) ((i * 12 + t)) (enc (nmC F 0 t 6 i)))) 13 (jU (Fz5 13) ((i * 12 + t)) tol)) V)) (st := []) [0, 1, 2, 3, 4, 5, 6, 7, 8, 9, 10, 11, 12, 13, 14, 15, 16, 17] rfl rfl ?_
      refine jr_iload (pc := 57) hh 0 dX3_approve_57 rfl ?_
      exact jr_iret (pc := 59) hh hret rfl ⟨rfl, Fz5, hFz5, rfl⟩ (by decide) (by decide) dX3_approve_59
    · skip
      exfalso
      omega
set_option maxRecDepth 20000 in
theorem tw_X3_approve_67 : ∀ w ∈ (vx_at0 RX3 67 "java/lang/IllegalArgumentException" ["java/lang/RuntimeException", "java/lang/Exception"]).filter goodWord, w ∈ wsX3_approve := by decide +kernel
set_option maxHeartbeats 4000000 in
set_option maxRecDepth 100000 in
theorem t_X3_approve (l : Launch) (G : jG) (h : Nat → Nat) (F : Nat → Nat → Int) (V : Nat → Int) (i t tol : Int) (hri : jR i) (hrt : jR t) (hrtol : jR tol) (hk : okC F V) (hcd : cdApprove (V 2) i t tol (enc (nmC F 0 t.toNat 6 i.toNat)) ≠ 0) (hlt : l.stackTraces = false) : jThr l yX3_approve wsX3_approve { frames := 8, cells := 1, slots := 6, locals := 520 } G (wC G h F V) [.ref (h 0), .int (iI i), .int (iI t), .int (iI tol)] (fun E w1 => ((cdApprove (V 2) i t tol (enc (nmC F 0 t.toNat 6 i.toNat)) = 1 ∧ E = "java/lang/IndexOutOfBoundsException") ∨ (cdApprove (V 2) i t tol (enc (nmC F 0 t.toNat 6 i.toNat)) = 2 ∧ E = "java/lang/IllegalArgumentException") ∨ (cdApprove (V 2) i t tol (enc (nmC F 0 t.toNat 6 i.toNat)) = 3 ∧ E = "java/lang/UnsupportedOperationException")) ∧ ∃ F' : Nat → Nat → Int, scr F F' ∧ w1 = wC G h F' V) := by
  refine jThr_of (cc := cX3_approve) (maxL := 5) (ret := (some .int)) (by decide +kernel) rfl (Nat.le_of_ble_eq_true rfl) ?_
  intro p e s m args below meth c A hh htab
  refine jr_loc (lv' := [(0, .ref (h 0)), (1, .int (iI i)), (2, .int (iI t)), (3, .int (iI tol))]) [0, 1, 2, 3] rfl ?_
  obtain ⟨hV0, hV1, hV2, hV3, hV4, -⟩ := id hk
  have hri1 := hri.1
  have hrt1 := hrt.1
  have hrtol1 := hrtol.1
  have hri2 := hri.2
  have hrt2 := hrt.2
  have hrtol2 := hrtol.2
  refine jr_aload_n (pc := 0) hh 0 dX3_approve_0 rfl rfl ?_
  refine jr_iload_n (pc := 1) hh 1 dX3_approve_1 rfl rfl ?_
  by_cases q1 : 0 ≤ i ∧ i < V 2
  · skip
    obtain ⟨iN, rfl⟩ : ∃ k : Nat, i = (k : Int) := ⟨i.toNat, by omega⟩
    try simp only [Int.toNat_natCast] at hcd ⊢
    refine jr_callV (pc := 2) hh [.int (iI (iN : Int))] [] (c_X3_requireLine l G h F V (iN : Int) (by omega) (by omega)) gX3_approve_X3_requireLine rfl (by decide) (by decide) [0, 1, 2, 3, 4, 5, 6, 7, 8, 9, 10, 11, 12, 13, 14, 15, 16, 17] [] rfl rfl rfl rfl (by decide) 0 rfl rfl 1 rfl rfl (Nat.le_of_ble_eq_true rfl) (by decide +kernel) dX3_approve_2 (fun rvu2 wu2 hu2 => ?_)
    obtain ⟨rfl, rfl⟩ := hu2
    refine jr_perm (ws' := (wC G h F V)) (st := []) [0, 1, 2, 3, 4, 5, 6, 7, 8, 9, 10, 11, 12, 13, 14, 15, 16, 17] rfl rfl ?_
    refine jr_iload_n (pc := 5) hh 2 dX3_approve_5 rfl rfl ?_
    by_cases q3 : 0 ≤ t ∧ t < 12
    · skip
      obtain ⟨tN, rfl⟩ : ∃ k : Nat, t = (k : Int) := ⟨t.toNat, by omega⟩
      try simp only [Int.toNat_natCast] at hcd ⊢
      refine jr_callS (pc := 6) hh [.int (iI (tN : Int))] [] (c_X3_requireMonth l G (tN : Int) (by omega)) gX3_approve_X3_requireMonth rfl (by decide) (by decide) [] [0, 1, 2, 3, 4, 5, 6, 7, 8, 9, 10, 11, 12, 13, 14, 15, 16, 17] rfl rfl rfl rfl (by decide) 1 rfl rfl (Nat.le_of_ble_eq_true rfl) (by decide +kernel) dX3_approve_6 (fun rvu4 wu4 hu4 => ?_)
      obtain ⟨rfl, rfl⟩ := hu4
      refine jr_perm (ws' := (wC G h F V)) (st := []) [0, 1, 2, 3, 4, 5, 6, 7, 8, 9, 10, 11, 12, 13, 14, 15, 16, 17] rfl rfl ?_
      refine jr_iload_n (pc := 9) hh 3 dX3_approve_9 rfl rfl ?_
      refine jr_if_lt (tgt := 20) (pc := 10) hh dX3_approve_10 (by decide) ⟨by omega, by omega⟩ (fun c5 => ?_) (fun c5 => ?_)
      · skip
        exact jr_throw (pc := 20) hh hlt htab (cls := "java/lang/IllegalArgumentException") (names := ["java/lang/RuntimeException", "java/lang/Exception"]) (by decide +kernel) (by decide +kernel) (by decide +kernel) (by decide +kernel) tw_X3_approve_67 tb_67 (by decide) tg_67 dX3_approve_20 dX3_approve_23 dX3_approve_24 dX3_approve_27 ⟨Nat.le_of_ble_eq_true rfl, Nat.le_of_ble_eq_true rfl, Nat.le_of_ble_eq_true rfl, Nat.le_of_ble_eq_true rfl⟩ (Nat.le_of_ble_eq_true rfl) (Nat.le_of_ble_eq_true rfl) ⟨Or.inr (Or.inl ⟨by unfold cdApprove; omega, rfl⟩), F, scr_rf hk, rfl⟩
      · skip
        refine jr_iload_n (pc := 13) hh 3 dX3_approve_13 rfl rfl ?_
        refine jr_sipush (pc := 14) hh dX3_approve_14 (by decide) ?_
        refine jr_icmp_le (tgt := 28) (pc := 17) hh dX3_approve_17 (by decide) ⟨by omega, by omega⟩ ⟨by omega, by omega⟩ (fun c6 => ?_) (fun c6 => ?_)
        · skip
          refine jr_aload_n (pc := 28) hh 0 dX3_approve_28 rfl rfl ?_
          refine jr_iconst (pc := 29) hh dX3_approve_29 ?_
          refine jr_iload_n (pc := 30) hh 1 dX3_approve_30 rfl rfl ?_
          refine jr_iload_n (pc := 31) hh 2 dX3_approve_31 rfl rfl ?_
          refine jr_bipush (pc := 32) hh dX3_approve_32 (by decide) ?_
          refine jr_callV (pc := 34) hh [.int (iI 0), .int (iI (iN : Int)), .int (iI (tN : Int)), .int (iI 6)] [] (c_X3_numberIn l G h F V 0 iN tN 6 hk (by omega) (by omega) (by omega) (by omega)) gX3_approve_X3_numberIn rfl (by decide) (by decide) [0, 1, 2, 3, 4, 5, 6, 7, 8, 9, 10, 11, 12, 13, 14, 15, 16, 17] [] rfl rfl rfl rfl (by decide) 0 rfl rfl 4 rfl rfl (Nat.le_of_ble_eq_true rfl) (by decide +kernel) dX3_approve_34 (fun rvu8 wu8 hu8 => ?_)
          obtain ⟨rfl, Fz7, hFz7, rfl⟩ := hu8
          refine jr_perm (ws' := (wC G h Fz7 V)) (st := [.int (iI (enc (nmC F 0 tN 6 iN)))]) [0, 1, 2, 3, 4, 5, 6, 7, 8, 9, 10, 11, 12, 13, 14, 15, 16, 17] rfl rfl ?_
          have hnrFz7 := enc_range (nmC_B hk (s := 0) (i := iN) (m := tN) (cd := 6) (by omega) (by omega) (by omega))
          by_cases q9 : (enc (nmC F 0 tN 6 iN)) = -1000000000
          · skip
            refine jr_topi q9 ?_
            exact jr_tcallS (pc := 37) hh [.int (iI (-1000000000))] [] (t_X3_required l G hlt) gX3_approve_X3_required rfl (by decide) (by decide) [] [0, 1, 2, 3, 4, 5, 6, 7, 8, 9, 10, 11, 12, 13, 14, 15, 16, 17] rfl rfl rfl rfl (by decide) 1 rfl rfl (Nat.le_of_ble_eq_true rfl) (by decide +kernel) (fun E w1 hx => by obtain ⟨rfl, rfl⟩ := hx; exact ⟨Or.inr (Or.inr (⟨by unfold cdApprove; omega, rfl⟩)), Fz7, hFz7, rfl⟩) htab (by decide) (by decide) dX3_approve_37
          · skip
            refine jr_callS (pc := 37) hh [.int (iI (enc (nmC F 0 tN 6 iN)))] [] (c_X3_required l G (enc (nmC F 0 tN 6 iN)) q9 ⟨by omega, by omega⟩) gX3_approve_X3_required rfl (by decide) (by decide) [] [0, 1, 2, 3, 4, 5, 6, 7, 8, 9, 10, 11, 12, 13, 14, 15, 16, 17] rfl rfl rfl rfl (by decide) 1 rfl rfl (Nat.le_of_ble_eq_true rfl) (by decide +kernel) dX3_approve_37 (fun rvu11 wu11 hu11 => ?_)
            obtain ⟨rfl, rfl⟩ := hu11
            refine jr_perm (ws' := (wC G h Fz7 V)) (st := [.int (iI (enc (nmC F 0 tN 6 iN)))]) [0, 1, 2, 3, 4, 5, 6, 7, 8, 9, 10, 11, 12, 13, 14, 15, 16, 17] rfl rfl ?_
            exfalso
            unfold cdApprove at hcd
            omega
        · skip
          exact jr_throw (pc := 20) hh hlt htab (cls := "java/lang/IllegalArgumentException") (names := ["java/lang/RuntimeException", "java/lang/Exception"]) (by decide +kernel) (by decide +kernel) (by decide +kernel) (by decide +kernel) tw_X3_approve_67 tb_67 (by decide) tg_67 dX3_approve_20 dX3_approve_23 dX3_approve_24 dX3_approve_27 ⟨Nat.le_of_ble_eq_true rfl, Nat.le_of_ble_eq_true rfl, Nat.le_of_ble_eq_true rfl, Nat.le_of_ble_eq_true rfl⟩ (Nat.le_of_ble_eq_true rfl) (Nat.le_of_ble_eq_true rfl) ⟨Or.inr (Or.inl ⟨by unfold cdApprove; omega, rfl⟩), F, scr_rf hk, rfl⟩
    · skip
      exact jr_tcallS (pc := 6) hh [.int (iI t)] [] (t_X3_requireMonth l G t ⟨by omega, by omega⟩ (by omega) hlt) gX3_approve_X3_requireMonth rfl (by decide) (by decide) [] [0, 1, 2, 3, 4, 5, 6, 7, 8, 9, 10, 11, 12, 13, 14, 15, 16, 17] rfl rfl rfl rfl (by decide) 1 rfl rfl (Nat.le_of_ble_eq_true rfl) (by decide +kernel) (fun E w1 hx => by obtain ⟨rfl, rfl⟩ := hx; exact ⟨Or.inl ⟨by unfold cdApprove; omega, rfl⟩, F, scr_rf hk, rfl⟩) htab (by decide) (by decide) dX3_approve_6
  · skip
    exact jr_tcallV (pc := 2) hh [.int (iI i)] [] (t_X3_requireLine l G h F V i ⟨by omega, by omega⟩ q1 (by omega) hlt) gX3_approve_X3_requireLine rfl (by decide) (by decide) [0, 1, 2, 3, 4, 5, 6, 7, 8, 9, 10, 11, 12, 13, 14, 15, 16, 17] [] rfl rfl rfl rfl (by decide) 0 rfl rfl 1 rfl rfl (Nat.le_of_ble_eq_true rfl) (by decide +kernel) (fun E w1 hx => by obtain ⟨rfl, rfl⟩ := hx; exact ⟨Or.inl ⟨by unfold cdApprove; omega, rfl⟩, F, scr_rf hk, rfl⟩) htab (by decide) (by decide) dX3_approve_2
set_option maxRecDepth 20000 in
theorem in_X3_drift_X3 : ∀ w ∈ u_ws RX3 TX3 7, w ∈ wsX3_drift := by decide +kernel
set_option maxRecDepth 20000 in
theorem in_X3_drift_X0 : ∀ w ∈ u_ws RX0 TX0 3, w ∈ wsX3_drift := by decide +kernel
set_option maxHeartbeats 4000000 in
set_option maxRecDepth 100000 in
theorem c_X3_drift (l : Launch) (G : jG) (h : Nat → Nat) (F : Nat → Nat → Int) (V : Nat → Int) (i t : Nat) (hk : okC F V) (hi : (i : Int) < V 2) (ht : t < 12) (hs : F 11 (i * 12 + t) ≠ 45) (hx : (enc (nmC F 0 t 6 i)) ≠ -1000000000) : jMet l yX3_drift wsX3_drift { frames := 7, cells := 0, slots := 0, locals := 400 } G (wC G h F V) [.ref (h 0), .int (iI (i : Int)), .int (iI (t : Int))] (fun rv w1 => rv = some (.int (iI ((enc (nmC F 0 t 6 i)) - F 12 (i * 12 + t)))) ∧ ∃ F' : Nat → Nat → Int, scr F F' ∧ w1 = wC G h F' V) := by
  refine jMet_of (cc := cX3_drift) (maxL := 4) (ret := (some .int)) (by decide +kernel) rfl (Nat.le_of_ble_eq_true rfl) ?_
  intro p e s m args below meth c A hh hret hinit
  refine jr_loc (lv' := [(0, .ref (h 0)), (1, .int (iI (i : Int))), (2, .int (iI (t : Int)))]) [0, 1, 2] rfl ?_
  obtain ⟨hV0, hV1, hV2, hV3, hV4, -⟩ := id hk
  refine jr_aload_n (pc := 0) hh 0 dX3_drift_0 rfl rfl ?_
  refine jr_iload_n (pc := 1) hh 1 dX3_drift_1 rfl rfl ?_
  refine jr_callV (pc := 2) hh [.int (iI (i : Int))] [] (c_X3_requireLine l G h F V (i : Int) (by omega) (by omega)) gX3_drift_X3_requireLine rfl (by decide) (by decide) [0, 1, 2, 3, 4, 5, 6, 7, 8, 9, 10, 11, 12, 13, 14, 15, 16, 17] [] rfl rfl rfl rfl (by decide) 0 rfl rfl 1 rfl rfl (Nat.le_of_ble_eq_true rfl) (by decide +kernel) dX3_drift_2 (fun rvu1 wu1 hu1 => ?_)
  obtain ⟨rfl, rfl⟩ := hu1
  refine jr_perm (ws' := (wC G h F V)) (st := []) [0, 1, 2, 3, 4, 5, 6, 7, 8, 9, 10, 11, 12, 13, 14, 15, 16, 17] rfl rfl ?_
  refine jr_iload_n (pc := 5) hh 2 dX3_drift_5 rfl rfl ?_
  refine jr_callS (pc := 6) hh [.int (iI (t : Int))] [] (c_X3_requireMonth l G (t : Int) (by omega)) gX3_drift_X3_requireMonth rfl (by decide) (by decide) [] [0, 1, 2, 3, 4, 5, 6, 7, 8, 9, 10, 11, 12, 13, 14, 15, 16, 17] rfl rfl rfl rfl (by decide) 1 rfl rfl (Nat.le_of_ble_eq_true rfl) (by decide +kernel) dX3_drift_6 (fun rvu2 wu2 hu2 => ?_)
  obtain ⟨rfl, rfl⟩ := hu2
  refine jr_perm (ws' := (wC G h F V)) (st := []) [0, 1, 2, 3, 4, 5, 6, 7, 8, 9, 10, 11, 12, 13, 14, 15, 16, 17] rfl rfl ?_
  refine jr_aload_n (pc := 9) hh 0 dX3_drift_9 rfl rfl ?_
  refine jr_get (v := .ref (h 14)) (pc := 10) hh in_X3_drift_X3 0 rfl rfl 3 (by decide) (by decide +kernel : Cond.fieldLink RX3 30 (TX3 3).1 (TX3 3).2.1 (TX3 3).2.2.1 ∈ wsX3_drift) rfl dX3_drift_10 ?_
  refine jr_getN (v := .ref (h 15)) (pc := 13) hh in_X3_drift_X0 14 rfl rfl 0 (by decide) rfl (by decide +kernel) rfl dX3_drift_13 ?_
  refine jr_iload_n (pc := 16) hh 1 dX3_drift_16 rfl rfl ?_
  refine jr_iload_n (pc := 17) hh 2 dX3_drift_17 rfl rfl ?_
  refine jr_callS (pc := 18) hh [.int (iI (i : Int)), .int (iI (t : Int))] [.ref (h 15)] (c_X3_cell l G i t) gX3_drift_X3_cell rfl (by decide) (by decide) [] [0, 1, 2, 3, 4, 5, 6, 7, 8, 9, 10, 11, 12, 13, 14, 15, 16, 17] rfl rfl rfl rfl (by decide) 2 rfl rfl (Nat.le_of_ble_eq_true rfl) (by decide +kernel) dX3_drift_18 (fun rvu3 wu3 hu3 => ?_)
  obtain ⟨rfl, rfl⟩ := hu3
  refine jr_perm (ws' := (wC G h F V)) (st := [.int (iI ((i * 12 + t : Nat) : Int)), .ref (h 15)]) [0, 1, 2, 3, 4, 5, 6, 7, 8, 9, 10, 11, 12, 13, 14, 15, 16, 17] rfl rfl ?_
  have hst := (hk.2.2.2.2.2.2.2.2.2.2.2 (i * 12 + t) (by omega)).1
  refine jr_cald (F := (F 11)) (pc := 21) hh 15 rfl (i * 12 + t) (by omega) (by omega) (by decide) dX3_drift_21 ?_
  refine jr_bipush (pc := 22) hh dX3_drift_22 (by decide) ?_
  refine jr_icmp_ne (tgt := 35) (pc := 24) hh dX3_drift_24 (by decide) ⟨by omega, by omega⟩ ⟨by omega, by omega⟩ (fun c4 => ?_) (fun c4 => ?_)
  · skip
    refine jr_aload_n (pc := 35) hh 0 dX3_drift_35 rfl rfl ?_
    refine jr_iconst (pc := 36) hh dX3_drift_36 ?_
    refine jr_iload_n (pc := 37) hh 1 dX3_drift_37 rfl rfl ?_
    refine jr_iload_n (pc := 38) hh 2 dX3_drift_38 rfl rfl ?_
    refine jr_bipush (pc := 39) hh dX3_drift_39 (by decide) ?_
    refine jr_callV (pc := 41) hh [.int (iI 0), .int (iI (i : Int)), .int (iI (t : Int)), .int (iI 6)] [] (c_X3_numberIn l G h F V 0 i t 6 hk (by omega) (by omega) (by omega) (by omega)) gX3_drift_X3_numberIn rfl (by decide) (by decide) [0, 1, 2, 3, 4, 5, 6, 7, 8, 9, 10, 11, 12, 13, 14, 15, 16, 17] [] rfl rfl rfl rfl (by decide) 0 rfl rfl 4 rfl rfl (Nat.le_of_ble_eq_true rfl) (by decide +kernel) dX3_drift_41 (fun rvu6 wu6 hu6 => ?_)
    obtain ⟨rfl, Fz5, hFz5, rfl⟩ := hu6
    refine jr_perm (ws' := (wC G h Fz5 V)) (st := [.int (iI (enc (nmC F 0 t 6 i)))]) [0, 1, 2, 3, 4, 5, 6, 7, 8, 9, 10, 11, 12, 13, 14, 15, 16, 17] rfl rfl ?_
    have hnrFz5 := enc_range (nmC_B hk (s := 0) (i := i) (m := t) (cd := 6) (by omega) (by omega) (by omega))
    refine jr_callS (pc := 44) hh [.int (iI (enc (nmC F 0 t 6 i)))] [] (c_X3_required l G (enc (nmC F 0 t 6 i)) hx ⟨by omega, by omega⟩) gX3_drift_X3_required rfl (by decide) (by decide) [] [0, 1, 2, 3, 4, 5, 6, 7, 8, 9, 10, 11, 12, 13, 14, 15, 16, 17] rfl rfl rfl rfl (by decide) 1 rfl rfl (Nat.le_of_ble_eq_true rfl) (by decide +kernel) dX3_drift_44 (fun rvu7 wu7 hu7 => ?_)
    obtain ⟨rfl, rfl⟩ := hu7
    refine jr_perm (ws' := (wC G h Fz5 V)) (st := [.int (iI (enc (nmC F 0 t 6 i)))]) [0, 1, 2, 3, 4, 5, 6, 7, 8, 9, 10, 11, 12, 13, 14, 15, 16, 17] rfl rfl ?_
    refine jr_istore_n (lv' := [(3, .int (iI (enc (nmC F 0 t 6 i)))), (0, .ref (h 0)), (1, .int (iI (i : Int))), (2, .int (iI (t : Int)))]) (pc := 47) hh dX3_drift_47 rfl (by decide) rfl ?_
    refine jr_iload_n (pc := 48) hh 0 dX3_drift_48 rfl rfl ?_
    refine jr_aload_n (pc := 49) hh 1 dX3_drift_49 rfl rfl ?_
    refine jr_get (v := .ref (h 14)) (pc := 50) hh in_X3_drift_X3 0 rfl rfl 3 (by decide) (by decide +kernel : Cond.fieldLink RX3 30 (TX3 3).1 (TX3 3).2.1 (TX3 3).2.2.1 ∈ wsX3_drift) rfl dX3_drift_50 ?_
    refine jr_getN (v := .ref (h 16)) (pc := 53) hh in_X3_drift_X0 14 rfl rfl 1 (by decide) rfl (by decide +kernel) rfl dX3_drift_53 ?_
    refine jr_iload_n (pc := 56) hh 2 dX3_drift_56 rfl rfl ?_
    refine jr_iload_n (pc := 57) hh 3 dX3_drift_57 rfl rfl ?_
    refine jr_callS (pc := 58) hh [.int (iI (i : Int)), .int (iI (t : Int))] [.ref (h 16), .int (iI (enc (nmC F 0 t 6 i)))] (c_X3_cell l G i t) gX3_drift_X3_cell rfl (by decide) (by decide) [] [0, 1, 2, 3, 4, 5, 6, 7, 8, 9, 10, 11, 12, 13, 14, 15, 16, 17] rfl rfl rfl rfl (by decide) 2 rfl rfl (Nat.le_of_ble_eq_true rfl) (by decide +kernel) dX3_drift_58 (fun rvu8 wu8 hu8 => ?_)
    obtain ⟨rfl, rfl⟩ := hu8
    refine jr_perm (ws' := (wC G h Fz5 V)) (st := [.int (iI ((i * 12 + t : Nat) : Int)), .ref (h 16), .int (iI (enc (nmC F 0 t 6 i)))]) [0, 1, 2, 3, 4, 5, 6, 7, 8, 9, 10, 11, 12, 13, 14, 15, 16, 17] rfl rfl ?_
    refine jr_iald (F := (Fz5 12)) (pc := 61) hh 16 rfl (i * 12 + t) (by omega) (by omega) (by decide) dX3_drift_61 ?_
    refine jr_isub (pc := 62) hh dX3_drift_62 ?_
    exact jr_iret (pc := 63) hh hret rfl ⟨jsi (by rw [hFz5.1 12 (by decide) (by decide) (by decide)]), Fz5, hFz5, rfl⟩ (by decide) (by decide) dX3_drift_63
  · skip
    exfalso
    omega
set_option maxRecDepth 20000 in
theorem tw_X3_drift_120 : ∀ w ∈ (vx_at0 RX3 120 "java/util/NoSuchElementException" ["java/lang/RuntimeException", "java/lang/Exception"]).filter goodWord, w ∈ wsX3_drift := by decide +kernel
set_option maxHeartbeats 4000000 in
set_option maxRecDepth 100000 in
theorem t_X3_drift (l : Launch) (G : jG) (h : Nat → Nat) (F : Nat → Nat → Int) (V : Nat → Int) (i t : Int) (hri : jR i) (hrt : jR t) (hk : okC F V) (hcd : cdDrift (V 2) i t (F 11 (i.toNat * 12 + t.toNat)) (enc (nmC F 0 t.toNat 6 i.toNat)) ≠ 0) (hlt : l.stackTraces = false) : jThr l yX3_drift wsX3_drift { frames := 8, cells := 1, slots := 6, locals := 520 } G (wC G h F V) [.ref (h 0), .int (iI i), .int (iI t)] (fun E w1 => ((cdDrift (V 2) i t (F 11 (i.toNat * 12 + t.toNat)) (enc (nmC F 0 t.toNat 6 i.toNat)) = 1 ∧ E = "java/lang/IndexOutOfBoundsException") ∨ (cdDrift (V 2) i t (F 11 (i.toNat * 12 + t.toNat)) (enc (nmC F 0 t.toNat 6 i.toNat)) = 2 ∧ E = "java/util/NoSuchElementException") ∨ (cdDrift (V 2) i t (F 11 (i.toNat * 12 + t.toNat)) (enc (nmC F 0 t.toNat 6 i.toNat)) = 3 ∧ E = "java/lang/UnsupportedOperationException")) ∧ ∃ F' : Nat → Nat → Int, scr F F' ∧ w1 = wC G h F' V) := by
  refine jThr_of (cc := cX3_drift) (maxL := 4) (ret := (some .int)) (by decide +kernel) rfl (Nat.le_of_ble_eq_true rfl) ?_
  intro p e s m args below meth c A hh htab
  refine jr_loc (lv' := [(0, .ref (h 0)), (1, .int (iI i)), (2, .int (iI t))]) [0, 1, 2] rfl ?_
  obtain ⟨hV0, hV1, hV2, hV3, hV4, -⟩ := id hk
  have hri1 := hri.1
  have hrt1 := hrt.1
  have hri2 := hri.2
  have hrt2 := hrt.2
  refine jr_aload_n (pc := 0) hh 0 dX3_drift_0 rfl rfl ?_
  refine jr_iload_n (pc := 1) hh 1 dX3_drift_1 rfl rfl ?_
  by_cases q1 : 0 ≤ i ∧ i < V 2
  · skip
    obtain ⟨iN, rfl⟩ : ∃ k : Nat, i = (k : Int) := ⟨i.toNat, by omega⟩
    try simp only [Int.toNat_natCast] at hcd ⊢
    refine jr_callV (pc := 2) hh [.int (iI (iN : Int))] [] (c_X3_requireLine l G h F V (iN : Int) (by omega) (by omega)) gX3_drift_X3_requireLine rfl (by decide) (by decide) [0, 1, 2, 3, 4, 5, 6, 7, 8, 9, 10, 11, 12, 13, 14, 15, 16, 17] [] rfl rfl rfl rfl (by decide) 0 rfl rfl 1 rfl rfl (Nat.le_of_ble_eq_true rfl) (by decide +kernel) dX3_drift_2 (fun rvu2 wu2 hu2 => ?_)
    obtain ⟨rfl, rfl⟩ := hu2
    refine jr_perm (ws' := (wC G h F V)) (st := []) [0, 1, 2, 3, 4, 5, 6, 7, 8, 9, 10, 11, 12, 13, 14, 15, 16, 17] rfl rfl ?_
    refine jr_iload_n (pc := 5) hh 2 dX3_drift_5 rfl rfl ?_
    by_cases q3 : 0 ≤ t ∧ t < 12
    · skip
      obtain ⟨tN, rfl⟩ : ∃ k : Nat, t = (k : Int) := ⟨t.toNat, by omega⟩
      try simp only [Int.toNat_natCast] at hcd ⊢
      refine jr_callS (pc := 6) hh [.int (iI (tN : Int))] [] (c_X3_requireMonth l G (tN : Int) (by omega)) gX3_drift_X3_requireMonth rfl (by decide) (by decide) [] [0, 1, 2, 3, 4, 5, 6, 7, 8, 9, 10, 11, 12, 13, 14, 15, 16, 17] rfl rfl rfl rfl (by decide) 1 rfl rfl (Nat.le_of_ble_eq_true rfl) (by decide +kernel) dX3_drift_6 (fun rvu4 wu4 hu4 => ?_)
      obtain ⟨rfl, rfl⟩ := hu4
      refine jr_perm (ws' := (wC G h F V)) (st := []) [0, 1, 2, 3, 4, 5, 6, 7, 8, 9, 10, 11, 12, 13, 14, 15, 16, 17] rfl rfl ?_
      refine jr_aload_n (pc := 9) hh 0 dX3_drift_9 rfl rfl ?_
      refine jr_get (v := .ref (h 14)) (pc := 10) hh in_X3_drift_X3 0 rfl rfl 3 (by decide) (by decide +kernel : Cond.fieldLink RX3 30 (TX3 3).1 (TX3 3).2.1 (TX3 3).2.2.1 ∈ wsX3_drift) rfl dX3_drift_10 ?_
      refine jr_getN (v := .ref (h 15)) (pc := 13) hh in_X3_drift_X0 14 rfl rfl 0 (by decide) rfl (by decide +kernel) rfl dX3_drift_13 ?_
      refine jr_iload_n (pc := 16) hh 1 dX3_drift_16 rfl rfl ?_
      refine jr_iload_n (pc := 17) hh 2 dX3_drift_17 rfl rfl ?_
      refine jr_callS (pc := 18) hh [.int (iI (iN : Int)), .int (iI (tN : Int))] [.ref (h 15)] (c_X3_cell l G iN tN) gX3_drift_X3_cell rfl (by decide) (by decide) [] [0, 1, 2, 3, 4, 5, 6, 7, 8, 9, 10, 11, 12, 13, 14, 15, 16, 17] rfl rfl rfl rfl (by decide) 2 rfl rfl (Nat.le_of_ble_eq_true rfl) (by decide +kernel) dX3_drift_18 (fun rvu5 wu5 hu5 => ?_)
      obtain ⟨rfl, rfl⟩ := hu5
      refine jr_perm (ws' := (wC G h F V)) (st := [.int (iI ((iN * 12 + tN : Nat) : Int)), .ref (h 15)]) [0, 1, 2, 3, 4, 5, 6, 7, 8, 9, 10, 11, 12, 13, 14, 15, 16, 17] rfl rfl ?_
      have hst := (hk.2.2.2.2.2.2.2.2.2.2.2 (iN * 12 + tN) (by omega)).1
      refine jr_cald (F := (F 11)) (pc := 21) hh 15 rfl (iN * 12 + tN) (by omega) (by omega) (by decide) dX3_drift_21 ?_
      refine jr_bipush (pc := 22) hh dX3_drift_22 (by decide) ?_
      refine jr_icmp_ne (tgt := 35) (pc := 24) hh dX3_drift_24 (by decide) ⟨by omega, by omega⟩ ⟨by omega, by omega⟩ (fun c6 => ?_) (fun c6 => ?_)
      · skip
        refine jr_aload_n (pc := 35) hh 0 dX3_drift_35 rfl rfl ?_
        refine jr_iconst (pc := 36) hh dX3_drift_36 ?_
        refine jr_iload_n (pc := 37) hh 1 dX3_drift_37 rfl rfl ?_
        refine jr_iload_n (pc := 38) hh 2 dX3_drift_38 rfl rfl ?_
        refine jr_bipush (pc := 39) hh dX3_drift_39 (by decide) ?_
        refine jr_callV (pc := 41) hh [.int (iI 0), .int (iI (iN : Int)), .int (iI (tN : Int)), .int (iI 6)] [] (c_X3_numberIn l G h F V 0 iN tN 6 hk (by omega) (by omega) (by omega) (by omega)) gX3_drift_X3_numberIn rfl (by decide) (by decide) [0, 1, 2, 3, 4, 5, 6, 7, 8, 9, 10, 11, 12, 13, 14, 15, 16, 17] [] rfl rfl rfl rfl (by decide) 0 rfl rfl 4 rfl rfl (Nat.le_of_ble_eq_true rfl) (by decide +kernel) dX3_drift_41 (fun rvu8 wu8 hu8 => ?_)
        obtain ⟨rfl, Fz7, hFz7, rfl⟩ := hu8
        refine jr_perm (ws' := (wC G h Fz7 V)) (st := [.int (iI (enc (nmC F 0 tN 6 iN)))]) [0, 1, 2, 3, 4, 5, 6, 7, 8, 9, 10, 11, 12, 13, 14, 15, 16, 17] rfl rfl ?_
        have hnrFz7 := enc_range (nmC_B hk (s := 0) (i := iN) (m := tN) (cd := 6) (by omega) (by omega) (by omega))
        by_cases q9 : (enc (nmC F 0 tN 6 iN)) = -1000000000
        · skip
          refine jr_topi q9 ?_
          exact jr_tcallS (pc := 44) hh [.int (iI (-1000000000))] [] (t_X3_required l G hlt) gX3_drift_X3_required rfl (by decide) (by decide) [] [0, 1, 2, 3, 4, 5, 6, 7, 8, 9, 10, 11, 12, 13, 14, 15, 16, 17] rfl rfl rfl rfl (by decide) 1 rfl rfl (Nat.le_of_ble_eq_true rfl) (by decide +kernel) (fun E w1 hx => by obtain ⟨rfl, rfl⟩ := hx; exact ⟨Or.inr (Or.inr (⟨by unfold cdDrift; omega, rfl⟩)), Fz7, hFz7, rfl⟩) htab (by decide) (by decide) dX3_drift_44
        · skip
          refine jr_callS (pc := 44) hh [.int (iI (enc (nmC F 0 tN 6 iN)))] [] (c_X3_required l G (enc (nmC F 0 tN 6 iN)) q9 ⟨by omega, by omega⟩) gX3_drift_X3_required rfl (by decide) (by decide) [] [0, 1, 2, 3, 4, 5, 6, 7, 8, 9, 10, 11, 12, 13, 14, 15, 16, 17] rfl rfl rfl rfl (by decide) 1 rfl rfl (Nat.le_of_ble_eq_true rfl) (by decide +kernel) dX3_drift_44 (fun rvu11 wu11 hu11 => ?_)
          obtain ⟨rfl, rfl⟩ := hu11
          refine jr_perm (ws' := (wC G h Fz7 V)) (st := [.int (iI (enc (nmC F 0 tN 6 iN)))]) [0, 1, 2, 3, 4, 5, 6, 7, 8, 9, 10, 11, 12, 13, 14, 15, 16, 17] rfl rfl ?_
          exfalso
          unfold cdDrift at hcd
          omega
      · skip
        exact jr_throw (pc := 27) hh hlt htab (cls := "java/util/NoSuchElementException") (names := ["java/lang/RuntimeException", "java/lang/Exception"]) (by decide +kernel) (by decide +kernel) (by decide +kernel) (by decide +kernel) tw_X3_drift_120 tb_120 (by decide) tg_120 dX3_drift_27 dX3_drift_30 dX3_drift_31 dX3_drift_34 ⟨Nat.le_of_ble_eq_true rfl, Nat.le_of_ble_eq_true rfl, Nat.le_of_ble_eq_true rfl, Nat.le_of_ble_eq_true rfl⟩ (Nat.le_of_ble_eq_true rfl) (Nat.le_of_ble_eq_true rfl) ⟨Or.inr (Or.inl ⟨by unfold cdDrift; omega, rfl⟩), F, scr_rf hk, rfl⟩
    · skip
      exact jr_tcallS (pc := 6) hh [.int (iI t)] [] (t_X3_requireMonth l G t ⟨by omega, by omega⟩ (by omega) hlt) gX3_drift_X3_requireMonth rfl (by decide) (by decide) [] [0, 1, 2, 3, 4, 5, 6, 7, 8, 9, 10, 11, 12, 13, 14, 15, 16, 17] rfl rfl rfl rfl (by decide) 1 rfl rfl (Nat.le_of_ble_eq_true rfl) (by decide +kernel) (fun E w1 hx => by obtain ⟨rfl, rfl⟩ := hx; exact ⟨Or.inl ⟨by unfold cdDrift; omega, rfl⟩, F, scr_rf hk, rfl⟩) htab (by decide) (by decide) dX3_drift_6
  · skip
    exact jr_tcallV (pc := 2) hh [.int (iI i)] [] (t_X3_requireLine l G h F V i ⟨by omega, by omega⟩ q1 (by omega) hlt) gX3_drift_X3_requireLine rfl (by decide) (by decide) [0, 1, 2, 3, 4, 5, 6, 7, 8, 9, 10, 11, 12, 13, 14, 15, 16, 17] [] rfl rfl rfl rfl (by decide) 0 rfl rfl 1 rfl rfl (Nat.le_of_ble_eq_true rfl) (by decide +kernel) (fun E w1 hx => by obtain ⟨rfl, rfl⟩ := hx; exact ⟨Or.inl ⟨by unfold cdDrift; omega, rfl⟩, F, scr_rf hk, rfl⟩) htab (by decide) (by decide) dX3_drift_2
set_option maxHeartbeats 4000000 in
set_option maxRecDepth 100000 in
theorem c_X3_effect (l : Launch) (G : jG) (h : Nat → Nat) (F : Nat → Nat → Int) (V : Nat → Int) (s0 d i t : Nat) (hk : okC F V) (hs : (s0 : Int) < V 0) (hd : (d : Int) < V 3) (hi : (i : Int) < V 2) (ht : t < 12) (hx : (enc (nmC F s0 t (d + 1) i)) ≠ -1000000000) (hy : (enc (nmC F s0 t d i)) ≠ -1000000000) : jMet l yX3_effect wsX3_effect { frames := 7, cells := 0, slots := 0, locals := 400 } G (wC G h F V) [.ref (h 0), .int (iI (s0 : Int)), .int (iI (d : Int)), .int (iI (i : Int)), .int (iI (t : Int))] (fun rv w1 => rv = some (.int (iI ((enc (nmC F s0 t (d + 1) i)) - (enc (nmC F s0 t d i))))) ∧ ∃ F' : Nat → Nat → Int, scr F F' ∧ w1 = wC G h F' V) := by
  refine jMet_of (cc := cX3_effect) (maxL := 7) (ret := (some .int)) (by decide +kernel) rfl (Nat.le_of_ble_eq_true rfl) ?_
  intro p e s m args below meth c A hh hret hinit
  refine jr_loc (lv' := [(0, .ref (h 0)), (1, .int (iI (s0 : Int))), (2, .int (iI (d : Int))), (3, .int (iI (i : Int))), (4, .int (iI (t : Int)))]) [0, 1, 2, 3, 4] rfl ?_
  obtain ⟨hV0, hV1, hV2, hV3, hV4, -⟩ := id hk
  refine jr_aload_n (pc := 0) hh 0 dX3_effect_0 rfl rfl ?_
  refine jr_iload_n (pc := 1) hh 1 dX3_effect_1 rfl rfl ?_
  refine jr_callV (pc := 2) hh [.int (iI (s0 : Int))] [] (c_X3_requireScenario l G h F V (s0 : Int) (by omega) (by omega)) gX3_effect_X3_requireScenario rfl (by decide) (by decide) [0, 1, 2, 3, 4, 5, 6, 7, 8, 9, 10, 11, 12, 13, 14, 15, 16, 17] [] rfl rfl rfl rfl (by decide) 0 rfl rfl 1 rfl rfl (Nat.le_of_ble_eq_true rfl) (by decide +kernel) dX3_effect_2 (fun rvu1 wu1 hu1 => ?_)
  obtain ⟨rfl, rfl⟩ := hu1
  refine jr_perm (ws' := (wC G h F V)) (st := []) [0, 1, 2, 3, 4, 5, 6, 7, 8, 9, 10, 11, 12, 13, 14, 15, 16, 17] rfl rfl ?_
  refine jr_aload_n (pc := 5) hh 0 dX3_effect_5 rfl rfl ?_
  refine jr_iload_n (pc := 6) hh 2 dX3_effect_6 rfl rfl ?_
  refine jr_callV (pc := 7) hh [.int (iI (d : Int))] [] (c_X3_requireDriver l G h F V (d : Int) (by omega) (by omega)) gX3_effect_X3_requireDriver rfl (by decide) (by decide) [0, 1, 2, 3, 4, 5, 6, 7, 8, 9, 10, 11, 12, 13, 14, 15, 16, 17] [] rfl rfl rfl rfl (by decide) 0 rfl rfl 1 rfl rfl (Nat.le_of_ble_eq_true rfl) (by decide +kernel) dX3_effect_7 (fun rvu2 wu2 hu2 => ?_)
  obtain ⟨rfl, rfl⟩ := hu2
  refine jr_perm (ws' := (wC G h F V)) (st := []) [0, 1, 2, 3, 4, 5, 6, 7, 8, 9, 10, 11, 12, 13, 14, 15, 16, 17] rfl rfl ?_
  refine jr_aload_n (pc := 10) hh 0 dX3_effect_10 rfl rfl ?_
  refine jr_iload_n (pc := 11) hh 3 dX3_effect_11 rfl rfl ?_
  refine jr_callV (pc := 12) hh [.int (iI (i : Int))] [] (c_X3_requireLine l G h F V (i : Int) (by omega) (by omega)) gX3_effect_X3_requireLine rfl (by decide) (by decide) [0, 1, 2, 3, 4, 5, 6, 7, 8, 9, 10, 11, 12, 13, 14, 15, 16, 17] [] rfl rfl rfl rfl (by decide) 0 rfl rfl 1 rfl rfl (Nat.le_of_ble_eq_true rfl) (by decide +kernel) dX3_effect_12 (fun rvu3 wu3 hu3 => ?_)
  obtain ⟨rfl, rfl⟩ := hu3
  refine jr_perm (ws' := (wC G h F V)) (st := []) [0, 1, 2, 3, 4, 5, 6, 7, 8, 9, 10, 11, 12, 13, 14, 15, 16, 17] rfl rfl ?_
  refine jr_iload (pc := 15) hh 4 dX3_effect_15 rfl ?_
  refine jr_callS (pc := 17) hh [.int (iI (t : Int))] [] (c_X3_requireMonth l G (t : Int) (by omega)) gX3_effect_X3_requireMonth rfl (by decide) (by decide) [] [0, 1, 2, 3, 4, 5, 6, 7, 8, 9, 10, 11, 12, 13, 14, 15, 16, 17] rfl rfl rfl rfl (by decide) 1 rfl rfl (Nat.le_of_ble_eq_true rfl) (by decide +kernel) dX3_effect_17 (fun rvu4 wu4 hu4 => ?_)
  obtain ⟨rfl, rfl⟩ := hu4
  refine jr_perm (ws' := (wC G h F V)) (st := []) [0, 1, 2, 3, 4, 5, 6, 7, 8, 9, 10, 11, 12, 13, 14, 15, 16, 17] rfl rfl ?_
  refine jr_aload_n (pc := 20) hh 0 dX3_effect_20 rfl rfl ?_
  refine jr_iload_n (pc := 21) hh 1 dX3_effect_21 rfl rfl ?_
  refine jr_iload_n (pc := 22) hh 3 dX3_effect_22 rfl rfl ?_
  refine jr_iload (pc := 23) hh 4 dX3_effect_23 rfl ?_
  refine jr_iload_n (pc := 25) hh 2 dX3_effect_25 rfl rfl ?_
  refine jr_iconst (pc := 26) hh dX3_effect_26 ?_
  refine jr_iadd (pc := 27) hh dX3_effect_27 ?_
  refine jr_callV (pc := 28) hh [.int (iI (s0 : Int)), .int (iI (i : Int)), .int (iI (t : Int)), .int (iI ((d : Int) + 1))] [] (c_X3_numberIn l G h F V s0 i t (d + 1) hk (by omega) (by omega) (by omega) (by omega)) gX3_effect_X3_numberIn rfl (by decide) (by decide) [0, 1, 2, 3, 4, 5, 6, 7, 8, 9, 10, 11, 12, 13, 14, 15, 16, 17] [] rfl rfl rfl rfl (by decide) 0 rfl rfl 4 rfl rfl (Nat.le_of_ble_eq_true rfl) (by decide +kernel) dX3_effect_28 (fun rvu6 wu6 hu6 => ?_)
  obtain ⟨rfl, Fz5, hFz5, rfl⟩ := hu6
  refine jr_perm (ws' := (wC G h Fz5 V)) (st := [.int (iI (enc (nmC F s0 t (d + 1) i)))]) [0, 1, 2, 3, 4, 5, 6, 7, 8, 9, 10, 11, 12, 13, 14, 15, 16, 17] rfl rfl ?_
  have hnrFz5 := enc_range (nmC_B hk (s := s0) (i := i) (m := t) (cd := (d + 1)) (by omega) (by omega) (by omega))
  refine jr_callS (pc := 31) hh [.int (iI (enc (nmC F s0 t (d + 1) i)))] [] (c_X3_required l G (enc (nmC F s0 t (d + 1) i)) hx ⟨by omega, by omega⟩) gX3_effect_X3_required rfl (by decide) (by decide) [] [0, 1, 2, 3, 4, 5, 6, 7, 8, 9, 10, 11, 12, 13, 14, 15, 16, 17] rfl rfl rfl rfl (by decide) 1 rfl rfl (Nat.le_of_ble_eq_true rfl) (by decide +kernel) dX3_effect_31 (fun rvu7 wu7 hu7 => ?_)
  obtain ⟨rfl, rfl⟩ := hu7
  refine jr_perm (ws' := (wC G h Fz5 V)) (st := [.int (iI (enc (nmC F s0 t (d + 1) i)))]) [0, 1, 2, 3, 4, 5, 6, 7, 8, 9, 10, 11, 12, 13, 14, 15, 16, 17] rfl rfl ?_
  refine jr_istore (lv' := [(5, .int (iI (enc (nmC F s0 t (d + 1) i)))), (0, .ref (h 0)), (1, .int (iI (s0 : Int))), (2, .int (iI (d : Int))), (3, .int (iI (i : Int))), (4, .int (iI (t : Int)))]) (pc := 34) hh dX3_effect_34 (by decide) rfl ?_
  refine jr_aload_n (pc := 36) hh 1 dX3_effect_36 rfl rfl ?_
  refine jr_iload_n (pc := 37) hh 2 dX3_effect_37 rfl rfl ?_
  refine jr_iload_n (pc := 38) hh 4 dX3_effect_38 rfl rfl ?_
  refine jr_iload (pc := 39) hh 5 dX3_effect_39 rfl ?_
  refine jr_iload_n (pc := 41) hh 3 dX3_effect_41 rfl rfl ?_
  refine jr_callV (pc := 42) hh [.int (iI (s0 : Int)), .int (iI (i : Int)), .int (iI (t : Int)), .int (iI (d : Int))] [] (c_X3_numberIn l G h Fz5 V s0 i t d (okC_scr hk hFz5) (by omega) (by omega) (by omega) (by omega)) gX3_effect_X3_numberIn rfl (by decide) (by decide) [0, 1, 2, 3, 4, 5, 6, 7, 8, 9, 10, 11, 12, 13, 14, 15, 16, 17] [] rfl rfl rfl rfl (by decide) 0 rfl rfl 4 rfl rfl (Nat.le_of_ble_eq_true rfl) (by decide +kernel) dX3_effect_42 (fun rvu9 wu9 hu9 => ?_)
  obtain ⟨rfl, Fz8, hFz8, rfl⟩ := hu9
  refine jr_perm (ws' := (wC G h Fz8 V)) (st := [.int (iI (enc (nmC Fz5 s0 t d i)))]) [0, 1, 2, 3, 4, 5, 6, 7, 8, 9, 10, 11, 12, 13, 14, 15, 16, 17] rfl rfl ?_
  have hnrFz8 := enc_range (nmC_B hk (s := s0) (i := i) (m := t) (cd := d) (by omega) (by omega) (by omega))
  have hsFz8 := scr_tr hFz5 hFz8
  refine jr_topi (b := (enc (nmC F s0 t d i))) (congrArg enc (nmC_scr hFz5 _ _ _ _)) ?_
  refine jr_callS (pc := 45) hh [.int (iI (enc (nmC F s0 t d i)))] [] (c_X3_required l G (enc (nmC F s0 t d i)) hy ⟨by omega, by omega⟩) gX3_effect_X3_required rfl (by decide) (by decide) [] [0, 1, 2, 3, 4, 5, 6, 7, 8, 9, 10, 11, 12, 13, 14, 15, 16, 17] rfl rfl rfl rfl (by decide) 1 rfl rfl (Nat.le_of_ble_eq_true rfl) (by decide +kernel) dX3_effect_45 (fun rvu10 wu10 hu10 => ?_)
  obtain ⟨rfl, rfl⟩ := hu10
  refine jr_perm (ws' := (wC G h Fz8 V)) (st := [.int (iI (enc (nmC F s0 t d i)))]) [0, 1, 2, 3, 4, 5, 6, 7, 8, 9, 10, 11, 12, 13, 14, 15, 16, 17] rfl rfl ?_
  refine jr_istore (lv' := [(6, .int (iI (enc (nmC F s0 t d i)))), (5, .int (iI (enc (nmC F s0 t (d + 1) i)))), (0, .ref (h 0)), (1, .int (iI (s0 : Int))), (2, .int (iI (d : Int))), (3, .int (iI (i : Int))), (4, .int (iI (t : Int)))]) (pc := 48) hh dX3_effect_48 (by decide) rfl ?_
  refine jr_iload (pc := 50) hh 1 dX3_effect_50 rfl ?_
  refine jr_iload (pc := 52) hh 0 dX3_effect_52 rfl ?_
  refine jr_isub (pc := 54) hh dX3_effect_54 ?_
  exact jr_iret (pc := 55) hh hret rfl ⟨rfl, Fz8, hsFz8, rfl⟩ (by decide) (by decide) dX3_effect_55
set_option maxHeartbeats 4000000 in
set_option maxRecDepth 100000 in
theorem t_X3_effect (l : Launch) (G : jG) (h : Nat → Nat) (F : Nat → Nat → Int) (V : Nat → Int) (s0 d i t : Int) (hrs0 : jR s0) (hrd : jR d) (hri : jR i) (hrt : jR t) (hk : okC F V) (hcd : cdEffect (V 0) (V 3) (V 2) s0 d i t (enc (nmC F s0.toNat t.toNat (d.toNat + 1) i.toNat)) (enc (nmC F s0.toNat t.toNat d.toNat i.toNat)) ≠ 0) (hlt : l.stackTraces = false) : jThr l yX3_effect wsX3_effect { frames := 8, cells := 1, slots := 6, locals := 520 } G (wC G h F V) [.ref (h 0), .int (iI s0), .int (iI d), .int (iI i), .int (iI t)] (fun E w1 => ((cdEffect (V 0) (V 3) (V 2) s0 d i t (enc (nmC F s0.toNat t.toNat (d.toNat + 1) i.toNat)) (enc (nmC F s0.toNat t.toNat d.toNat i.toNat)) = 1 ∧ E = "java/lang/IndexOutOfBoundsException") ∨ (cdEffect (V 0) (V 3) (V 2) s0 d i t (enc (nmC F s0.toNat t.toNat (d.toNat + 1) i.toNat)) (enc (nmC F s0.toNat t.toNat d.toNat i.toNat)) = 2 ∧ E = "java/lang/UnsupportedOperationException")) ∧ ∃ F' : Nat → Nat → Int, scr F F' ∧ w1 = wC G h F' V) := by
  refine jThr_of (cc := cX3_effect) (maxL := 7) (ret := (some .int)) (by decide +kernel) rfl (Nat.le_of_ble_eq_true rfl) ?_
  intro p e s m args below meth c A hh htab
  refine jr_loc (lv' := [(0, .ref (h 0)), (1, .int (iI s0)), (2, .int (iI d)), (3, .int (iI i)), (4, .int (iI t))]) [0, 1, 2, 3, 4] rfl ?_
  obtain ⟨hV0, hV1, hV2, hV3, hV4, -⟩ := id hk
  have hrs01 := hrs0.1
  have hrd1 := hrd.1
  have hri1 := hri.1
  have hrt1 := hrt.1
  have hrs02 := hrs0.2
  have hrd2 := hrd.2
  have hri2 := hri.2
  have hrt2 := hrt.2
  refine jr_aload_n (pc := 0) hh 0 dX3_effect_0 rfl rfl ?_
  refine jr_iload_n (pc := 1) hh 1 dX3_effect_1 rfl rfl ?_
  by_cases q1 : 0 ≤ s0 ∧ s0 < V 0
  · skip
    obtain ⟨s0N, rfl⟩ : ∃ k : Nat, s0 = (k : Int) := ⟨s0.toNat, by omega⟩
    try simp only [Int.toNat_natCast] at hcd ⊢
    refine jr_callV (pc := 2) hh [.int (iI (s0N : Int))] [] (c_X3_requireScenario l G h F V (s0N : Int) (by omega) (by omega)) gX3_effect_X3_requireScenario rfl (by decide) (by decide) [0, 1, 2, 3, 4, 5, 6, 7, 8, 9, 10, 11, 12, 13, 14, 15, 16, 17] [] rfl rfl rfl rfl (by decide) 0 rfl rfl 1 rfl rfl (Nat.le_of_ble_eq_true rfl) (by decide +kernel) dX3_effect_2 (fun rvu2 wu2 hu2 => ?_)
    obtain ⟨rfl, rfl⟩ := hu2
    refine jr_perm (ws' := (wC G h F V)) (st := []) [0, 1, 2, 3, 4, 5, 6, 7, 8, 9, 10, 11, 12, 13, 14, 15, 16, 17] rfl rfl ?_
    refine jr_aload_n (pc := 5) hh 0 dX3_effect_5 rfl rfl ?_
    refine jr_iload_n (pc := 6) hh 2 dX3_effect_6 rfl rfl ?_
    by_cases q3 : 0 ≤ d ∧ d < V 3
    · skip
      obtain ⟨dN, rfl⟩ : ∃ k : Nat, d = (k : Int) := ⟨d.toNat, by omega⟩
      try simp only [Int.toNat_natCast] at hcd ⊢
      refine jr_callV (pc := 7) hh [.int (iI (dN : Int))] [] (c_X3_requireDriver l G h F V (dN : Int) (by omega) (by omega)) gX3_effect_X3_requireDriver rfl (by decide) (by decide) [0, 1, 2, 3, 4, 5, 6, 7, 8, 9, 10, 11, 12, 13, 14, 15, 16, 17] [] rfl rfl rfl rfl (by decide) 0 rfl rfl 1 rfl rfl (Nat.le_of_ble_eq_true rfl) (by decide +kernel) dX3_effect_7 (fun rvu4 wu4 hu4 => ?_)
      obtain ⟨rfl, rfl⟩ := hu4
      refine jr_perm (ws' := (wC G h F V)) (st := []) [0, 1, 2, 3, 4, 5, 6, 7, 8, 9, 10, 11, 12, 13, 14, 15, 16, 17] rfl rfl ?_
      refine jr_aload_n (pc := 10) hh 0 dX3_effect_10 rfl rfl ?_
      refine jr_iload_n (pc := 11) hh 3 dX3_effect_11 rfl rfl ?_
      by_cases q5 : 0 ≤ i ∧ i < V 2
      · skip
        obtain ⟨iN, rfl⟩ : ∃ k : Nat, i = (k : Int) := ⟨i.toNat, by omega⟩
        try simp only [Int.toNat_natCast] at hcd ⊢
        refine jr_callV (pc := 12) hh [.int (iI (iN : Int))] [] (c_X3_requireLine l G h F V (iN : Int) (by omega) (by omega)) gX3_effect_X3_requireLine rfl (by decide) (by decide) [0, 1, 2, 3, 4, 5, 6, 7, 8, 9, 10, 11, 12, 13, 14, 15, 16, 17] [] rfl rfl rfl rfl (by decide) 0 rfl rfl 1 rfl rfl (Nat.le_of_ble_eq_true rfl) (by decide +kernel) dX3_effect_12 (fun rvu6 wu6 hu6 => ?_)
        obtain ⟨rfl, rfl⟩ := hu6
        refine jr_perm (ws' := (wC G h F V)) (st := []) [0, 1, 2, 3, 4, 5, 6, 7, 8, 9, 10, 11, 12, 13, 14, 15, 16, 17] rfl rfl ?_
        refine jr_iload (pc := 15) hh 4 dX3_effect_15 rfl ?_
        by_cases q7 : 0 ≤ t ∧ t < 12
        · skip
          obtain ⟨tN, rfl⟩ : ∃ k : Nat, t = (k : Int) := ⟨t.toNat, by omega⟩
          try simp only [Int.toNat_natCast] at hcd ⊢
          refine jr_callS (pc := 17) hh [.int (iI (tN : Int))] [] (c_X3_requireMonth l G (tN : Int) (by omega)) gX3_effect_X3_requireMonth rfl (by decide) (by decide) [] [0, 1, 2, 3, 4, 5, 6, 7, 8, 9, 10, 11, 12, 13, 14, 15, 16, 17] rfl rfl rfl rfl (by decide) 1 rfl rfl (Nat.le_of_ble_eq_true rfl) (by decide +kernel) dX3_effect_17 (fun rvu8 wu8 hu8 => ?_)
          obtain ⟨rfl, rfl⟩ := hu8
          refine jr_perm (ws' := (wC G h F V)) (st := []) [0, 1, 2, 3, 4, 5, 6, 7, 8, 9, 10, 11, 12, 13, 14, 15, 16, 17] rfl rfl ?_
          refine jr_aload_n (pc := 20) hh 0 dX3_effect_20 rfl rfl ?_
          refine jr_iload_n (pc := 21) hh 1 dX3_effect_21 rfl rfl ?_
          refine jr_iload_n (pc := 22) hh 3 dX3_effect_22 rfl rfl ?_
          refine jr_iload (pc := 23) hh 4 dX3_effect_23 rfl ?_
          refine jr_iload_n (pc := 25) hh 2 dX3_effect_25 rfl rfl ?_
          refine jr_iconst (pc := 26) hh dX3_effect_26 ?_
          refine jr_iadd (pc := 27) hh dX3_effect_27 ?_
          refine jr_callV (pc := 28) hh [.int (iI (s0N : Int)), .int (iI (iN : Int)), .int (iI (tN : Int)), .int (iI ((dN : Int) + 1))] [] (c_X3_numberIn l G h F V s0N iN tN (dN + 1) hk (by omega) (by omega) (by omega) (by omega)) gX3_effect_X3_numberIn rfl (by decide) (by decide) [0, 1, 2, 3, 4, 5, 6, 7, 8, 9, 10, 11, 12, 13, 14, 15, 16, 17] [] rfl rfl rfl rfl (by decide) 0 rfl rfl 4 rfl rfl (Nat.le_of_ble_eq_true rfl) (by decide +kernel) dX3_effect_28 (fun rvu10 wu10 hu10 => ?_)
          obtain ⟨rfl, Fz9, hFz9, rfl⟩ := hu10
          refine jr_perm (ws' := (wC G h Fz9 V)) (st := [.int (iI (enc (nmC F s0N tN (dN + 1) iN)))]) [0, 1, 2, 3, 4, 5, 6, 7, 8, 9, 10, 11, 12, 13, 14, 15, 16, 17] rfl rfl ?_
          have hnrFz9 := enc_range (nmC_B hk (s := s0N) (i := iN) (m := tN) (cd := (dN + 1)) (by omega) (by omega) (by omega))
          by_cases q11 : (enc (nmC F s0N tN (dN + 1) iN)) = -1000000000
          · skip
            refine jr_topi q11 ?_
            exact jr_tcallS (pc := 31) hh [.int (iI (-1000000000))] [] (t_X3_required l G hlt) gX3_effect_X3_required rfl (by decide) (by decide) [] [0, 1, 2, 3, 4, 5, 6, 7, 8, 9, 10, 11, 12, 13, 14, 15, 16, 17] rfl rfl rfl rfl (by decide) 1 rfl rfl (Nat.le_of_ble_eq_true rfl) (by decide +kernel) (fun E w1 hx => by obtain ⟨rfl, rfl⟩ := hx; exact ⟨Or.inr (⟨by unfold cdEffect; omega, rfl⟩), Fz9, hFz9, rfl⟩) htab (by decide) (by decide) dX3_effect_31
          · skip
            refine jr_callS (pc := 31) hh [.int (iI (enc (nmC F s0N tN (dN + 1) iN)))] [] (c_X3_required l G (enc (nmC F s0N tN (dN + 1) iN)) q11 ⟨by omega, by omega⟩) gX3_effect_X3_required rfl (by decide) (by decide) [] [0, 1, 2, 3, 4, 5, 6, 7, 8, 9, 10, 11, 12, 13, 14, 15, 16, 17] rfl rfl rfl rfl (by decide) 1 rfl rfl (Nat.le_of_ble_eq_true rfl) (by decide +kernel) dX3_effect_31 (fun rvu13 wu13 hu13 => ?_)
            obtain ⟨rfl, rfl⟩ := hu13
            refine jr_perm (ws' := (wC G h Fz9 V)) (st := [.int (iI (enc (nmC F s0N tN (dN + 1) iN)))]) [0, 1, 2, 3, 4, 5, 6, 7, 8, 9, 10, 11, 12, 13, 14, 15, 16, 17] rfl rfl ?_
            refine jr_istore (lv' := [(5, .int (iI (enc (nmC F s0N tN (dN + 1) iN)))), (0, .ref (h 0)), (1, .int (iI (s0N : Int))), (2, .int (iI (dN : Int))), (3, .int (iI (iN : Int))), (4, .int (iI (tN : Int)))]) (pc := 34) hh dX3_effect_34 (by decide) rfl ?_
            refine jr_aload_n (pc := 36) hh 1 dX3_effect_36 rfl rfl ?_
            refine jr_iload_n (pc := 37) hh 2 dX3_effect_37 rfl rfl ?_
            refine jr_iload_n (pc := 38) hh 4 dX3_effect_38 rfl rfl ?_
            refine jr_iload (pc := 39) hh 5 dX3_effect_39 rfl ?_
            refine jr_iload_n (pc := 41) hh 3 dX3_effect_41 rfl rfl ?_
            refine jr_callV (pc := 42) hh [.int (iI (s0N : Int)), .int (iI (iN : Int)), .int (iI (tN : Int)), .int (iI (dN : Int))] [] (c_X3_numberIn l G h Fz9 V s0N iN tN dN (okC_scr hk hFz9) (by omega) (by omega) (by omega) (by omega)) gX3_effect_X3_numberIn rfl (by decide) (by decide) [0, 1, 2, 3, 4, 5, 6, 7, 8, 9, 10, 11, 12, 13, 14, 15, 16, 17] [] rfl rfl rfl rfl (by decide) 0 rfl rfl 4 rfl rfl (Nat.le_of_ble_eq_true rfl) (by decide +kernel) dX3_effect_42 (fun rvu15 wu15 hu15 => ?_)
            obtain ⟨rfl, Fz14, hFz14, rfl⟩ := hu15
            refine jr_perm (ws' := (wC G h Fz14 V)) (st := [.int (iI (enc (nmC Fz9 s0N tN dN iN)))]) [0, 1, 2, 3, 4, 5, 6, 7, 8, 9, 10, 11, 12, 13, 14, 15, 16, 17] rfl rfl ?_
            have hnrFz14 := enc_range (nmC_B hk (s := s0N) (i := iN) (m := tN) (cd := dN) (by omega) (by omega) (by omega))
            have hsFz14 := scr_tr hFz9 hFz14
            refine jr_topi (b := (enc (nmC F s0N tN dN iN))) (congrArg enc (nmC_scr hFz9 _ _ _ _)) ?_
            by_cases q16 : (enc (nmC F s0N tN dN iN)) = -1000000000
            · skip
              refine jr_topi q16 ?_
              exact jr_tcallS (pc := 45) hh [.int (iI (-1000000000))] [] (t_X3_required l G hlt) gX3_effect_X3_required rfl (by decide) (by decide) [] [0, 1, 2, 3, 4, 5, 6, 7, 8, 9, 10, 11, 12, 13, 14, 15, 16, 17] rfl rfl rfl rfl (by decide) 1 rfl rfl (Nat.le_of_ble_eq_true rfl) (by decide +kernel) (fun E w1 hx => by obtain ⟨rfl, rfl⟩ := hx; exact ⟨Or.inr (⟨by unfold cdEffect; omega, rfl⟩), Fz14, hsFz14, rfl⟩) htab (by decide) (by decide) dX3_effect_45
            · skip
              refine jr_callS (pc := 45) hh [.int (iI (enc (nmC F s0N tN dN iN)))] [] (c_X3_required l G (enc (nmC F s0N tN dN iN)) q16 ⟨by omega, by omega⟩) gX3_effect_X3_required rfl (by decide) (by decide) [] [0, 1, 2, 3, 4, 5, 6, 7, 8, 9, 10, 11, 12, 13, 14, 15, 16, 17] rfl rfl rfl rfl (by decide) 1 rfl rfl (Nat.le_of_ble_eq_true rfl) (by decide +kernel) dX3_effect_45 (fun rvu18 wu18 hu18 => ?_)
              obtain ⟨rfl, rfl⟩ := hu18
              refine jr_perm (ws' := (wC G h Fz14 V)) (st := [.int (iI (enc (nmC F s0N tN dN iN)))]) [0, 1, 2, 3, 4, 5, 6, 7, 8, 9, 10, 11, 12, 13, 14, 15, 16, 17] rfl rfl ?_
              exfalso
              unfold cdEffect at hcd
              omega
        · skip
          exact jr_tcallS (pc := 17) hh [.int (iI t)] [] (t_X3_requireMonth l G t ⟨by omega, by omega⟩ (by omega) hlt) gX3_effect_X3_requireMonth rfl (by decide) (by decide) [] [0, 1, 2, 3, 4, 5, 6, 7, 8, 9, 10, 11, 12, 13, 14, 15, 16, 17] rfl rfl rfl rfl (by decide) 1 rfl rfl (Nat.le_of_ble_eq_true rfl) (by decide +kernel) (fun E w1 hx => by obtain ⟨rfl, rfl⟩ := hx; exact ⟨Or.inl ⟨by unfold cdEffect; omega, rfl⟩, F, scr_rf hk, rfl⟩) htab (by decide) (by decide) dX3_effect_17
      · skip
        exact jr_tcallV (pc := 12) hh [.int (iI i)] [] (t_X3_requireLine l G h F V i ⟨by omega, by omega⟩ q5 (by omega) hlt) gX3_effect_X3_requireLine rfl (by decide) (by decide) [0, 1, 2, 3, 4, 5, 6, 7, 8, 9, 10, 11, 12, 13, 14, 15, 16, 17] [] rfl rfl rfl rfl (by decide) 0 rfl rfl 1 rfl rfl (Nat.le_of_ble_eq_true rfl) (by decide +kernel) (fun E w1 hx => by obtain ⟨rfl, rfl⟩ := hx; exact ⟨Or.inl ⟨by unfold cdEffect; omega, rfl⟩, F, scr_rf hk, rfl⟩) htab (by decide) (by decide) dX3_effect_12
    · skip
      exact jr_tcallV (pc := 7) hh [.int (iI d)] [] (t_X3_requireDriver l G h F V d ⟨by omega, by omega⟩ q3 (by omega) hlt) gX3_effect_X3_requireDriver rfl (by decide) (by decide) [0, 1, 2, 3, 4, 5, 6, 7, 8, 9, 10, 11, 12, 13, 14, 15, 16, 17] [] rfl rfl rfl rfl (by decide) 0 rfl rfl 1 rfl rfl (Nat.le_of_ble_eq_true rfl) (by decide +kernel) (fun E w1 hx => by obtain ⟨rfl, rfl⟩ := hx; exact ⟨Or.inl ⟨by unfold cdEffect; omega, rfl⟩, F, scr_rf hk, rfl⟩) htab (by decide) (by decide) dX3_effect_7
  · skip
    exact jr_tcallV (pc := 2) hh [.int (iI s0)] [] (t_X3_requireScenario l G h F V s0 ⟨by omega, by omega⟩ q1 (by omega) hlt) gX3_effect_X3_requireScenario rfl (by decide) (by decide) [0, 1, 2, 3, 4, 5, 6, 7, 8, 9, 10, 11, 12, 13, 14, 15, 16, 17] [] rfl rfl rfl rfl (by decide) 0 rfl rfl 1 rfl rfl (Nat.le_of_ble_eq_true rfl) (by decide +kernel) (fun E w1 hx => by obtain ⟨rfl, rfl⟩ := hx; exact ⟨Or.inl ⟨by unfold cdEffect; omega, rfl⟩, F, scr_rf hk, rfl⟩) htab (by decide) (by decide) dX3_effect_2
