/-! the law's own methods: they call the class, and tell by a number what it threw -/
def jPcL (G : jG) (w0 : va_W) (sz : Nat) (av : List Value) : Array Value → State → Prop := va_Pc av (fun U => (U.heap.size = sz ∧ va_P G.1 vwCl w0 U.heap ∧ va_K G.1 vwCl (jty G) U ∧ va_D (fun _ => True) w0 ∧ jN (va_A w0 sz) U) ∧ (∀ E ∈ jEX, ∀ nm ∈ jEX, E ≠ nm → va_Nc E nm U))
def jMetL (l : Launch) (y : MethodName) (ws : List Cond) (rm : Room) (G : jG) (w0 : va_W) (av : List Value) (post : Option Value → va_W → Prop) : Prop :=
  ∀ sz : Nat, vx_Met l y ws rm (jPcL G w0 sz av) (jQ G (va_A w0 sz) post) (fun _ _ _ => False) rm.cells rm.slots (va_A w0 sz)
theorem jPcL_blind (G : jG) (w0 : va_W) (sz : Nat) (av : List Value) : FrameBlind (jPcL G w0 sz av) := by
  intro a U g mk h
  obtain ⟨e, ⟨h1, h2, h3, h4, h5⟩, h6⟩ := h
  exact ⟨e, ⟨h1, h2, va_K.moved (u := U) (U := U.calling g mk a) (Vm.Alike.refl U.vm) h3, h4, h5.same (u := U) (U := U.calling g mk a) rfl rfl⟩, fun E hE nm hn hne => (h6 E hE nm hn hne).moved (u := U) (U := U.calling g mk a) (Vm.Alike.refl U.vm)⟩
theorem jMetL_of {l : Launch} {y : MethodName} {ws0 ws2 : List Cond} {rm : Room} {G : jG} {w0 : va_W} {av : List Value} {post : Option Value → va_W → Prop} {cc : ByteArray} {maxL : Nat} {ret : Option FieldType} {hs : List (Nat × Nat × Nat × Nat)} (hy : plainName y.cls = true) (hw : ws0 = Cond.codeWith y cc maxL ret hs :: ws2) (hlen : (lg_sl av).length ≤ maxL)
    (body : ∀ (p : Program) (e : Env) (s : State) (m : MethodId) (args : Array Value) (below : List Frame) (meth : Method) (c : Code) (A : Nat → Prop), jOK p s m args meth c A G cc ws0 y.cls maxL → meth.sig.returnType = ret → c.exceptionTable.toList = tableOf hs → (∀ E ∈ jEX, ∀ nm ∈ jEX, E ≠ nm → va_Nc E nm s) → J p l e rm s m args below meth c A G maxL 0 0 (MQ below (jQ G A post) args s rm.cells rm.slots A) w0 0 (lv_args 0 av) []) : jMetL l y ws0 rm G w0 av post := by
  intro sz
  refine vx_ofWH hy hw ?_
  intro p e s m args below meth c s₁ B hml hv
  obtain ⟨rfl, ⟨hsz, hP, hK, hD0, hN⟩, hnc⟩ := hv
  subst hsz
  rw [lg_entry_eq]
  have htab := vx_table (x := y) B (atoms_spec (ws := ws0) B.pre _ (by rw [hw]; exact List.mem_cons_self))
  exact vx_ret (body p e s m _ below meth c (va_A w0 s.heap.size) ⟨B.exec, B.bytes, hml, findClass_of_methodNamed B.named, atoms_spec (ws := ws0) B.pre, hK, fun q h => Or.inr h, B.notSynchronized, hN⟩ B.returns htab hnc s.heap [] _ hP (hD0.self (sz := s.heap.size)) va_S.rf (lv_entry av hlen))
section JLAW
variable {p : Program} {l : Launch} {e : Env} {R : Room} {s : State} {m : MethodId} {args : Array Value} {below : List Frame} {meth : Method} {c : Code} {A : Nat → Prop} {G : jG} {nL cells slots : Nat} {Q : State → Prop} {ws ws' : va_W} {pc : Nat} {lv lv' : List (Nat × Value)} {st : List Value} {cc : ByteArray} {Ts : List Cond} {own : String}
theorem jr_dast (h : jOK p s m args meth c A G cc Ts own nL) (q0 : Nat) {a n : Nat} {F : Nat → UInt64} {z : Int} {v : UInt64} (ha : ws[q0]? = some (a, .inl (G.2 4, n, .inr (.inr (.inr (.inl F)))))) (k0 : Nat) (hk : z = (k0 : Int)) (hlt : k0 < n) (hn : n < 2147483648) {F' : Nat → UInt64} (hF : vf_upd F k0 v = F') (hset : ws.set q0 (a, .inl (G.2 4, n, .inr (.inr (.inr (.inl F'))))) = ws') (hd : decode cc pc = .ok (.dastore, 1)) (k : J p l e R s m args below meth c A G nL cells slots Q ws' (pc + 1) lv st) : J p l e R s m args below meth c A G nL cells slots Q ws pc lv (.double v :: .int (iI z) :: .ref a :: st) := by
  intro H locs ls hP hD hS hl
  refine va_dast (jx h) (jb h) (jk h) hP hD hS q0 4 ha rfl (iI_in hk hlt hn) hd ?_
  rw [iI_nat hk (by omega), hF, hset]
  exact fun H1 locs1 hP1 hD1 hS1 => k H1 locs1 ls hP1 hD1 hS1 hl
theorem jr_dald (h : jOK p s m args meth c A G cc Ts own nL) (q0 : Nat) {a n : Nat} {F : Nat → UInt64} {z : Int} (ha : ws[q0]? = some (a, .inl (G.2 4, n, .inr (.inr (.inr (.inl F)))))) (k0 : Nat) (hk : z = (k0 : Int)) (hlt : k0 < n) (hn : n < 2147483648) (hd : decode cc pc = .ok (.daload, 1)) (k : J p l e R s m args below meth c A G nL cells slots Q ws (pc + 1) lv (.double (F k0) :: st)) : J p l e R s m args below meth c A G nL cells slots Q ws pc lv (.int (iI z) :: .ref a :: st) := by
  intro H locs ls hP hD hS hl
  refine va_dald (jx h) (jb h) (jk h) hP q0 4 ha rfl (iI_in hk hlt hn) hd ?_
  rw [iI_nat hk (by omega)]
  exact k H locs ls hP hD hS hl
theorem jr_f2d (h : jOK p s m args meth c A G cc Ts own nL) {x : UInt32} (hd : decode cc pc = .ok (.f2d, 1)) (hne : vf_n64 (FP.f2d x)) (k : J p l e R s m args below meth c A G nL cells slots Q ws (pc + 1) lv (.double (FP.f2d x) :: st)) : J p l e R s m args below meth c A G nL cells slots Q ws pc lv (.float x :: st) :=
  fun H locs ls hP hD hS hl => lv_f2d (jx h) (jb h) hd hne (k H locs ls hP hD hS hl)
end JLAW
abbrev wO (G : jG) (h : Nat → Nat) (F : Nat → Nat → Int) (V : Nat → Int) (o : Nat) (fo : Nat → Int) : va_W := wC G h F V ++ [(o, .inl (G.2 2, 1, .inr (.inl (jL fo))))]
abbrev wOD (G : jG) (h : Nat → Nat) (F : Nat → Nat → Int) (V : Nat → Int) (o : Nat) (fo : Nat → UInt64) : va_W := wC G h F V ++ [(o, .inl (G.2 4, 1, .inr (.inr (.inr (.inl fo)))))]
set_option maxHeartbeats 4000000 in
set_option maxRecDepth 100000 in
theorem w_addDriver (l : Launch) (hlt : l.stackTraces = false) (G : jG) (h : Nat → Nat) (F : Nat → Nat → Int) (V : Nat → Int) (o : Nat) (fo : Nat → Int) (z : Int) (hrz : jR z) (hk : okC F V) : jMetL l yL_addDriver wsL_addDriver { frames := 14, cells := 1, slots := 6, locals := 4000 } G (wO G h F V o fo) [.ref (h 0), .int (iI z), .ref o] (fun rv w1 => rv = some (.int (iI (cdAddDriver (V 3) z))) ∧ ∃ (F' : Nat → Nat → Int) (V' : Nat → Int) (fo' : Nat → Int), w1 = wO G h F' V' o fo' ∧ (cdAddDriver (V 3) z ≠ 0 → scr F F' ∧ V' = V) ∧ (cdAddDriver (V 3) z = 0 → fo' 0 = V 3 ∧ F' = uF F 0 (jU (F 0) (V 3).toNat z) ∧ V' = jU V 3 (V 3 + 1))) := by
  refine jMetL_of (cc := cL_addDriver) (maxL := 4) (ret := (some .int)) (hs := [(0, 9, 12, 13), (0, 9, 15, 15)]) (by decide +kernel) rfl (Nat.le_of_ble_eq_true rfl) ?_
  intro p e s m args below meth c A hh hret htab hnc
  obtain ⟨hV0, hV1, hV2, hV3, hV4, -⟩ := id hk
  have hrz1 := hrz.1
  have hrz2 := hrz.2
  refine jr_loc (lv' := [(0, .ref (h 0)), (1, .int (iI z)), (2, .ref o)]) [0, 1, 2] rfl ?_
  by_cases hcd : cdAddDriver (V 3) z = 0
  · skip
    have hcd2 := hcd
    unfold cdAddDriver at hcd2
    refine jr_aload_n (pc := 0) hh 2 dL_addDriver_0 rfl rfl ?_
    refine jr_iconst (pc := 1) hh dL_addDriver_1 ?_
    refine jr_aload_n (pc := 2) hh 0 dL_addDriver_2 rfl rfl ?_
    refine jr_iload_n (pc := 3) hh 1 dL_addDriver_3 rfl rfl ?_
    refine jr_callV (pc := 4) hh [.int (iI z)] [.int (iI 0), .ref o] (c_X3_addDriver l G h F V z hk (by omega) (by omega)) gL_addDriver_X3_addDriver rfl (by decide) (by decide) [0, 1, 2, 3, 4, 5, 6, 7, 8, 9, 10, 11, 12, 13, 14, 15, 16, 17] [18] rfl rfl rfl rfl (by decide) 0 rfl rfl 1 rfl rfl (Nat.le_of_ble_eq_true rfl) (by decide +kernel) dL_addDriver_4 (fun rv1 w1 h1 => ?_)
    obtain ⟨rfl, rfl⟩ := h1
    refine jr_perm (ws' := wO G h (uF F 0 (jU (F 0) (V 3).toNat z)) (jU V 3 (V 3 + 1)) o fo) (st := [.int (iI (V 3)), .int (iI 0), .ref o]) [1, 2, 3, 4, 5, 6, 7, 8, 9, 10, 11, 12, 13, 14, 15, 16, 17, 18, 0] rfl rfl ?_
    refine jr_i2l (pc := 7) hh dL_addDriver_7 ⟨by omega, by omega⟩ ?_
    refine jr_last (F := fo) (ws' := wO G h (uF F 0 (jU (F 0) (V 3).toNat z)) (jU V 3 (V 3 + 1)) o (jU fo 0 (V 3))) (pc := 8) hh 18 rfl 0 rfl (by decide) (by decide) rfl dL_addDriver_8 ?_
    refine jr_goto (tgt := 18) (pc := 9) hh dL_addDriver_9 (by decide) ?_
    refine jr_iconst (pc := 18) hh dL_addDriver_18 ?_
    exact jr_iret (pc := 19) hh hret rfl ⟨jsi hcd.symm, _, _, _, rfl, fun q => absurd hcd q, fun _ => ⟨rfl, rfl, rfl⟩⟩ (by decide) (by decide) dL_addDriver_19
  · skip
    refine jr_aload_n (pc := 0) hh 2 dL_addDriver_0 rfl rfl ?_
    refine jr_iconst (pc := 1) hh dL_addDriver_1 ?_
    refine jr_aload_n (pc := 2) hh 0 dL_addDriver_2 rfl rfl ?_
    refine jr_iload_n (pc := 3) hh 1 dL_addDriver_3 rfl rfl ?_
    refine jr_ccallV (pc := 4) hh [.int (iI z)] [.int (iI 0), .ref o] (t_X3_addDriver l G h F V z hrz hk hcd hlt) gL_addDriver_X3_addDriver rfl (by decide) (by decide) [0, 1, 2, 3, 4, 5, 6, 7, 8, 9, 10, 11, 12, 13, 14, 15, 16, 17] [18] rfl rfl rfl rfl (by decide) 0 rfl rfl 1 rfl rfl (Nat.le_of_ble_eq_true rfl) (by decide +kernel) dL_addDriver_4 (fun E w1 h1 => ?_)
    obtain ⟨h1, rfl⟩ := h1
    rcases h1 with ⟨hk1, rfl⟩ | ⟨hk1, rfl⟩
    · skip
      refine ⟨"java/lang/IllegalArgumentException", [], ⟨0, 9, 12, 13⟩, [⟨0, 9, 15, 15⟩], htab.trans rfl, (fun z hz => absurd hz List.not_mem_nil), by decide, by decide, jts hh _ (by decide +kernel : Cond.classLink RL 13 "java/lang/IllegalArgumentException" ∈ wsL_addDriver), va_Nw.use rfl ((jnn hh).2.2.1.1 "java/lang/IllegalArgumentException" (by decide)), fun q => ?_⟩
      refine jr_ws (ws' := [(o, .inl (G.2 2, 1, .inr (.inl (jL fo))))] ++ wC G h F V) rfl ?_
      refine jr_perm (ws' := wO G h F V o fo) [1, 2, 3, 4, 5, 6, 7, 8, 9, 10, 11, 12, 13, 14, 15, 16, 17, 18, 0] rfl rfl ?_
      refine jr_astore_n (lv' := [(3, .ref q), (0, .ref (h 0)), (1, .int (iI z)), (2, .ref o)]) (pc := 12) hh dL_addDriver_12 rfl (by decide) rfl ?_
      refine jr_iconst (pc := 13) hh dL_addDriver_13 ?_
      exact jr_iret (pc := 14) hh hret rfl ⟨jsi hk1.symm, _, _, _, rfl, fun _ => ⟨scr_rf hk, rfl⟩, fun q => absurd q hcd⟩ (by decide) (by decide) dL_addDriver_14
    · skip
      refine ⟨"java/lang/IllegalStateException", [⟨0, 9, 12, 13⟩], ⟨0, 9, 15, 15⟩, [], htab.trans rfl, ?_, by decide, by decide, jts hh _ (by decide +kernel : Cond.classLink RL 15 "java/lang/IllegalStateException" ∈ wsL_addDriver), va_Nw.use rfl ((jnn hh).2.2.1.1 "java/lang/IllegalStateException" (by decide)), fun q => ?_⟩
      · intro z hz
        rcases List.mem_cons.mp hz with rfl | hz
        · exact Or.inr ⟨by decide, "java/lang/IllegalArgumentException", jts hh _ (by decide +kernel : Cond.classLink RL 13 "java/lang/IllegalArgumentException" ∈ wsL_addDriver), hnc "java/lang/IllegalStateException" (by decide) "java/lang/IllegalArgumentException" (by decide) (by decide)⟩
        exact absurd hz List.not_mem_nil
      refine jr_ws (ws' := [(o, .inl (G.2 2, 1, .inr (.inl (jL fo))))] ++ wC G h F V) rfl ?_
      refine jr_perm (ws' := wO G h F V o fo) [1, 2, 3, 4, 5, 6, 7, 8, 9, 10, 11, 12, 13, 14, 15, 16, 17, 18, 0] rfl rfl ?_
      refine jr_astore_n (lv' := [(3, .ref q), (0, .ref (h 0)), (1, .int (iI z)), (2, .ref o)]) (pc := 15) hh dL_addDriver_15 rfl (by decide) rfl ?_
      refine jr_iconst (pc := 16) hh dL_addDriver_16 ?_
      exact jr_iret (pc := 17) hh hret rfl ⟨jsi hk1.symm, _, _, _, rfl, fun _ => ⟨scr_rf hk, rfl⟩, fun q => absurd q hcd⟩ (by decide) (by decide) dL_addDriver_17
set_option maxHeartbeats 4000000 in
set_option maxRecDepth 100000 in
theorem w_setDriver (l : Launch) (hlt : l.stackTraces = false) (G : jG) (h : Nat → Nat) (F : Nat → Nat → Int) (V : Nat → Int) (o : Nat) (fo : Nat → Int) (d z : Int) (hrd : jR d) (hrz : jR z) (hk : okC F V) : jMetL l yL_setDriver wsL_setDriver { frames := 14, cells := 1, slots := 6, locals := 4000 } G (wO G h F V o fo) [.ref (h 0), .int (iI d), .int (iI z), .ref o] (fun rv w1 => rv = some (.int (iI (cdSetDriver (V 3) d z))) ∧ ∃ (F' : Nat → Nat → Int) (V' : Nat → Int) (fo' : Nat → Int), w1 = wO G h F' V' o fo' ∧ (cdSetDriver (V 3) d z ≠ 0 → scr F F' ∧ V' = V) ∧ (cdSetDriver (V 3) d z = 0 → fo' 0 = cntC (uF F 0 (jU (F 0) d.toNat z)) V ∧ scS (uF F 0 (jU (F 0) d.toNat z)) F' V 12 ∧ V' = V)) := by
  refine jMetL_of (cc := cL_setDriver) (maxL := 5) (ret := (some .int)) (hs := [(0, 10, 13, 21), (0, 10, 17, 13)]) (by decide +kernel) rfl (Nat.le_of_ble_eq_true rfl) ?_
  intro p e s m args below meth c A hh hret htab hnc
  obtain ⟨hV0, hV1, hV2, hV3, hV4, -⟩ := id hk
  have hrd1 := hrd.1
  have hrd2 := hrd.2
  have hrz1 := hrz.1
  have hrz2 := hrz.2
  refine jr_loc (lv' := [(0, .ref (h 0)), (1, .int (iI d)), (2, .int (iI z)), (3, .ref o)]) [0, 1, 2, 3] rfl ?_
  by_cases hcd : cdSetDriver (V 3) d z = 0
  · skip
    have hcd2 := hcd
    unfold cdSetDriver at hcd2
    obtain ⟨dN, rfl⟩ : ∃ k : Nat, d = (k : Int) := ⟨d.toNat, by omega⟩
    try simp only [Int.toNat_natCast] at hcd2
    have hcB := cntC_B (F := (uF F 0 (jU (F 0) dN z))) (V := V) hV2 12
    rw [show sumTo (rowC (uF F 0 (jU (F 0) dN z)) V) 12 = cntC (uF F 0 (jU (F 0) dN z)) V from rfl] at hcB
    refine jr_aload_n (pc := 0) hh 3 dL_setDriver_0 rfl rfl ?_
    refine jr_iconst (pc := 1) hh dL_setDriver_1 ?_
    refine jr_aload_n (pc := 2) hh 0 dL_setDriver_2 rfl rfl ?_
    refine jr_iload_n (pc := 3) hh 1 dL_setDriver_3 rfl rfl ?_
    refine jr_iload_n (pc := 4) hh 2 dL_setDriver_4 rfl rfl ?_
    refine jr_callV (pc := 5) hh [.int (iI (dN : Int)), .int (iI z)] [.int (iI 0), .ref o] (c_X3_setDriver l G h F V dN z hk (by omega) (by omega)) gL_setDriver_X3_setDriver rfl (by decide) (by decide) [0, 1, 2, 3, 4, 5, 6, 7, 8, 9, 10, 11, 12, 13, 14, 15, 16, 17] [18] rfl rfl rfl rfl (by decide) 0 rfl rfl 2 rfl rfl (Nat.le_of_ble_eq_true rfl) (by decide +kernel) dL_setDriver_5 (fun rv1 w1 h1 => ?_)
    obtain ⟨rfl, F', hF', rfl⟩ := h1
    refine jr_perm (ws' := wO G h F' V o fo) (st := [.int (iI (cntC (uF F 0 (jU (F 0) dN z)) V)), .int (iI 0), .ref o]) [1, 2, 3, 4, 5, 6, 7, 8, 9, 10, 11, 12, 13, 14, 15, 16, 17, 18, 0] rfl rfl ?_
    refine jr_i2l (pc := 8) hh dL_setDriver_8 ⟨by omega, by omega⟩ ?_
    refine jr_last (F := fo) (ws' := wO G h F' V o (jU fo 0 (cntC (uF F 0 (jU (F 0) dN z)) V))) (pc := 9) hh 18 rfl 0 rfl (by decide) (by decide) rfl dL_setDriver_9 ?_
    refine jr_goto (tgt := 21) (pc := 10) hh dL_setDriver_10 (by decide) ?_
    refine jr_iconst (pc := 21) hh dL_setDriver_21 ?_
    exact jr_iret (pc := 22) hh hret rfl ⟨jsi hcd.symm, _, _, _, rfl, fun q => absurd hcd q, fun _ => ⟨rfl, hF', rfl⟩⟩ (by decide) (by decide) dL_setDriver_22
  · skip
    refine jr_aload_n (pc := 0) hh 3 dL_setDriver_0 rfl rfl ?_
    refine jr_iconst (pc := 1) hh dL_setDriver_1 ?_
    refine jr_aload_n (pc := 2) hh 0 dL_setDriver_2 rfl rfl ?_
    refine jr_iload_n (pc := 3) hh 1 dL_setDriver_3 rfl rfl ?_
    refine jr_iload_n (pc := 4) hh 2 dL_setDriver_4 rfl rfl ?_
    refine jr_ccallV (pc := 5) hh [.int (iI d), .int (iI z)] [.int (iI 0), .ref o] (t_X3_setDriver l G h F V d z hrd hrz hk hcd hlt) gL_setDriver_X3_setDriver rfl (by decide) (by decide) [0, 1, 2, 3, 4, 5, 6, 7, 8, 9, 10, 11, 12, 13, 14, 15, 16, 17] [18] rfl rfl rfl rfl (by decide) 0 rfl rfl 2 rfl rfl (Nat.le_of_ble_eq_true rfl) (by decide +kernel) dL_setDriver_5 (fun E w1 h1 => ?_)
    obtain ⟨h1, rfl⟩ := h1
    rcases h1 with ⟨hk1, rfl⟩ | ⟨hk1, rfl⟩
    · skip
      refine ⟨"java/lang/IndexOutOfBoundsException", [], ⟨0, 10, 13, 21⟩, [⟨0, 10, 17, 13⟩], htab.trans rfl, (fun z hz => absurd hz List.not_mem_nil), by decide, by decide, jts hh _ (by decide +kernel : Cond.classLink RL 21 "java/lang/IndexOutOfBoundsException" ∈ wsL_setDriver), va_Nw.use rfl ((jnn hh).2.2.1.1 "java/lang/IndexOutOfBoundsException" (by decide)), fun q => ?_⟩
      refine jr_ws (ws' := [(o, .inl (G.2 2, 1, .inr (.inl (jL fo))))] ++ wC G h F V) rfl ?_
      refine jr_perm (ws' := wO G h F V o fo) [1, 2, 3, 4, 5, 6, 7, 8, 9, 10, 11, 12, 13, 14, 15, 16, 17, 18, 0] rfl rfl ?_
      refine jr_astore (lv' := [(4, .ref q), (0, .ref (h 0)), (1, .int (iI d)), (2, .int (iI z)), (3, .ref o)]) (pc := 13) hh dL_setDriver_13 (by decide) rfl ?_
      refine jr_iconst (pc := 15) hh dL_setDriver_15 ?_
      exact jr_iret (pc := 16) hh hret rfl ⟨jsi hk1.symm, _, _, _, rfl, fun _ => ⟨scr_rf hk, rfl⟩, fun q => absurd q hcd⟩ (by decide) (by decide) dL_setDriver_16
    · skip
      refine ⟨"java/lang/IllegalArgumentException", [⟨0, 10, 13, 21⟩], ⟨0, 10, 17, 13⟩, [], htab.trans rfl, ?_, by decide, by decide, jts hh _ (by decide +kernel : Cond.classLink RL 13 "java/lang/IllegalArgumentException" ∈ wsL_setDriver), va_Nw.use rfl ((jnn hh).2.2.1.1 "java/lang/IllegalArgumentException" (by decide)), fun q => ?_⟩
      · intro z hz
        rcases List.mem_cons.mp hz with rfl | hz
        · exact Or.inr ⟨by decide, "java/lang/IndexOutOfBoundsException", jts hh _ (by decide +kernel : Cond.classLink RL 21 "java/lang/IndexOutOfBoundsException" ∈ wsL_setDriver), hnc "java/lang/IllegalArgumentException" (by decide) "java/lang/IndexOutOfBoundsException" (by decide) (by decide)⟩
        exact absurd hz List.not_mem_nil
      refine jr_ws (ws' := [(o, .inl (G.2 2, 1, .inr (.inl (jL fo))))] ++ wC G h F V) rfl ?_
      refine jr_perm (ws' := wO G h F V o fo) [1, 2, 3, 4, 5, 6, 7, 8, 9, 10, 11, 12, 13, 14, 15, 16, 17, 18, 0] rfl rfl ?_
      refine jr_astore (lv' := [(4, .ref q), (0, .ref (h 0)), (1, .int (iI d)), (2, .int (iI z)), (3, .ref o)]) (pc := 17) hh dL_setDriver_17 (by decide) rfl ?_
      refine jr_iconst (pc := 19) hh dL_setDriver_19 ?_
      exact jr_iret (pc := 20) hh hret rfl ⟨jsi hk1.symm, _, _, _, rfl, fun _ => ⟨scr_rf hk, rfl⟩, fun q => absurd q hcd⟩ (by decide) (by decide) dL_setDriver_20
