/-! the law's body: rows for it -/
section JLB
variable {p : Program} {l : Launch} {e : Env} {R : Room} {s : State} {m : MethodId} {args : Array Value} {below : List Frame} {meth : Method} {c : Code} {A : Nat → Prop} {G : jG} {nL cells slots : Nat} {Q : State → Prop} {ws ws' : va_W} {pc : Nat} {lv lv' : List (Nat × Value)} {st : List Value} {cc : ByteArray} {Ts : List Cond} {own : String}
theorem jr_callSL (h : jOK p s m args meth c A G cc Ts own nL) (hnc : ∀ E ∈ jEX, ∀ nm ∈ jEX, E ≠ nm → va_Nc E nm s) {index maxL : Nat} {y : MethodName} {bytes : ByteArray} {ret : Option FieldType} {hs : List (Nat × Nat × Nat × Nat)} {wsY ws2 : List Cond} {rm : Room} {wc : va_W} (As rest : List Value) {post : Option Value → va_W → Prop} (hM : jMetL l y wsY rm G wc As post) (hg : GoodIn Ts (va_wsS own index y wsY)) (hw : wsY = .codeWith y bytes maxL ret hs :: ws2) (hRm : rm.frames + 1 ≤ R.frames ∧ 8 + (maxL + 11) + rm.locals ≤ R.locals) (hf : cells + rm.cells ≤ R.cells ∧ slots + rm.slots ≤ R.slots) (isC isR : List Nat) (hC : isC.map (fun i => ws[i]?) = wc.map some) (hRr : isR.map (fun i => ws[i]?) = (isR.filterMap (fun i => ws[i]?)).map some) (hnC : va_nd isC = true) (hnR : va_nd isR = true) (hdis : ∀ i ∈ isR, i ∉ isC) (n : Nat) (hn : As.length = n) (hst : st = As.reverse ++ rest) (hrest : (rest.map fun v => v.category).sum ≤ 8) (hy : y.cls ≠ "java/lang/invoke/MethodHandle" ∧ y.cls ≠ "java/lang/invoke/VarHandle" ∧ (parseMethodDescriptor y.desc).map (fun d => d.parameters.length) = some n) (hd : decode cc pc = .ok (.invokestatic index, 3))
    (k : ∀ (rv : Option Value) (w1 : va_W), post rv w1 → J p l e R s m args below meth c A G nL (cells + rm.cells) (slots + rm.slots) Q (isR.filterMap (fun i => ws[i]?) ++ w1) (pc + 3) lv (rv.toList ++ rest)) : J p l e R s m args below meth c A G nL cells slots Q ws pc lv st := by
  subst hst
  intro H locs ls hP hD hS hl
  have hr := vx_runSX (e := e) (below := below) (meth := meth) (rest := rest) (cells := cells) (slots := slots) (locs := locs) (g := F0 m pc ls (As.reverse ++ rest)) (XC := fun _ _ _ => False) ⟨jx h, jb h, jml h, jown h, jts h⟩ (hM H.size) (vx_cwSW n (jts h) hg hw rfl rfl hy hRm) ⟨jPcL_blind G wc H.size _, fun U hU hW => by
    obtain ⟨e1, e2⟩ := jpre h hP hD hS hC hnC As U hU hW
    exact ⟨e1, e2, fun E hE nm hn9 hne => (hnc E hE nm hn9 hne).moved hW.alike⟩⟩ rfl hn hl.1 rfl (lv_room hrest) hd hf
  refine jrun_go (a := As.toArray) h hP hD hS hl hC hRr hnR hdis (fun T hT X => ?_) k
  rcases hr T hT X with h1 | ⟨q, st₀, t, T', L, E, ce, h0, X', hL, e1, e2, hx, -⟩
  · exact h1
  · exact hx.elim
theorem jr_sld (h : jOK p s m args meth c A G cc Ts own nL) {b L : Nat} {xs : Nat → Int32} (hX : va_X b L xs s s.heap) (hbl : b < s.heap.size) (hbA : ¬ A b) {z : Int} (k0 : Nat) (hk : z = (k0 : Int)) (hlt : k0 < L) (hL : L < 2147483648) (hd : decode cc pc = .ok (.iaload, 1)) (k : J p l e R s m args below meth c A G nL cells slots Q ws (pc + 1) lv (.int (iI (xs k0).toInt) :: st)) : J p l e R s m args below meth c A G nL cells slots Q ws pc lv (.int (iI z) :: .ref b :: st) := by
  intro H locs ls hP hD hS hl
  refine va_sld (jx h) (jb h) hX hbl hbA hS (iI_in hk hlt hL) hd ?_
  rw [iI_nat hk (by omega)]
  have h1 := k H locs ls hP hD hS hl
  rw [iI_of] at h1
  exact h1
theorem jr_slen (h : jOK p s m args meth c A G cc Ts own nL) {b L : Nat} {xs : Nat → Int32} (hX : va_X b L xs s s.heap) (hbl : b < s.heap.size) (hbA : ¬ A b) (hd : decode cc pc = .ok (.arraylength, 1)) (k : J p l e R s m args below meth c A G nL cells slots Q ws (pc + 1) lv (.int (iI (L : Int)) :: st)) : J p l e R s m args below meth c A G nL cells slots Q ws pc lv (.ref b :: st) := by
  intro H locs ls hP hD hS hl
  refine va_slen (jx h) (jb h) hX hbl hbA hS hd ?_
  have h1 := k H locs ls hP hD hS hl
  rw [show iI (L : Int) = Int32.ofNat L from Int32.ofInt_eq_ofNat] at h1
  exact h1
theorem jr_iand (h : jOK p s m args meth c A G cc Ts own nL) {a b : Int} (hd : decode cc pc = .ok (.iand, 1)) (k : ∀ w : Int, jR w → J p l e R s m args below meth c A G nL cells slots Q ws (pc + 1) lv (.int (iI w) :: st)) : J p l e R s m args below meth c A G nL cells slots Q ws pc lv (.int (iI b) :: .int (iI a) :: st) := by
  intro H locs ls hP hD hS hl
  refine lv_iand (jx h) (jb h) hd ?_
  have h1 := k (iI a &&& iI b).toInt (iI_range _) H locs ls hP hD hS hl
  rw [iI_of] at h1
  exact h1
def c16 (a : Int) : Int := (((iI a).toUInt32 % 65536).toInt32).toInt
theorem c16_B (a : Int) : 0 ≤ c16 a ∧ c16 a ≤ 65535 := by
  unfold c16
  have h : ((iI a).toUInt32 % 65536).toNat < 65536 := by rw [UInt32.toNat_mod]; exact Nat.mod_lt _ (by decide)
  have e : (((iI a).toUInt32 % 65536).toInt32).toInt = (((iI a).toUInt32 % 65536).toNat : Int) := by
    show (((iI a).toUInt32 % 65536).toInt32.toBitVec).toInt = _
    rw [BitVec.toInt_eq_toNat_of_lt]
    · rfl
    · show 2 * ((iI a).toUInt32 % 65536).toNat < 2 ^ 32
      omega
  rw [e]
  omega
theorem jr_i2c (h : jOK p s m args meth c A G cc Ts own nL) {a : Int} (hd : decode cc pc = .ok (.i2c, 1)) (k : J p l e R s m args below meth c A G nL cells slots Q ws (pc + 1) lv (.int (iI (c16 a)) :: st)) : J p l e R s m args below meth c A G nL cells slots Q ws pc lv (.int (iI a) :: st) :=
  fun H locs ls hP hD hS hl => lv_i2c (jx h) (jb h) hd (iI_of _).symm (k H locs ls hP hD hS hl)
theorem jr_tableIn (h : jOK p s m args meth c A G cc Ts own nL) {dflt lo hi : Int} {offs : Array Int} {len : Nat} {z off : Int} {tgt : Nat} (hd : decode cc pc = .ok (.tableswitch dflt lo hi offs, len)) (hz : jR z) (h1 : lo ≤ z) (h2 : z ≤ hi) (ho : offs[(z - lo).toNat]? = some off) (ht : (pc : Int) + off = (tgt : Int)) (k : J p l e R s m args below meth c A G nL cells slots Q ws tgt lv st) : J p l e R s m args below meth c A G nL cells slots Q ws pc lv (.int (iI z) :: st) :=
  fun H locs ls hP hD hS hl => lv_tableIn (jx h) (jb h) hd (by rw [iI_toInt hz]; omega) (by rw [iI_toInt hz]; omega) (by rw [iI_toInt hz]; exact ho) ht (k H locs ls hP hD hS hl)
theorem jr_tableOut (h : jOK p s m args meth c A G cc Ts own nL) {dflt lo hi : Int} {offs : Array Int} {len : Nat} {z : Int} {tgt : Nat} (hd : decode cc pc = .ok (.tableswitch dflt lo hi offs, len)) (hz : jR z) (h1 : z < lo ∨ hi < z) (ht : (pc : Int) + dflt = (tgt : Int)) (k : J p l e R s m args below meth c A G nL cells slots Q ws tgt lv st) : J p l e R s m args below meth c A G nL cells slots Q ws pc lv (.int (iI z) :: st) :=
  fun H locs ls hP hD hS hl => lv_tableOut (jx h) (jb h) hd (by rw [iI_toInt hz]; exact h1) ht (k H locs ls hP hD hS hl)
theorem jr_fstore (h : jOK p s m args meth c A G cc Ts own nL) {i : Nat} {x : UInt32} (hd : decode cc pc = .ok (.fstore i, 2)) (hn : i < nL) (hl0 : (i, Value.float x) :: lv.filter (fun q => !(q.1 == i) && !(q.1 + 1 == i && q.2.category == 2)) = lv') (k : J p l e R s m args below meth c A G nL cells slots Q ws (pc + 2) lv' st) : J p l e R s m args below meth c A G nL cells slots Q ws pc lv (.float x :: st) :=
  fun H locs ls hP hD hS hl => lv_fstore (jx h) (jb h) hd hl hn hl0 (fun ls' hl' => k H locs ls' hP hD hS hl')
theorem jr_dstore (h : jOK p s m args meth c A G cc Ts own nL) {i : Nat} {x : UInt64} (hd : decode cc pc = .ok (.dstore i, 2)) (hn : i + 1 < nL) (hl0 : (i, Value.double x) :: lv.filter (fun q => !(q.1 == i) && (!(q.1 == i + 1) && !(q.1 + 1 == i && q.2.category == 2))) = lv') (k : J p l e R s m args below meth c A G nL cells slots Q ws (pc + 2) lv' st) : J p l e R s m args below meth c A G nL cells slots Q ws pc lv (.double x :: st) :=
  fun H locs ls hP hD hS hl => lv_dstore (jx h) (jb h) hd hl hn hl0 (fun ls' hl' => k H locs ls' hP hD hS hl')
theorem jr_fload (h : jOK p s m args meth c A G cc Ts own nL) (q : Nat) {i : Nat} {x : UInt32} (hd : decode cc pc = .ok (.fload i, 2)) (hk : lv[q]? = some (i, .float x)) (k : J p l e R s m args below meth c A G nL cells slots Q ws (pc + 2) lv (.float x :: st)) : J p l e R s m args below meth c A G nL cells slots Q ws pc lv st :=
  fun H locs ls hP hD hS hl => lv_fload (jx h) (jb h) hd (lv_at hl q hk) (k H locs ls hP hD hS hl)
theorem jr_dload (h : jOK p s m args meth c A G cc Ts own nL) (q : Nat) {i : Nat} {x : UInt64} (hd : decode cc pc = .ok (.dload i, 2)) (hk : lv[q]? = some (i, .double x)) (k : J p l e R s m args below meth c A G nL cells slots Q ws (pc + 2) lv (.double x :: st)) : J p l e R s m args below meth c A G nL cells slots Q ws pc lv st :=
  fun H locs ls hP hD hS hl => lv_dload (jx h) (jb h) hd (lv_at hl q hk) (k H locs ls hP hD hS hl)
theorem jr_dcmp_same (h : jOK p s m args meth c A G cc Ts own nL) {x y : UInt64} (hxy : x = y) (hn : FP.Core.dIsNaN x = false) (hd : decode cc pc = .ok (.dcmp .l, 1)) (k : J p l e R s m args below meth c A G nL cells slots Q ws (pc + 1) lv (.int (iI 0) :: st)) : J p l e R s m args below meth c A G nL cells slots Q ws pc lv (.double y :: .double x :: st) := by
  subst hxy
  intro H locs ls hP hD hS hl
  refine lv_dcmp (jx h) (jb h) hd ?_
  have e0 : FP.dcmp x x = some .eq := FP.Core.dcmp_self ((FP.Core.notNaN_iff x).mp hn)
  rw [e0]
  exact k H locs ls hP hD hS hl
end JLB
abbrev wQ (G : jG) (h : Nat → Nat) (F : Nat → Nat → Int) (V : Nat → Int) (h2 : Nat → Nat) (F2 : Nat → Nat → Int) (V2 : Nat → Int) (fd : Nat → Int) (o : Nat) (fo : Nat → Int) (od : Nat) (fdd : Nat → UInt64) : va_W := wC G h F V ++ (wM G h2 F2 V2 fd ++ [(o, .inl (G.2 2, 1, .inr (.inl (jL fo)))), (od, .inl (G.2 4, 1, .inr (.inr (.inr (.inl fdd)))))])
set_option maxHeartbeats 4000000 in
set_option maxRecDepth 100000 in
theorem k_addDriver {p : Program} {l : Launch} {e : Env} {s : State} {m : MethodId} {args : Array Value} {below : List Frame} {meth : Method} {c : Code} {A : Nat → Prop} {G : jG} {Q : State → Prop} {b L n : Nat} {xs : Nat → Int32} {h h2 : Nat → Nat} {o od : Nat} {FC : Nat → Nat → Int} {VC : Nat → Int} {FM : Nat → Nat → Int} {VM fd fo : Nat → Int} {fdd : Nat → UInt64}
    (hh : jOK p s m args meth c A G cL_law wsL_law RL 9) (hnc : ∀ E ∈ jEX, ∀ nm ∈ jEX, E ≠ nm → va_Nc E nm s) (hlt : l.stackTraces = false) (hX : va_X b L xs s s.heap) (hbl : b < s.heap.size) (hbA : ¬ A b) (hn : 5 * n + 5 ≤ L) (hL : L ≤ 2560) (hI : Inv FC VC FM VM)
    (next : ∀ (FC : Nat → Nat → Int) (VC : Nat → Int) (FM : Nat → Nat → Int) (VM fd fo : Nat → Int) (fdd : Nat → UInt64), Inv FC VC FM VM → J p l e room_1 s m args below meth c A G 9 (37 + (n + 1)) (1592 + 6 * (n + 1)) Q (wQ G h FC VC h2 FM VM fd o fo od fdd) 1554 [(0, .ref b), (1, .ref (h 0)), (2, .ref (h2 0)), (3, .ref o), (4, .ref od), (5, .int (iI ((5 * n : Nat) : Int)))] []) : J p l e room_1 s m args below meth c A G 9 (37 + n) (1592 + 6 * n) Q (wQ G h FC VC h2 FM VM fd o fo od fdd) 144 [(0, .ref b), (1, .ref (h 0)), (2, .ref (h2 0)), (3, .ref o), (4, .ref od), (5, .int (iI ((5 * n : Nat) : Int)))] [] := by
  have hok := okC_of hI
  have hown := inv_own hI
  refine jr_aload_n (pc := 144) hh 1 dL_law_144 rfl rfl ?_
  refine jr_aload_n (pc := 145) hh 0 dL_law_145 rfl rfl ?_
  refine jr_iload (pc := 146) hh 5 dL_law_146 rfl ?_
  refine jr_iconst (pc := 148) hh dL_law_148 ?_
  refine jr_iadd (pc := 149) hh dL_law_149 ?_
  refine jr_sld (pc := 150) hh hX hbl hbA (5 * n + 1) (by omega) (by omega) (by omega) dL_law_150 ?_
  refine jr_aload_n (pc := 151) hh 3 dL_law_151 rfl rfl ?_
  refine jr_callSL (pc := 152) hh hnc [.ref (h 0), .int (iI (xs (5 * n + 1)).toInt), .ref o] [] (w_addDriver l hlt G h FC VC o fo ((xs (5 * n + 1)).toInt) (iI_range _) hok) gL_law_L_addDriver rfl (by decide) ⟨by show 37 + n + 1 ≤ 3130; omega, by show 1592 + 6 * n + 6 ≤ 120502; omega⟩ [0, 1, 2, 3, 4, 5, 6, 7, 8, 9, 10, 11, 12, 13, 14, 15, 16, 17, 35] [18, 19, 20, 21, 22, 23, 24, 25, 26, 27, 28, 29, 30, 31, 32, 33, 34, 36] rfl rfl rfl rfl (by decide) 3 rfl rfl (Nat.le_of_ble_eq_true rfl) (by decide +kernel) dL_law_152 (fun rv1 w1 hw1 => ?_)
  obtain ⟨rfl, FC', VC', fo', rfl, hc1, hc2⟩ := hw1
  generalize hcdC : cdAddDriver (VC 3) ((xs (5 * n + 1)).toInt) = kC at hc1 hc2
  refine jr_perm (ws' := (wQ G h FC' VC' h2 FM VM fd o fo' od fdd)) (st := [.int (iI kC)]) [18, 19, 20, 21, 22, 23, 24, 25, 26, 27, 28, 29, 30, 31, 32, 33, 34, 35, 0, 1, 2, 3, 4, 5, 6, 7, 8, 9, 10, 11, 12, 13, 14, 15, 16, 36, 17] rfl rfl ?_
  refine jr_istore (lv' := [(6, .int (iI kC)), (0, .ref b), (1, .ref (h 0)), (2, .ref (h2 0)), (3, .ref o), (4, .ref od), (5, .int (iI ((5 * n : Nat) : Int)))]) (pc := 155) hh dL_law_155 (by decide) rfl ?_
  refine jr_aload_n (pc := 157) hh 3 dL_law_157 rfl rfl ?_
  refine jr_aload_n (pc := 158) hh 1 dL_law_158 rfl rfl ?_
  refine jr_iload (pc := 159) hh 6 dL_law_159 rfl ?_
  refine jr_iconst (pc := 161) hh dL_law_161 ?_
  refine jr_iadd (pc := 162) hh dL_law_162 ?_
  refine jr_sld (pc := 163) hh hX hbl hbA (5 * n + 1) (by omega) (by omega) (by omega) dL_law_163 ?_
  refine jr_callV (pc := 164) hh [.int (iI (xs (5 * n + 1)).toInt)] [] (c_X4_addDriver l G h2 FM VM fd ((xs (5 * n + 1)).toInt) (iI_range _) hI.1) gL_law_X4_addDriver rfl (by decide) ⟨by show 37 + n + 1 + 0 ≤ 3130; omega, by show 1592 + 6 * n + 6 + 0 ≤ 120502; omega⟩ [18, 19, 20, 21, 22, 23, 24, 25, 26, 27, 28, 29, 30, 31, 32, 33, 34] [0, 1, 2, 3, 4, 5, 6, 7, 8, 9, 10, 11, 12, 13, 14, 15, 16, 17, 35, 36] rfl rfl rfl rfl (by decide) 0 rfl rfl 1 rfl rfl (Nat.le_of_ble_eq_true rfl) (by decide +kernel) dL_law_164 (fun rv2 w2 hw2 => ?_)
  obtain ⟨v, FM', VM', fd', rfl, rfl, hm1, hm2⟩ := hw2
  rw [← hcdC] at hc1 hc2
  have hop := op_addDriver hI hc1 hc2 hm1 hm2
  rw [hcdC] at hop
  obtain ⟨h0, hkr, hval, hI2⟩ := hop
  refine jr_perm (ws' := (wQ G h FC' VC' h2 FM' VM' fd' o fo' od fdd)) (st := [.int (iI v)]) [0, 1, 2, 3, 4, 5, 6, 7, 8, 9, 10, 11, 12, 13, 14, 15, 16, 17, 20, 21, 22, 23, 24, 25, 26, 27, 28, 29, 30, 31, 32, 33, 34, 35, 36, 18, 19] rfl rfl ?_
  refine jr_istore (lv' := [(7, .int (iI v)), (6, .int (iI kC)), (0, .ref b), (1, .ref (h 0)), (2, .ref (h2 0)), (3, .ref o), (4, .ref od), (5, .int (iI ((5 * n : Nat) : Int)))]) (pc := 167) hh dL_law_167 (by decide) rfl ?_
  refine jr_aload_n (pc := 169) hh 4 dL_law_169 rfl rfl ?_
  refine jr_callV (pc := 170) hh [] [] (c_X4_thrown l G h2 FM' VM' fd') gL_law_X4_thrown rfl (by decide) ⟨by show 37 + n + 1 + 0 + 0 ≤ 3130; omega, by show 1592 + 6 * n + 6 + 0 + 0 ≤ 120502; omega⟩ [18, 19, 20, 21, 22, 23, 24, 25, 26, 27, 28, 29, 30, 31, 32, 33, 34] [0, 1, 2, 3, 4, 5, 6, 7, 8, 9, 10, 11, 12, 13, 14, 15, 16, 17, 35, 36] rfl rfl rfl rfl (by decide) 0 rfl rfl 0 rfl rfl (Nat.le_of_ble_eq_true rfl) (by decide +kernel) dL_law_170 (fun rv3 w3 hw3 => ?_)
  obtain ⟨rfl, rfl⟩ := hw3
  refine jr_perm (ws' := (wQ G h FC' VC' h2 FM' VM' fd' o fo' od fdd)) (st := [.int (iI (VM' 0))]) [0, 1, 2, 3, 4, 5, 6, 7, 8, 9, 10, 11, 12, 13, 14, 15, 16, 17, 20, 21, 22, 23, 24, 25, 26, 27, 28, 29, 30, 31, 32, 33, 34, 35, 36, 18, 19] rfl rfl ?_
  refine jr_topi (b := kC) h0 ?_
  refine jr_iload (pc := 173) hh 1 dL_law_173 rfl ?_
  refine jr_icmp_eq (tgt := 180) (pc := 175) hh dL_law_175 (by decide) ⟨by omega, by omega⟩ ⟨by omega, by omega⟩ (fun _ => ?_) (fun c9 => absurd rfl c9)
  refine jr_iload (pc := 180) hh 1 dL_law_180 rfl ?_
  refine jr_if_ne (tgt := 197) (pc := 182) hh dL_law_182 (by decide) ⟨by omega, by omega⟩ (fun _ => ?_) (fun c9 => ?_)
  · skip
    refine jr_goto (tgt := 1554) (pc := 197) hh dL_law_197 (by decide) ?_
    refine jr_loc (lv' := [(0, .ref b), (1, .ref (h 0)), (2, .ref (h2 0)), (3, .ref o), (4, .ref od), (5, .int (iI ((5 * n : Nat) : Int)))]) [2, 3, 4, 5, 6, 7] rfl ?_
    exact jr_room (by show 37 + n + 1 + 0 + 0 ≤ 37 + (n + 1); omega) (by show 1592 + 6 * n + 6 + 0 + 0 ≤ 1592 + 6 * (n + 1); omega) (next FC' VC' FM' VM' fd' fo' fdd hI2)
  · skip
    obtain ⟨hv1, hv2⟩ := hval c9
    have hv3 := hv2.1
    have hv4 := hv2.2
    refine jr_aload_n (pc := 185) hh 5 dL_law_185 rfl rfl ?_
    refine jr_iconst (pc := 186) hh dL_law_186 ?_
    refine jr_lald (F := fo') (pc := 187) hh 35 rfl 0 rfl (by decide) (by decide) dL_law_187 ?_
    refine jr_iload (pc := 188) hh 0 dL_law_188 rfl ?_
    refine jr_i2l (pc := 190) hh dL_law_190 ⟨hv3, hv4⟩ ?_
    refine jr_lcmp_eq (tgt := 197) (pc := 191) hh dL_law_191 dL_law_192 (by decide) ⟨by omega, by omega⟩ ⟨by omega, by omega⟩ (fun _ => ?_) (fun c8 => absurd hv1 c8)
    refine jr_goto (tgt := 1554) (pc := 197) hh dL_law_197 (by decide) ?_
    refine jr_loc (lv' := [(0, .ref b), (1, .ref (h 0)), (2, .ref (h2 0)), (3, .ref o), (4, .ref od), (5, .int (iI ((5 * n : Nat) : Int)))]) [2, 3, 4, 5, 6, 7] rfl ?_
    exact jr_room (by show 37 + n + 1 + 0 + 0 ≤ 37 + (n + 1); omega) (by show 1592 + 6 * n + 6 + 0 + 0 ≤ 1592 + 6 * (n + 1); omega) (next FC' VC' FM' VM' fd' fo' fdd hI2)
