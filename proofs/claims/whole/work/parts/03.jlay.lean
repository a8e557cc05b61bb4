/-! A layer over the kit's rows: J says of a method's frame (pc, locals, stack) over any heap that holds the world ws that the machine comes to Q. Ints are told by whole numbers (iI z), int arrays by functions to whole numbers (jA F). -/
def iI (z : Int) : Int32 := Int32.ofInt z
def lI (z : Int) : Int64 := Int64.ofInt z
abbrev jR (a : Int) : Prop := -2147483648 ≤ a ∧ a ≤ 2147483647
abbrev jRL (a : Int) : Prop := -9223372036854775808 ≤ a ∧ a ≤ 9223372036854775807
theorem iI_add (a b : Int) : iI a + iI b = iI (a + b) := (Int32.ofInt_add a b).symm
theorem iI_sub (a b : Int) : iI a - iI b = iI (a - b) := (Int32.ofInt_sub a b).symm
theorem iI_mul (a b : Int) : iI a * iI b = iI (a * b) := (Int32.ofInt_mul a b).symm
theorem lI_add (a b : Int) : lI a + lI b = lI (a + b) := (Int64.ofInt_add a b).symm
theorem lI_sub (a b : Int) : lI a - lI b = lI (a - b) := (Int64.ofInt_sub a b).symm
theorem lI_mul (a b : Int) : lI a * lI b = lI (a * b) := (Int64.ofInt_mul a b).symm
theorem lI_neg (a : Int) : -(lI a) = lI (-a) := (Int64.ofInt_neg a).symm
theorem iI_toInt {a : Int} (h : jR a) : (iI a).toInt = a := Int32.toInt_ofInt_of_le (by have := h.1; omega) (by have := h.2; omega)
theorem lI_toInt {a : Int} (h : jRL a) : (lI a).toInt = a := Int64.toInt_ofInt_of_le (by have := h.1; omega) (by have := h.2; omega)
theorem iI_of (x : Int32) : iI x.toInt = x := Int32.ofInt_toInt x
theorem iI_range (x : Int32) : jR x.toInt := ⟨by have := x.le_toInt; omega, by have := x.toInt_lt; omega⟩
theorem iI_lt {a b : Int} (ha : jR a) (hb : jR b) : iI a < iI b ↔ a < b := by rw [Int32.lt_iff_toInt_lt, iI_toInt ha, iI_toInt hb]
theorem iI_le {a b : Int} (ha : jR a) (hb : jR b) : iI a ≤ iI b ↔ a ≤ b := by rw [Int32.le_iff_toInt_le, iI_toInt ha, iI_toInt hb]
theorem iI_eq {a b : Int} (ha : jR a) (hb : jR b) : iI a = iI b ↔ a = b := by rw [← Int32.toInt_inj, iI_toInt ha, iI_toInt hb]
theorem lI_lt {a b : Int} (ha : jRL a) (hb : jRL b) : lI a < lI b ↔ a < b := by rw [Int64.lt_iff_toInt_lt, lI_toInt ha, lI_toInt hb]
theorem lI_le {a b : Int} (ha : jRL a) (hb : jRL b) : lI a ≤ lI b ↔ a ≤ b := by rw [Int64.le_iff_toInt_le, lI_toInt ha, lI_toInt hb]
theorem lI_eq {a b : Int} (ha : jRL a) (hb : jRL b) : lI a = lI b ↔ a = b := by rw [← Int64.toInt_inj, lI_toInt ha, lI_toInt hb]
theorem iI_long {a : Int} (h : jR a) : (iI a).toInt64 = lI a := Int64.toInt_inj.mp (by rw [Int32.toInt_toInt64, iI_toInt h, lI_toInt ⟨by have := h.1; omega, by have := h.2; omega⟩])
theorem lI_int (a : Int) : (lI a).toInt32 = iI a := Int64.toInt32_ofInt
theorem iI_nat {z : Int} {k : Nat} (h : z = (k : Int)) (hk : k < 2147483648) : (iI z).toNatClampNeg = k := by
  subst h
  exact (Int32.toNatClampNeg_ofInt_of_le (by omega) (by omega)).trans (by simp)
theorem iI_in {z : Int} {k n : Nat} (h : z = (k : Int)) (hk : k < n) (hn : n < 2147483648) : vp_in (iI z) n := by
  rw [vp_in_iff, iI_toInt ⟨by omega, by omega⟩]
  omega
theorem lI_div {a b : Int} (ha : jRL a) (hb : jRL b) (h0 : 0 < b) : lI a / lI b = lI (a.tdiv b) := by
  refine Int64.toInt_inj.mp ?_
  have h1 : ¬ lI b = -1 := fun q => by
    have := congrArg Int64.toInt q
    rw [lI_toInt hb] at this
    have h2 : (-1 : Int64).toInt = -1 := by decide
    omega
  rw [Int64.toInt_div_of_ne_right _ _ h1, lI_toInt ha, lI_toInt hb, lI_toInt]
  have h3 : (a.tdiv b).natAbs ≤ a.natAbs := by rw [Int.natAbs_tdiv]; exact Nat.div_le_self _ _
  have := ha.1
  have := ha.2
  constructor
  · by_cases ht : 0 ≤ a.tdiv b
    · omega
    · omega
  · by_cases hp : 0 ≤ a
    · omega
    · have : a.tdiv b ≤ 0 := by
        have h5 : 0 ≤ (-a).tdiv b := Int.tdiv_nonneg (by omega) (by omega)
        rw [Int.neg_tdiv] at h5
        omega
      omega
def jA (F : Nat → Int) : Nat → Int32 := fun j => iI (F j)
def jL (F : Nat → Int) : Nat → Int64 := fun j => lI (F j)
def jU (F : Nat → Int) (k : Nat) (v : Int) : Nat → Int := fun j => if j = k then v else F j
def jUd (F : Nat → UInt64) (k : Nat) (v : UInt64) : Nat → UInt64 := fun j => if j = k then v else F j
theorem jA_upd (F : Nat → Int) (k : Nat) (v : Int) : upd (jA F) k (iI v) = jA (jU F k v) := by
  funext j
  by_cases h : j = k <;> simp [upd, jA, jU, h]
theorem jL_upd (F : Nat → Int) (k : Nat) (v : Int) : vp_updL (jL F) k (lI v) = jL (jU F k v) := by
  funext j
  by_cases h : j = k <;> simp [vp_updL, jL, jU, h]
theorem jU_s (F : Nat → Int) (k : Nat) (v : Int) : jU F k v k = v := by simp [jU]
theorem jU_n {F : Nat → Int} {k j : Nat} {v : Int} (h : j ≠ k) : jU F k v j = F j := by simp [jU, h]
abbrev jG : Type := va_G × (Nat → ClassId)
abbrev jty (G : jG) : List (ClassId × FieldType) := [(G.2 0, .char), (G.2 1, .int), (G.2 2, .long), (G.2 3, .boolean), (G.2 4, .double)]
/-- the links between nest mates -/
def jNM : List (String × Nat × MethodName) := [(RX3, 15, yX2_init), (RX3, 22, yX1_init), (RX3, 29, yX0_init), (RX3, 143, yX0_countIn), (RX3, 156, yX2_addedTo), (RX3, 102, yX1_findAll), (RX1, 37, yX3_cell), (RX3, 159, yX0_reopenIfDrifted), (RX3, 74, yX1_add), (RX3, 79, yX2_add), (RX3, 88, yX2_addDifference), (RX3, 109, yX1_markNeeded), (RX3, 113, yX1_findNeeded), (RX3, 133, yX0_keep), (RX3, 150, yX0_sumOfTolerances)]
def jNF : List (Nat × String × String × String) := [(78, RX2, "count", "I"), (85, RX2, "differenceCount", "I"), (126, RX1, "actuals", "[I"), (106, RX1, "numbers", "[I"), (71, RX1, "count", "I"), (136, RX0, "states", "[C"), (140, RX0, "keptNumbers", "[I")]
def jEX : List String := ["java/lang/IllegalStateException", "java/lang/IllegalArgumentException", "java/lang/IndexOutOfBoundsException", "java/lang/UnsupportedOperationException", "java/util/NoSuchElementException", "java/lang/ArithmeticException"]
def jDC : List MethodName := [Bundle.init0 "java/lang/RuntimeException", Bundle.init0 "java/lang/Exception", Bundle.init0 Bundle.tN]
/-- what every method here takes of the launch: links of nest mates, and that the two statics of Throwable lie outside what may change -/
def jN (A : Nat → Prop) (U : State) : Prop :=
  (∀ q ∈ jNM, va_Nw (.methodLinkNest q.1 q.2.1 q.2.2 RX3) U) ∧ (∀ q ∈ jNF, va_Nw (.fieldLinkNest RX3 q.1 q.2.1 q.2.2.1 q.2.2.2 RX3) U) ∧ ((∀ E ∈ jEX, va_Nw (.castable E E) U) ∧ (∀ x ∈ jDC, va_Nw (.declares x) U)) ∧
  vx_Zq Bundle.tN "UNASSIGNED_STACK" Bundle.steD A U U.heap ∧ vx_Zq Bundle.tN "SUPPRESSED_SENTINEL" Bundle.listD A U U.heap
theorem jN.go {A B : Nat → Prop} {s U : State} (h : jN A s) (hW : s.WarmedH U.vm) (hAB : ∀ q, B q → A q) (hq : ∀ a : Nat, a < s.heap.size → ¬ A a → U.heap[a]? = s.heap[a]?) : jN B U := by
  obtain ⟨h1, h2, h5, h3, h4⟩ := h
  exact ⟨fun q hq => va_Nw.warmM hW (h1 q hq), fun q hq => va_Nw.warmF hW (h2 q hq), ⟨fun E hE => va_Nw.warmC hW (h5.1 E hE), fun x hx => va_Nw.warmD hW (h5.2 x hx)⟩, ((h3.kept hq).moved hW.alike).narrow hAB, ((h4.kept hq).moved hW.alike).narrow hAB⟩
theorem jN.same {A : Nat → Prop} {u U : State} (h : jN A u) (hv : u.vm = U.vm) (hh : U.heap = u.heap) : jN A U := by
  obtain ⟨h1, h2, h5, h3, h4⟩ := h
  have hal : u.vm.Alike U.vm := by rw [hv]; exact Vm.Alike.refl _
  exact ⟨fun q hq => va_Nw.same rfl hv (h1 q hq), fun q hq => va_Nw.same rfl hv (h2 q hq), ⟨fun E hE => va_Nw.same rfl hv (h5.1 E hE), fun x hx => va_Nw.same rfl hv (h5.2 x hx)⟩, by rw [hh]; exact h3.moved hal, by rw [hh]; exact h4.moved hal⟩
/-- a method's start: the world w0 at sz cells -/
def jPc (G : jG) (w0 : va_W) (sz : Nat) (av : List Value) : Array Value → State → Prop := va_Pc av (fun U => U.heap.size = sz ∧ va_P G.1 vwCl w0 U.heap ∧ va_K G.1 vwCl (jty G) U ∧ va_D (fun _ => True) w0 ∧ jN (va_A w0 sz) U)
/-- its end -/
def jQ (G : jG) (A : Nat → Prop) (post : Option Value → va_W → Prop) : Array Value → State → Outcome → State → Prop := fun _ st oc t => (∃ (rv : Option Value) (w1 : va_W), oc = .returned rv ∧ post rv w1 ∧ va_P G.1 vwCl w1 t.heap ∧ va_K G.1 vwCl (jty G) t ∧ va_D A w1) ∧ va_F A st t
/-- .. by a throw -/
def jX (G : jG) (A : Nat → Prop) (px : String → va_W → Prop) : String → State → State → Prop := fun E st t => (∃ w1 : va_W, px E w1 ∧ va_P G.1 vwCl w1 t.heap ∧ va_K G.1 vwCl (jty G) t ∧ va_D A w1) ∧ va_F A st t
def jMet (l : Launch) (y : MethodName) (ws : List Cond) (rm : Room) (G : jG) (w0 : va_W) (av : List Value) (post : Option Value → va_W → Prop) : Prop :=
  ∀ sz : Nat, Met l y ws rm (jPc G w0 sz av) (jQ G (va_A w0 sz) post) rm.cells rm.slots (va_A w0 sz)
def jNo : Array Value → State → Outcome → State → Prop := fun _ _ _ _ => False
def jThr (l : Launch) (y : MethodName) (ws : List Cond) (rm : Room) (G : jG) (w0 : va_W) (av : List Value) (px : String → va_W → Prop) : Prop :=
  ∀ sz : Nat, vx_Met l y ws rm (jPc G w0 sz av) jNo (jX G (va_A w0 sz) px) rm.cells rm.slots (va_A w0 sz)
theorem jPc_blind (G : jG) (w0 : va_W) (sz : Nat) (av : List Value) : FrameBlind (jPc G w0 sz av) := by
  intro a U g mk h
  obtain ⟨e, h1, h2, h3, h4, h5⟩ := h
  exact ⟨e, h1, h2, va_K.moved (u := U) (U := U.calling g mk a) (Vm.Alike.refl U.vm) h3, h4, h5.same (u := U) (U := U.calling g mk a) rfl rfl⟩
def jOK (p : Program) (s : State) (m : MethodId) (args : Array Value) (meth : Method) (c : Code) (A : Nat → Prop) (G : jG) (cc : ByteArray) (Ts : List Cond) (own : String) (nL : Nat) : Prop :=
  p.tables.exec = Jvm.exec ∧ c.code = cc ∧ c.maxLocals = nL ∧ s.vm.findClass own = some m.cls ∧ (∀ w ∈ Ts, w.before args s = true) ∧ va_K G.1 vwCl (jty G) s ∧ (∀ q, s.heap.size ≤ q → A q) ∧ meth.locks = false ∧ jN A s
/-- the machine at this frame, over any heap that holds ws, comes to Q -/
def J (p : Program) (l : Launch) (e : Env) (R : Room) (s : State) (m : MethodId) (args : Array Value) (below : List Frame) (meth : Method) (c : Code) (A : Nat → Prop) (G : jG) (nL cells slots : Nat) (Q : State → Prop) (ws : va_W) (pc : Nat) (lv : List (Nat × Value)) (st : List Value) : Prop :=
  ∀ (H : Heap) (locs : List Loc) (ls : Array Slot), va_P G.1 vwCl ws H → va_D A ws → va_S A s.heap H locs → lv_has ls nL lv → W p l e R s m args below meth c H locs cells slots Q (F0 m pc ls st)
section JROWS
variable {p : Program} {l : Launch} {e : Env} {R : Room} {s : State} {m : MethodId} {args : Array Value} {below : List Frame} {meth : Method} {c : Code} {A : Nat → Prop} {G : jG} {nL cells slots : Nat} {Q : State → Prop} {ws ws' : va_W} {pc : Nat} {lv lv' : List (Nat × Value)} {st : List Value} {cc : ByteArray} {Ts : List Cond} {own : String}
theorem jx (h : jOK p s m args meth c A G cc Ts own nL) : p.tables.exec = Jvm.exec := h.1
theorem jb (h : jOK p s m args meth c A G cc Ts own nL) : c.code = cc := h.2.1
theorem jml (h : jOK p s m args meth c A G cc Ts own nL) : c.maxLocals = nL := h.2.2.1
theorem jown (h : jOK p s m args meth c A G cc Ts own nL) : s.vm.findClass own = some m.cls := h.2.2.2.1
theorem jts (h : jOK p s m args meth c A G cc Ts own nL) : ∀ w ∈ Ts, w.before args s = true := h.2.2.2.2.1
theorem jk (h : jOK p s m args meth c A G cc Ts own nL) : va_K G.1 vwCl (jty G) s := h.2.2.2.2.2.1
theorem jaa (h : jOK p s m args meth c A G cc Ts own nL) : ∀ q, s.heap.size ≤ q → A q := h.2.2.2.2.2.2.1
theorem jlk (h : jOK p s m args meth c A G cc Ts own nL) : meth.locks = false := h.2.2.2.2.2.2.2.1
theorem jnn (h : jOK p s m args meth c A G cc Ts own nL) : jN A s := h.2.2.2.2.2.2.2.2
theorem jr_iconst (h : jOK p s m args meth c A G cc Ts own nL) {n : Int} (hd : decode cc pc = .ok (.iconst n, 1)) (k : J p l e R s m args below meth c A G nL cells slots Q ws (pc + 1) lv (.int (iI n) :: st)) : J p l e R s m args below meth c A G nL cells slots Q ws pc lv st :=
  fun H locs ls hP hD hS hl => lv_iconst (jx h) (jb h) hd rfl (k H locs ls hP hD hS hl)
theorem jr_bipush (h : jOK p s m args meth c A G cc Ts own nL) {n : Int} (hd : decode cc pc = .ok (.bipush n, 2)) (hn : (Int8.ofInt n).toInt32 = iI n) (k : J p l e R s m args below meth c A G nL cells slots Q ws (pc + 2) lv (.int (iI n) :: st)) : J p l e R s m args below meth c A G nL cells slots Q ws pc lv st :=
  fun H locs ls hP hD hS hl => lv_bipush (jx h) (jb h) hd hn (k H locs ls hP hD hS hl)
theorem jr_sipush (h : jOK p s m args meth c A G cc Ts own nL) {n : Int} (hd : decode cc pc = .ok (.sipush n, 3)) (hn : (Int16.ofInt n).toInt32 = iI n) (k : J p l e R s m args below meth c A G nL cells slots Q ws (pc + 3) lv (.int (iI n) :: st)) : J p l e R s m args below meth c A G nL cells slots Q ws pc lv st :=
  fun H locs ls hP hD hS hl => lv_sipush (jx h) (jb h) hd hn (k H locs ls hP hD hS hl)
theorem jr_lconst (h : jOK p s m args meth c A G cc Ts own nL) {n : Fin 2} {z : Int} (hd : decode cc pc = .ok (.lconst n, 1)) (hz : Int64.ofNat (n : Nat) = lI z) (k : J p l e R s m args below meth c A G nL cells slots Q ws (pc + 1) lv (.long (lI z) :: st)) : J p l e R s m args below meth c A G nL cells slots Q ws pc lv st :=
  fun H locs ls hP hD hS hl => lv_lconst (jx h) (jb h) hd hz (k H locs ls hP hD hS hl)
theorem jr_ldc (h : jOK p s m args meth c A G cc Ts own nL) {index : Nat} {z : Int} {v : Int32} (hv : v = iI z) (hw : Cond.constant own index v ∈ Ts) (hd : decode cc pc = .ok (.ldc index, 2)) (k : J p l e R s m args below meth c A G nL cells slots Q ws (pc + 2) lv (.int (iI z) :: st)) : J p l e R s m args below meth c A G nL cells slots Q ws pc lv st :=
  fun H locs ls hP hD hS hl => lv_ldc (jx h) (jb h) (jown h) (jts h _ hw) hd (by rw [hv]; exact k H locs ls hP hD hS hl)
theorem jr_ldc2 (h : jOK p s m args meth c A G cc Ts own nL) {index : Nat} {z : Int} {v : Int64} (hv : v = lI z) (hw : Cond.constantLong own index v ∈ Ts) (hd : decode cc pc = .ok (.ldc2_w index, 3)) (k : J p l e R s m args below meth c A G nL cells slots Q ws (pc + 3) lv (.long (lI z) :: st)) : J p l e R s m args below meth c A G nL cells slots Q ws pc lv st :=
  fun H locs ls hP hD hS hl => lv_ldc2 (jx h) (jb h) (jown h) (jts h _ hw) hd (by rw [hv]; exact k H locs ls hP hD hS hl)
theorem jr_iload_n (h : jOK p s m args meth c A G cc Ts own nL) (q : Nat) {k0 : Fin 4} {i : Nat} {x : Int32} (hd : decode cc pc = .ok (.iload_n k0, 1)) (hi : (k0 : Nat) = i) (hk : lv[q]? = some (i, .int x)) (k : J p l e R s m args below meth c A G nL cells slots Q ws (pc + 1) lv (.int x :: st)) : J p l e R s m args below meth c A G nL cells slots Q ws pc lv st :=
  fun H locs ls hP hD hS hl => lv_iload_n (jx h) (jb h) hd hi (lv_at hl q hk) (k H locs ls hP hD hS hl)
theorem jr_iload (h : jOK p s m args meth c A G cc Ts own nL) (q : Nat) {i : Nat} {x : Int32} (hd : decode cc pc = .ok (.iload i, 2)) (hk : lv[q]? = some (i, .int x)) (k : J p l e R s m args below meth c A G nL cells slots Q ws (pc + 2) lv (.int x :: st)) : J p l e R s m args below meth c A G nL cells slots Q ws pc lv st :=
  fun H locs ls hP hD hS hl => lv_iload (jx h) (jb h) hd (lv_at hl q hk) (k H locs ls hP hD hS hl)
theorem jr_lload_n (h : jOK p s m args meth c A G cc Ts own nL) (q : Nat) {k0 : Fin 4} {i : Nat} {x : Int64} (hd : decode cc pc = .ok (.lload_n k0, 1)) (hi : (k0 : Nat) = i) (hk : lv[q]? = some (i, .long x)) (k : J p l e R s m args below meth c A G nL cells slots Q ws (pc + 1) lv (.long x :: st)) : J p l e R s m args below meth c A G nL cells slots Q ws pc lv st :=
  fun H locs ls hP hD hS hl => lv_lload_n (jx h) (jb h) hd hi (lv_at hl q hk) (k H locs ls hP hD hS hl)
theorem jr_lload (h : jOK p s m args meth c A G cc Ts own nL) (q : Nat) {i : Nat} {x : Int64} (hd : decode cc pc = .ok (.lload i, 2)) (hk : lv[q]? = some (i, .long x)) (k : J p l e R s m args below meth c A G nL cells slots Q ws (pc + 2) lv (.long x :: st)) : J p l e R s m args below meth c A G nL cells slots Q ws pc lv st :=
  fun H locs ls hP hD hS hl => lv_lload (jx h) (jb h) hd (lv_at hl q hk) (k H locs ls hP hD hS hl)
theorem jr_aload_n (h : jOK p s m args meth c A G cc Ts own nL) (q : Nat) {k0 : Fin 4} {i : Nat} {x : Nat} (hd : decode cc pc = .ok (.aload_n k0, 1)) (hi : (k0 : Nat) = i) (hk : lv[q]? = some (i, .ref x)) (k : J p l e R s m args below meth c A G nL cells slots Q ws (pc + 1) lv (.ref x :: st)) : J p l e R s m args below meth c A G nL cells slots Q ws pc lv st :=
  fun H locs ls hP hD hS hl => lv_aload_n (jx h) (jb h) hd hi (lv_at hl q hk) (k H locs ls hP hD hS hl)
theorem jr_aload (h : jOK p s m args meth c A G cc Ts own nL) (q : Nat) {i : Nat} {x : Nat} (hd : decode cc pc = .ok (.aload i, 2)) (hk : lv[q]? = some (i, .ref x)) (k : J p l e R s m args below meth c A G nL cells slots Q ws (pc + 2) lv (.ref x :: st)) : J p l e R s m args below meth c A G nL cells slots Q ws pc lv st :=
  fun H locs ls hP hD hS hl => lv_aload (jx h) (jb h) hd (lv_at hl q hk) (k H locs ls hP hD hS hl)
theorem jr_istore_n (h : jOK p s m args meth c A G cc Ts own nL) {k0 : Fin 4} {i : Nat} {x : Int32} (hd : decode cc pc = .ok (.istore_n k0, 1)) (hi : (k0 : Nat) = i) (hn : i < nL) (hl0 : (i, Value.int x) :: lv.filter (fun q => !(q.1 == i) && !(q.1 + 1 == i && q.2.category == 2)) = lv') (k : J p l e R s m args below meth c A G nL cells slots Q ws (pc + 1) lv' st) : J p l e R s m args below meth c A G nL cells slots Q ws pc lv (.int x :: st) :=
  fun H locs ls hP hD hS hl => lv_istore_n (jx h) (jb h) hd hi hl hn hl0 (fun ls hl => k H locs ls hP hD hS hl)
theorem jr_istore (h : jOK p s m args meth c A G cc Ts own nL) {i : Nat} {x : Int32} (hd : decode cc pc = .ok (.istore i, 2)) (hn : i < nL) (hl0 : (i, Value.int x) :: lv.filter (fun q => !(q.1 == i) && !(q.1 + 1 == i && q.2.category == 2)) = lv') (k : J p l e R s m args below meth c A G nL cells slots Q ws (pc + 2) lv' st) : J p l e R s m args below meth c A G nL cells slots Q ws pc lv (.int x :: st) :=
  fun H locs ls hP hD hS hl => lv_istore (jx h) (jb h) hd hl hn hl0 (fun ls hl => k H locs ls hP hD hS hl)
theorem jr_lstore_n (h : jOK p s m args meth c A G cc Ts own nL) {k0 : Fin 4} {i : Nat} {x : Int64} (hd : decode cc pc = .ok (.lstore_n k0, 1)) (hi : (k0 : Nat) = i) (hn : i + 1 < nL) (hl0 : (i, Value.long x) :: lv.filter (fun q => !(q.1 == i) && (!(q.1 == i + 1) && !(q.1 + 1 == i && q.2.category == 2))) = lv') (k : J p l e R s m args below meth c A G nL cells slots Q ws (pc + 1) lv' st) : J p l e R s m args below meth c A G nL cells slots Q ws pc lv (.long x :: st) :=
  fun H locs ls hP hD hS hl => lv_lstore_n (jx h) (jb h) hd hi hl hn hl0 (fun ls hl => k H locs ls hP hD hS hl)
theorem jr_lstore (h : jOK p s m args meth c A G cc Ts own nL) {i : Nat} {x : Int64} (hd : decode cc pc = .ok (.lstore i, 2)) (hn : i + 1 < nL) (hl0 : (i, Value.long x) :: lv.filter (fun q => !(q.1 == i) && (!(q.1 == i + 1) && !(q.1 + 1 == i && q.2.category == 2))) = lv') (k : J p l e R s m args below meth c A G nL cells slots Q ws (pc + 2) lv' st) : J p l e R s m args below meth c A G nL cells slots Q ws pc lv (.long x :: st) :=
  fun H locs ls hP hD hS hl => lv_lstore (jx h) (jb h) hd hl hn hl0 (fun ls hl => k H locs ls hP hD hS hl)
theorem jr_astore_n (h : jOK p s m args meth c A G cc Ts own nL) {k0 : Fin 4} {i : Nat} {x : Nat} (hd : decode cc pc = .ok (.astore_n k0, 1)) (hi : (k0 : Nat) = i) (hn : i < nL) (hl0 : (i, Value.ref x) :: lv.filter (fun q => !(q.1 == i) && !(q.1 + 1 == i && q.2.category == 2)) = lv') (k : J p l e R s m args below meth c A G nL cells slots Q ws (pc + 1) lv' st) : J p l e R s m args below meth c A G nL cells slots Q ws pc lv (.ref x :: st) :=
  fun H locs ls hP hD hS hl => lv_astore_n (jx h) (jb h) hd hi hl hn hl0 (fun ls hl => k H locs ls hP hD hS hl)
theorem jr_astore (h : jOK p s m args meth c A G cc Ts own nL) {i : Nat} {x : Nat} (hd : decode cc pc = .ok (.astore i, 2)) (hn : i < nL) (hl0 : (i, Value.ref x) :: lv.filter (fun q => !(q.1 == i) && !(q.1 + 1 == i && q.2.category == 2)) = lv') (k : J p l e R s m args below meth c A G nL cells slots Q ws (pc + 2) lv' st) : J p l e R s m args below meth c A G nL cells slots Q ws pc lv (.ref x :: st) :=
  fun H locs ls hP hD hS hl => lv_astore (jx h) (jb h) hd hl hn hl0 (fun ls hl => k H locs ls hP hD hS hl)
theorem jr_iinc (h : jOK p s m args meth c A G cc Ts own nL) (q : Nat) {i : Nat} {n a b : Int} (hd : decode cc pc = .ok (.iinc i n, 3)) (hk : lv[q]? = some (i, .int (iI a))) (hb : a + n = b) (hn : i < nL) (hl0 : (i, Value.int (iI b)) :: lv.filter (fun q => !(q.1 == i) && !(q.1 + 1 == i && q.2.category == 2)) = lv') (k : J p l e R s m args below meth c A G nL cells slots Q ws (pc + 3) lv' st) : J p l e R s m args below meth c A G nL cells slots Q ws pc lv st :=
  fun H locs ls hP hD hS hl => lv_iinc (jx h) (jb h) hd hl hk ((iI_add a n).trans (congrArg iI hb)) hn hl0 (fun ls hl => k H locs ls hP hD hS hl)
theorem jr_iadd (h : jOK p s m args meth c A G cc Ts own nL) {a b : Int} (hd : decode cc pc = .ok (.iadd, 1)) (k : J p l e R s m args below meth c A G nL cells slots Q ws (pc + 1) lv (.int (iI (a + b)) :: st)) : J p l e R s m args below meth c A G nL cells slots Q ws pc lv (.int (iI b) :: .int (iI a) :: st) :=
  fun H locs ls hP hD hS hl => lv_iadd (jx h) (jb h) hd (by rw [iI_add]; exact k H locs ls hP hD hS hl)
theorem jr_ladd (h : jOK p s m args meth c A G cc Ts own nL) {a b : Int} (hd : decode cc pc = .ok (.ladd, 1)) (k : J p l e R s m args below meth c A G nL cells slots Q ws (pc + 1) lv (.long (lI (a + b)) :: st)) : J p l e R s m args below meth c A G nL cells slots Q ws pc lv (.long (lI b) :: .long (lI a) :: st) :=
  fun H locs ls hP hD hS hl => lv_ladd (jx h) (jb h) hd (by rw [lI_add]; exact k H locs ls hP hD hS hl)
theorem jr_isub (h : jOK p s m args meth c A G cc Ts own nL) {a b : Int} (hd : decode cc pc = .ok (.isub, 1)) (k : J p l e R s m args below meth c A G nL cells slots Q ws (pc + 1) lv (.int (iI (a - b)) :: st)) : J p l e R s m args below meth c A G nL cells slots Q ws pc lv (.int (iI b) :: .int (iI a) :: st) :=
  fun H locs ls hP hD hS hl => lv_isub (jx h) (jb h) hd (by rw [iI_sub]; exact k H locs ls hP hD hS hl)
theorem jr_lsub (h : jOK p s m args meth c A G cc Ts own nL) {a b : Int} (hd : decode cc pc = .ok (.lsub, 1)) (k : J p l e R s m args below meth c A G nL cells slots Q ws (pc + 1) lv (.long (lI (a - b)) :: st)) : J p l e R s m args below meth c A G nL cells slots Q ws pc lv (.long (lI b) :: .long (lI a) :: st) :=
  fun H locs ls hP hD hS hl => lv_lsub (jx h) (jb h) hd (by rw [lI_sub]; exact k H locs ls hP hD hS hl)
theorem jr_imul (h : jOK p s m args meth c A G cc Ts own nL) {a b : Int} (hd : decode cc pc = .ok (.imul, 1)) (k : J p l e R s m args below meth c A G nL cells slots Q ws (pc + 1) lv (.int (iI (a * b)) :: st)) : J p l e R s m args below meth c A G nL cells slots Q ws pc lv (.int (iI b) :: .int (iI a) :: st) :=
  fun H locs ls hP hD hS hl => lv_imul (jx h) (jb h) hd (by rw [iI_mul]; exact k H locs ls hP hD hS hl)
theorem jr_lmul (h : jOK p s m args meth c A G cc Ts own nL) {a b : Int} (hd : decode cc pc = .ok (.lmul, 1)) (k : J p l e R s m args below meth c A G nL cells slots Q ws (pc + 1) lv (.long (lI (a * b)) :: st)) : J p l e R s m args below meth c A G nL cells slots Q ws pc lv (.long (lI b) :: .long (lI a) :: st) :=
  fun H locs ls hP hD hS hl => lv_lmul (jx h) (jb h) hd (by rw [lI_mul]; exact k H locs ls hP hD hS hl)
theorem jr_ineg (h : jOK p s m args meth c A G cc Ts own nL) {a : Int} (hd : decode cc pc = .ok (.ineg, 1)) (k : J p l e R s m args below meth c A G nL cells slots Q ws (pc + 1) lv (.int (iI (-a)) :: st)) : J p l e R s m args below meth c A G nL cells slots Q ws pc lv (.int (iI a) :: st) :=
  fun H locs ls hP hD hS hl => lv_ineg (jx h) (jb h) hd (by rw [show -(iI a) = iI (-a) from (Int32.ofInt_neg a).symm]; exact k H locs ls hP hD hS hl)
theorem jr_lneg (h : jOK p s m args meth c A G cc Ts own nL) {a : Int} (hd : decode cc pc = .ok (.lneg, 1)) (k : J p l e R s m args below meth c A G nL cells slots Q ws (pc + 1) lv (.long (lI (-a)) :: st)) : J p l e R s m args below meth c A G nL cells slots Q ws pc lv (.long (lI a) :: st) :=
  fun H locs ls hP hD hS hl => lv_lneg (jx h) (jb h) hd (by rw [lI_neg]; exact k H locs ls hP hD hS hl)
theorem jr_ldiv (h : jOK p s m args meth c A G cc Ts own nL) {a b : Int} (hd : decode cc pc = .ok (.ldiv, 1)) (ha : jRL a) (hb : jRL b) (h0 : 0 < b) (k : J p l e R s m args below meth c A G nL cells slots Q ws (pc + 1) lv (.long (lI (a.tdiv b)) :: st)) : J p l e R s m args below meth c A G nL cells slots Q ws pc lv (.long (lI b) :: .long (lI a) :: st) :=
  fun H locs ls hP hD hS hl => lv_ldiv (jx h) (jb h) hd (fun q => absurd ((lI_eq hb ⟨by decide, by decide⟩).mp (q.trans (show (0 : Int64) = lI 0 from rfl))) (by omega)) (by rw [lI_div ha hb h0]; exact k H locs ls hP hD hS hl)
theorem jr_i2l (h : jOK p s m args meth c A G cc Ts own nL) {a : Int} (hd : decode cc pc = .ok (.i2l, 1)) (ha : jR a) (k : J p l e R s m args below meth c A G nL cells slots Q ws (pc + 1) lv (.long (lI a) :: st)) : J p l e R s m args below meth c A G nL cells slots Q ws pc lv (.int (iI a) :: st) :=
  fun H locs ls hP hD hS hl => lv_i2l (jx h) (jb h) hd (iI_long ha) (k H locs ls hP hD hS hl)
theorem jr_l2i (h : jOK p s m args meth c A G cc Ts own nL) {a : Int} (hd : decode cc pc = .ok (.l2i, 1)) (k : J p l e R s m args below meth c A G nL cells slots Q ws (pc + 1) lv (.int (iI a) :: st)) : J p l e R s m args below meth c A G nL cells slots Q ws pc lv (.long (lI a) :: st) :=
  fun H locs ls hP hD hS hl => lv_l2i (jx h) (jb h) hd (lI_int a) (k H locs ls hP hD hS hl)
theorem jr_dup (h : jOK p s m args meth c A G cc Ts own nL) {v : Value} (hd : decode cc pc = .ok (.dup, 1)) (hv : v.category = 1) (k : J p l e R s m args below meth c A G nL cells slots Q ws (pc + 1) lv (v :: v :: st)) : J p l e R s m args below meth c A G nL cells slots Q ws pc lv (v :: st) :=
  fun H locs ls hP hD hS hl => lv_dup (jx h) (jb h) hd hv (k H locs ls hP hD hS hl)
theorem jr_pop (h : jOK p s m args meth c A G cc Ts own nL) {v : Value} (hd : decode cc pc = .ok (.pop, 1)) (hv : v.category = 1) (k : J p l e R s m args below meth c A G nL cells slots Q ws (pc + 1) lv st) : J p l e R s m args below meth c A G nL cells slots Q ws pc lv (v :: st) :=
  fun H locs ls hP hD hS hl => lv_pop (jx h) (jb h) hd hv (k H locs ls hP hD hS hl)
theorem jr_dup_x1 (h : jOK p s m args meth c A G cc Ts own nL) {va vb : Value} (hd : decode cc pc = .ok (.dup_x1, 1)) (hva : va.category = 1) (hvb : vb.category = 1) (k : J p l e R s m args below meth c A G nL cells slots Q ws (pc + 1) lv (va :: vb :: va :: st)) : J p l e R s m args below meth c A G nL cells slots Q ws pc lv (va :: vb :: st) :=
  fun H locs ls hP hD hS hl => lv_dup_x1 (jx h) (jb h) hd hva hvb (k H locs ls hP hD hS hl)
theorem jr_dup2_11 (h : jOK p s m args meth c A G cc Ts own nL) {va vb : Value} (hd : decode cc pc = .ok (.dup2, 1)) (hva : va.category = 1) (hvb : vb.category = 1) (k : J p l e R s m args below meth c A G nL cells slots Q ws (pc + 1) lv (va :: vb :: va :: vb :: st)) : J p l e R s m args below meth c A G nL cells slots Q ws pc lv (va :: vb :: st) :=
  fun H locs ls hP hD hS hl => lv_dup2_11 (jx h) (jb h) hd hva hvb (k H locs ls hP hD hS hl)
theorem jr_goto (h : jOK p s m args meth c A G cc Ts own nL) {off : Int} {tgt : Nat} (hd : decode cc pc = .ok (.goto off, 3)) (ht : (pc : Int) + off = (tgt : Int)) (k : J p l e R s m args below meth c A G nL cells slots Q ws tgt lv st) : J p l e R s m args below meth c A G nL cells slots Q ws pc lv st :=
  fun H locs ls hP hD hS hl => lv_goto (jx h) (jb h) hd ht (k H locs ls hP hD hS hl)
theorem jr_icmp_eq (h : jOK p s m args meth c A G cc Ts own nL) {a b off : Int} {tgt : Nat} (hd : decode cc pc = .ok (.if_icmp .eq off, 3)) (ht : (pc : Int) + off = (tgt : Int)) (ha : jR a) (hb : jR b) (kt : a = b → J p l e R s m args below meth c A G nL cells slots Q ws tgt lv st) (kf : a ≠ b → J p l e R s m args below meth c A G nL cells slots Q ws (pc + 3) lv st) : J p l e R s m args below meth c A G nL cells slots Q ws pc lv (.int (iI b) :: .int (iI a) :: st) :=
  fun H locs ls hP hD hS hl => lv_icmp_eq (jx h) (jb h) hd ht (fun c => kt ((iI_eq ha hb).mp c) H locs ls hP hD hS hl) (fun c => kf (fun q => c ((iI_eq ha hb).mpr q)) H locs ls hP hD hS hl)
theorem jr_if_eq (h : jOK p s m args meth c A G cc Ts own nL) {a off : Int} {tgt : Nat} (hd : decode cc pc = .ok (.ifCond .eq off, 3)) (ht : (pc : Int) + off = (tgt : Int)) (ha : jR a) (kt : a = 0 → J p l e R s m args below meth c A G nL cells slots Q ws tgt lv st) (kf : a ≠ 0 → J p l e R s m args below meth c A G nL cells slots Q ws (pc + 3) lv st) : J p l e R s m args below meth c A G nL cells slots Q ws pc lv (.int (iI a) :: st) :=
  have hb : jR 0 := ⟨by decide, by decide⟩
  fun H locs ls hP hD hS hl => lv_if_eq (jx h) (jb h) hd ht (fun c => kt ((iI_eq ha hb).mp c) H locs ls hP hD hS hl) (fun c => kf (fun q => c ((iI_eq ha hb).mpr q)) H locs ls hP hD hS hl)
theorem jr_icmp_ne (h : jOK p s m args meth c A G cc Ts own nL) {a b off : Int} {tgt : Nat} (hd : decode cc pc = .ok (.if_icmp .ne off, 3)) (ht : (pc : Int) + off = (tgt : Int)) (ha : jR a) (hb : jR b) (kt : a ≠ b → J p l e R s m args below meth c A G nL cells slots Q ws tgt lv st) (kf : a = b → J p l e R s m args below meth c A G nL cells slots Q ws (pc + 3) lv st) : J p l e R s m args below meth c A G nL cells slots Q ws pc lv (.int (iI b) :: .int (iI a) :: st) :=
  fun H locs ls hP hD hS hl => lv_icmp_ne (jx h) (jb h) hd ht (fun c => kt (fun q => c ((iI_eq ha hb).mpr q)) H locs ls hP hD hS hl) (fun c => kf ((iI_eq ha hb).mp c) H locs ls hP hD hS hl)
theorem jr_if_ne (h : jOK p s m args meth c A G cc Ts own nL) {a off : Int} {tgt : Nat} (hd : decode cc pc = .ok (.ifCond .ne off, 3)) (ht : (pc : Int) + off = (tgt : Int)) (ha : jR a) (kt : a ≠ 0 → J p l e R s m args below meth c A G nL cells slots Q ws tgt lv st) (kf : a = 0 → J p l e R s m args below meth c A G nL cells slots Q ws (pc + 3) lv st) : J p l e R s m args below meth c A G nL cells slots Q ws pc lv (.int (iI a) :: st) :=
  have hb : jR 0 := ⟨by decide, by decide⟩
  fun H locs ls hP hD hS hl => lv_if_ne (jx h) (jb h) hd ht (fun c => kt (fun q => c ((iI_eq ha hb).mpr q)) H locs ls hP hD hS hl) (fun c => kf ((iI_eq ha hb).mp c) H locs ls hP hD hS hl)
theorem jr_icmp_lt (h : jOK p s m args meth c A G cc Ts own nL) {a b off : Int} {tgt : Nat} (hd : decode cc pc = .ok (.if_icmp .lt off, 3)) (ht : (pc : Int) + off = (tgt : Int)) (ha : jR a) (hb : jR b) (kt : a < b → J p l e R s m args below meth c A G nL cells slots Q ws tgt lv st) (kf : b ≤ a → J p l e R s m args below meth c A G nL cells slots Q ws (pc + 3) lv st) : J p l e R s m args below meth c A G nL cells slots Q ws pc lv (.int (iI b) :: .int (iI a) :: st) :=
  fun H locs ls hP hD hS hl => lv_icmp_lt (jx h) (jb h) hd ht (fun c => kt ((iI_lt ha hb).mp c) H locs ls hP hD hS hl) (fun c => kf (Int.not_lt.mp (fun q => c ((iI_lt ha hb).mpr q))) H locs ls hP hD hS hl)
theorem jr_if_lt (h : jOK p s m args meth c A G cc Ts own nL) {a off : Int} {tgt : Nat} (hd : decode cc pc = .ok (.ifCond .lt off, 3)) (ht : (pc : Int) + off = (tgt : Int)) (ha : jR a) (kt : a < 0 → J p l e R s m args below meth c A G nL cells slots Q ws tgt lv st) (kf : 0 ≤ a → J p l e R s m args below meth c A G nL cells slots Q ws (pc + 3) lv st) : J p l e R s m args below meth c A G nL cells slots Q ws pc lv (.int (iI a) :: st) :=
  have hb : jR 0 := ⟨by decide, by decide⟩
  fun H locs ls hP hD hS hl => lv_if_lt (jx h) (jb h) hd ht (fun c => kt ((iI_lt ha hb).mp c) H locs ls hP hD hS hl) (fun c => kf (Int.not_lt.mp (fun q => c ((iI_lt ha hb).mpr q))) H locs ls hP hD hS hl)
theorem jr_icmp_ge (h : jOK p s m args meth c A G cc Ts own nL) {a b off : Int} {tgt : Nat} (hd : decode cc pc = .ok (.if_icmp .ge off, 3)) (ht : (pc : Int) + off = (tgt : Int)) (ha : jR a) (hb : jR b) (kt : b ≤ a → J p l e R s m args below meth c A G nL cells slots Q ws tgt lv st) (kf : a < b → J p l e R s m args below meth c A G nL cells slots Q ws (pc + 3) lv st) : J p l e R s m args below meth c A G nL cells slots Q ws pc lv (.int (iI b) :: .int (iI a) :: st) :=
  fun H locs ls hP hD hS hl => lv_icmp_ge (jx h) (jb h) hd ht (fun c => kt ((iI_le hb ha).mp c) H locs ls hP hD hS hl) (fun c => kf (Int.not_le.mp (fun q => c ((iI_le hb ha).mpr q))) H locs ls hP hD hS hl)
theorem jr_if_ge (h : jOK p s m args meth c A G cc Ts own nL) {a off : Int} {tgt : Nat} (hd : decode cc pc = .ok (.ifCond .ge off, 3)) (ht : (pc : Int) + off = (tgt : Int)) (ha : jR a) (kt : 0 ≤ a → J p l e R s m args below meth c A G nL cells slots Q ws tgt lv st) (kf : a < 0 → J p l e R s m args below meth c A G nL cells slots Q ws (pc + 3) lv st) : J p l e R s m args below meth c A G nL cells slots Q ws pc lv (.int (iI a) :: st) :=
  have hb : jR 0 := ⟨by decide, by decide⟩
  fun H locs ls hP hD hS hl => lv_if_ge (jx h) (jb h) hd ht (fun c => kt ((iI_le hb ha).mp c) H locs ls hP hD hS hl) (fun c => kf (Int.not_le.mp (fun q => c ((iI_le hb ha).mpr q))) H locs ls hP hD hS hl)
theorem jr_icmp_gt (h : jOK p s m args meth c A G cc Ts own nL) {a b off : Int} {tgt : Nat} (hd : decode cc pc = .ok (.if_icmp .gt off, 3)) (ht : (pc : Int) + off = (tgt : Int)) (ha : jR a) (hb : jR b) (kt : b < a → J p l e R s m args below meth c A G nL cells slots Q ws tgt lv st) (kf : a ≤ b → J p l e R s m args below meth c A G nL cells slots Q ws (pc + 3) lv st) : J p l e R s m args below meth c A G nL cells slots Q ws pc lv (.int (iI b) :: .int (iI a) :: st) :=
  fun H locs ls hP hD hS hl => lv_icmp_gt (jx h) (jb h) hd ht (fun c => kt ((iI_lt hb ha).mp c) H locs ls hP hD hS hl) (fun c => kf (Int.not_lt.mp (fun q => c ((iI_lt hb ha).mpr q))) H locs ls hP hD hS hl)
theorem jr_if_gt (h : jOK p s m args meth c A G cc Ts own nL) {a off : Int} {tgt : Nat} (hd : decode cc pc = .ok (.ifCond .gt off, 3)) (ht : (pc : Int) + off = (tgt : Int)) (ha : jR a) (kt : 0 < a → J p l e R s m args below meth c A G nL cells slots Q ws tgt lv st) (kf : a ≤ 0 → J p l e R s m args below meth c A G nL cells slots Q ws (pc + 3) lv st) : J p l e R s m args below meth c A G nL cells slots Q ws pc lv (.int (iI a) :: st) :=
  have hb : jR 0 := ⟨by decide, by decide⟩
  fun H locs ls hP hD hS hl => lv_if_gt (jx h) (jb h) hd ht (fun c => kt ((iI_lt hb ha).mp c) H locs ls hP hD hS hl) (fun c => kf (Int.not_lt.mp (fun q => c ((iI_lt hb ha).mpr q))) H locs ls hP hD hS hl)
theorem jr_icmp_le (h : jOK p s m args meth c A G cc Ts own nL) {a b off : Int} {tgt : Nat} (hd : decode cc pc = .ok (.if_icmp .le off, 3)) (ht : (pc : Int) + off = (tgt : Int)) (ha : jR a) (hb : jR b) (kt : a ≤ b → J p l e R s m args below meth c A G nL cells slots Q ws tgt lv st) (kf : b < a → J p l e R s m args below meth c A G nL cells slots Q ws (pc + 3) lv st) : J p l e R s m args below meth c A G nL cells slots Q ws pc lv (.int (iI b) :: .int (iI a) :: st) :=
  fun H locs ls hP hD hS hl => lv_icmp_le (jx h) (jb h) hd ht (fun c => kt ((iI_le ha hb).mp c) H locs ls hP hD hS hl) (fun c => kf (Int.not_le.mp (fun q => c ((iI_le ha hb).mpr q))) H locs ls hP hD hS hl)
theorem jr_if_le (h : jOK p s m args meth c A G cc Ts own nL) {a off : Int} {tgt : Nat} (hd : decode cc pc = .ok (.ifCond .le off, 3)) (ht : (pc : Int) + off = (tgt : Int)) (ha : jR a) (kt : a ≤ 0 → J p l e R s m args below meth c A G nL cells slots Q ws tgt lv st) (kf : 0 < a → J p l e R s m args below meth c A G nL cells slots Q ws (pc + 3) lv st) : J p l e R s m args below meth c A G nL cells slots Q ws pc lv (.int (iI a) :: st) :=
  have hb : jR 0 := ⟨by decide, by decide⟩
  fun H locs ls hP hD hS hl => lv_if_le (jx h) (jb h) hd ht (fun c => kt ((iI_le ha hb).mp c) H locs ls hP hD hS hl) (fun c => kf (Int.not_le.mp (fun q => c ((iI_le ha hb).mpr q))) H locs ls hP hD hS hl)
def jcmp (a b : Int) : Int := if b < a then 1 else if a = b then 0 else -1
theorem jcmp_of {a b : Int} (ha : jRL a) (hb : jRL b) : lg_cmp (lI a) (lI b) = iI (jcmp a b) := by
  have e1 : (lI a > lI b) ↔ b < a := lI_lt hb ha
  have e2 : (lI a = lI b) ↔ a = b := lI_eq ha hb
  unfold lg_cmp jcmp
  by_cases h1 : b < a
  · rw [if_pos (e1.mpr h1), if_pos h1]; rfl
  · rw [if_neg (fun q => h1 (e1.mp q)), if_neg h1]
    by_cases h2 : a = b
    · rw [if_pos (e2.mpr h2), if_pos h2]; rfl
    · rw [if_neg (fun q => h2 (e2.mp q)), if_neg h2]; rfl
theorem jcmp_cases (a b : Int) : (jcmp a b = 1 ∧ b < a) ∨ (jcmp a b = 0 ∧ a = b) ∨ (jcmp a b = -1 ∧ a < b) := by
  unfold jcmp
  by_cases h1 : b < a
  · exact Or.inl ⟨if_pos h1, h1⟩
  · rw [if_neg h1]
    by_cases h2 : a = b
    · exact Or.inr (Or.inl ⟨if_pos h2, h2⟩)
    · exact Or.inr (Or.inr ⟨if_neg h2, by omega⟩)
theorem jcmp_R (a b : Int) : jR (jcmp a b) := by have := jcmp_cases a b; exact ⟨by omega, by omega⟩
theorem jr_lcmp_eq (h : jOK p s m args meth c A G cc Ts own nL) {a b off : Int} {tgt : Nat} (hd : decode cc pc = .ok (.lcmp, 1)) (hd2 : decode cc (pc + 1) = .ok (.ifCond .eq off, 3)) (ht : ((pc + 1 : Nat) : Int) + off = (tgt : Int)) (ha : jRL a) (hb : jRL b) (kt : a = b → J p l e R s m args below meth c A G nL cells slots Q ws tgt lv st) (kf : a ≠ b → J p l e R s m args below meth c A G nL cells slots Q ws (pc + 4) lv st) : J p l e R s m args below meth c A G nL cells slots Q ws pc lv (.long (lI b) :: .long (lI a) :: st) :=
  fun H locs ls hP hD hS hl => W.lcmp (jx h) (jb h) hd (by rw [jcmp_of ha hb]; exact jr_if_eq h hd2 ht (jcmp_R a b) (fun c => kt (by have := jcmp_cases a b; omega)) (fun c => kf (by have := jcmp_cases a b; omega)) H locs ls hP hD hS hl)
theorem jr_lcmp_ne (h : jOK p s m args meth c A G cc Ts own nL) {a b off : Int} {tgt : Nat} (hd : decode cc pc = .ok (.lcmp, 1)) (hd2 : decode cc (pc + 1) = .ok (.ifCond .ne off, 3)) (ht : ((pc + 1 : Nat) : Int) + off = (tgt : Int)) (ha : jRL a) (hb : jRL b) (kt : a ≠ b → J p l e R s m args below meth c A G nL cells slots Q ws tgt lv st) (kf : a = b → J p l e R s m args below meth c A G nL cells slots Q ws (pc + 4) lv st) : J p l e R s m args below meth c A G nL cells slots Q ws pc lv (.long (lI b) :: .long (lI a) :: st) :=
  fun H locs ls hP hD hS hl => W.lcmp (jx h) (jb h) hd (by rw [jcmp_of ha hb]; exact jr_if_ne h hd2 ht (jcmp_R a b) (fun c => kt (by have := jcmp_cases a b; omega)) (fun c => kf (by have := jcmp_cases a b; omega)) H locs ls hP hD hS hl)
theorem jr_lcmp_lt (h : jOK p s m args meth c A G cc Ts own nL) {a b off : Int} {tgt : Nat} (hd : decode cc pc = .ok (.lcmp, 1)) (hd2 : decode cc (pc + 1) = .ok (.ifCond .lt off, 3)) (ht : ((pc + 1 : Nat) : Int) + off = (tgt : Int)) (ha : jRL a) (hb : jRL b) (kt : a < b → J p l e R s m args below meth c A G nL cells slots Q ws tgt lv st) (kf : b ≤ a → J p l e R s m args below meth c A G nL cells slots Q ws (pc + 4) lv st) : J p l e R s m args below meth c A G nL cells slots Q ws pc lv (.long (lI b) :: .long (lI a) :: st) :=
  fun H locs ls hP hD hS hl => W.lcmp (jx h) (jb h) hd (by rw [jcmp_of ha hb]; exact jr_if_lt h hd2 ht (jcmp_R a b) (fun c => kt (by have := jcmp_cases a b; omega)) (fun c => kf (by have := jcmp_cases a b; omega)) H locs ls hP hD hS hl)
theorem jr_lcmp_ge (h : jOK p s m args meth c A G cc Ts own nL) {a b off : Int} {tgt : Nat} (hd : decode cc pc = .ok (.lcmp, 1)) (hd2 : decode cc (pc + 1) = .ok (.ifCond .ge off, 3)) (ht : ((pc + 1 : Nat) : Int) + off = (tgt : Int)) (ha : jRL a) (hb : jRL b) (kt : b ≤ a → J p l e R s m args below meth c A G nL cells slots Q ws tgt lv st) (kf : a < b → J p l e R s m args below meth c A G nL cells slots Q ws (pc + 4) lv st) : J p l e R s m args below meth c A G nL cells slots Q ws pc lv (.long (lI b) :: .long (lI a) :: st) :=
  fun H locs ls hP hD hS hl => W.lcmp (jx h) (jb h) hd (by rw [jcmp_of ha hb]; exact jr_if_ge h hd2 ht (jcmp_R a b) (fun c => kt (by have := jcmp_cases a b; omega)) (fun c => kf (by have := jcmp_cases a b; omega)) H locs ls hP hD hS hl)
theorem jr_lcmp_gt (h : jOK p s m args meth c A G cc Ts own nL) {a b off : Int} {tgt : Nat} (hd : decode cc pc = .ok (.lcmp, 1)) (hd2 : decode cc (pc + 1) = .ok (.ifCond .gt off, 3)) (ht : ((pc + 1 : Nat) : Int) + off = (tgt : Int)) (ha : jRL a) (hb : jRL b) (kt : b < a → J p l e R s m args below meth c A G nL cells slots Q ws tgt lv st) (kf : a ≤ b → J p l e R s m args below meth c A G nL cells slots Q ws (pc + 4) lv st) : J p l e R s m args below meth c A G nL cells slots Q ws pc lv (.long (lI b) :: .long (lI a) :: st) :=
  fun H locs ls hP hD hS hl => W.lcmp (jx h) (jb h) hd (by rw [jcmp_of ha hb]; exact jr_if_gt h hd2 ht (jcmp_R a b) (fun c => kt (by have := jcmp_cases a b; omega)) (fun c => kf (by have := jcmp_cases a b; omega)) H locs ls hP hD hS hl)
theorem jr_lcmp_le (h : jOK p s m args meth c A G cc Ts own nL) {a b off : Int} {tgt : Nat} (hd : decode cc pc = .ok (.lcmp, 1)) (hd2 : decode cc (pc + 1) = .ok (.ifCond .le off, 3)) (ht : ((pc + 1 : Nat) : Int) + off = (tgt : Int)) (ha : jRL a) (hb : jRL b) (kt : a ≤ b → J p l e R s m args below meth c A G nL cells slots Q ws tgt lv st) (kf : b < a → J p l e R s m args below meth c A G nL cells slots Q ws (pc + 4) lv st) : J p l e R s m args below meth c A G nL cells slots Q ws pc lv (.long (lI b) :: .long (lI a) :: st) :=
  fun H locs ls hP hD hS hl => W.lcmp (jx h) (jb h) hd (by rw [jcmp_of ha hb]; exact jr_if_le h hd2 ht (jcmp_R a b) (fun c => kt (by have := jcmp_cases a b; omega)) (fun c => kf (by have := jcmp_cases a b; omega)) H locs ls hP hD hS hl)
theorem jr_iald (h : jOK p s m args meth c A G cc Ts own nL) (q0 : Nat) {a n : Nat} {F : Nat → Int} {z : Int} (ha : ws[q0]? = some (a, .inl (G.2 1, n, .inl (jA F)))) (k0 : Nat) (hk : z = (k0 : Int)) (hlt : k0 < n) (hn : n < 2147483648) (hd : decode cc pc = .ok (.iaload, 1)) (k : J p l e R s m args below meth c A G nL cells slots Q ws (pc + 1) lv (.int (iI (F k0)) :: st)) : J p l e R s m args below meth c A G nL cells slots Q ws pc lv (.int (iI z) :: .ref a :: st) :=
  fun H locs ls hP hD hS hl => va_iald (jx h) (jb h) (jk h) hP q0 1 ha rfl (iI_in hk hlt hn) hd (by rw [iI_nat hk (by omega)]; exact k H locs ls hP hD hS hl)
theorem jr_cald (h : jOK p s m args meth c A G cc Ts own nL) (q0 : Nat) {a n : Nat} {F : Nat → Int} {z : Int} (ha : ws[q0]? = some (a, .inl (G.2 0, n, .inl (jA F)))) (k0 : Nat) (hk : z = (k0 : Int)) (hlt : k0 < n) (hn : n < 2147483648) (hd : decode cc pc = .ok (.caload, 1)) (k : J p l e R s m args below meth c A G nL cells slots Q ws (pc + 1) lv (.int (iI (F k0)) :: st)) : J p l e R s m args below meth c A G nL cells slots Q ws pc lv (.int (iI z) :: .ref a :: st) :=
  fun H locs ls hP hD hS hl => va_cald (jx h) (jb h) (jk h) hP q0 0 ha rfl (iI_in hk hlt hn) hd (by rw [iI_nat hk (by omega)]; exact k H locs ls hP hD hS hl)
theorem jr_zald (h : jOK p s m args meth c A G cc Ts own nL) (q0 : Nat) {a n : Nat} {F : Nat → Int} {z : Int} (ha : ws[q0]? = some (a, .inl (G.2 3, n, .inl (jA F)))) (k0 : Nat) (hk : z = (k0 : Int)) (hlt : k0 < n) (hn : n < 2147483648) (hd : decode cc pc = .ok (.baload, 1)) (k : J p l e R s m args below meth c A G nL cells slots Q ws (pc + 1) lv (.int (iI (F k0)) :: st)) : J p l e R s m args below meth c A G nL cells slots Q ws pc lv (.int (iI z) :: .ref a :: st) :=
  fun H locs ls hP hD hS hl => va_zald (jx h) (jb h) (jk h) hP q0 3 ha rfl (iI_in hk hlt hn) hd (by rw [iI_nat hk (by omega)]; exact k H locs ls hP hD hS hl)
theorem jr_lald (h : jOK p s m args meth c A G cc Ts own nL) (q0 : Nat) {a n : Nat} {F : Nat → Int} {z : Int} (ha : ws[q0]? = some (a, .inl (G.2 2, n, .inr (.inl (jL F))))) (k0 : Nat) (hk : z = (k0 : Int)) (hlt : k0 < n) (hn : n < 2147483648) (hd : decode cc pc = .ok (.laload, 1)) (k : J p l e R s m args below meth c A G nL cells slots Q ws (pc + 1) lv (.long (lI (F k0)) :: st)) : J p l e R s m args below meth c A G nL cells slots Q ws pc lv (.int (iI z) :: .ref a :: st) :=
  fun H locs ls hP hD hS hl => va_lald (jx h) (jb h) (jk h) hP q0 2 ha rfl (iI_in hk hlt hn) hd (by rw [iI_nat hk (by omega)]; exact k H locs ls hP hD hS hl)
theorem jr_iast (h : jOK p s m args meth c A G cc Ts own nL) (q0 : Nat) {a n : Nat} {F : Nat → Int} {z v : Int} (ha : ws[q0]? = some (a, .inl (G.2 1, n, .inl (jA F)))) (k0 : Nat) (hk : z = (k0 : Int)) (hlt : k0 < n) (hn : n < 2147483648)  (hset : ws.set q0 (a, .inl (G.2 1, n, .inl (jA (jU F k0 v)))) = ws') (hd : decode cc pc = .ok (.iastore, 1)) (k : J p l e R s m args below meth c A G nL cells slots Q ws' (pc + 1) lv st) : J p l e R s m args below meth c A G nL cells slots Q ws pc lv (.int (iI v) :: .int (iI z) :: .ref a :: st) := by
  intro H locs ls hP hD hS hl
  refine va_iast (jx h) (jb h) (jk h) hP hD hS q0 1 ha rfl (iI_in hk hlt hn) hd (fun H1 locs1 hP1 hD1 hS1 => ?_)
  rw [iI_nat hk (by omega), jA_upd, hset] at hP1 hD1
  exact k H1 locs1 ls hP1 hD1 hS1 hl
theorem jnar_char {v : Int} (h0 : 0 ≤ v) (h1 : v < 65536) : vp_nar .char (iI v) = iI v := by
  have e : iI v = nI v.toNat := by
    show Int32.ofInt v = Int32.ofNat v.toNat
    rw [← Int32.ofInt_eq_ofNat, Int.toNat_of_nonneg h0]
  have h2 := (pk_charN (q := v.toNat) (by omega)).1
  rw [e]
  unfold vp_nar
  rw [h2]
theorem jnar_bool {v : Int} (h : v = 0 ∨ v = 1) : vp_nar .boolean (iI v) = iI v := by
  rcases h with rfl | rfl <;> rfl
theorem jr_cast (h : jOK p s m args meth c A G cc Ts own nL) (q0 : Nat) {a n : Nat} {F : Nat → Int} {z v : Int} (ha : ws[q0]? = some (a, .inl (G.2 0, n, .inl (jA F)))) (k0 : Nat) (hk : z = (k0 : Int)) (hlt : k0 < n) (hn : n < 2147483648) (hv : 0 ≤ v ∧ v < 65536) (hset : ws.set q0 (a, .inl (G.2 0, n, .inl (jA (jU F k0 v)))) = ws') (hd : decode cc pc = .ok (.castore, 1)) (k : J p l e R s m args below meth c A G nL cells slots Q ws' (pc + 1) lv st) : J p l e R s m args below meth c A G nL cells slots Q ws pc lv (.int (iI v) :: .int (iI z) :: .ref a :: st) := by
  intro H locs ls hP hD hS hl
  refine va_cast (jx h) (jb h) (jk h) hP hD hS q0 0 ha rfl (iI_in hk hlt hn) hd (fun H1 locs1 hP1 hD1 hS1 => ?_)
  rw [jnar_char hv.1 hv.2, iI_nat hk (by omega), jA_upd, hset] at hP1 hD1
  exact k H1 locs1 ls hP1 hD1 hS1 hl
theorem jr_zast (h : jOK p s m args meth c A G cc Ts own nL) (q0 : Nat) {a n : Nat} {F : Nat → Int} {z v : Int} (ha : ws[q0]? = some (a, .inl (G.2 3, n, .inl (jA F)))) (k0 : Nat) (hk : z = (k0 : Int)) (hlt : k0 < n) (hn : n < 2147483648) (hv : v = 0 ∨ v = 1) (hset : ws.set q0 (a, .inl (G.2 3, n, .inl (jA (jU F k0 v)))) = ws') (hd : decode cc pc = .ok (.bastore, 1)) (k : J p l e R s m args below meth c A G nL cells slots Q ws' (pc + 1) lv st) : J p l e R s m args below meth c A G nL cells slots Q ws pc lv (.int (iI v) :: .int (iI z) :: .ref a :: st) := by
  intro H locs ls hP hD hS hl
  refine va_zast (jx h) (jb h) (jk h) hP hD hS q0 3 ha rfl (iI_in hk hlt hn) hd (fun H1 locs1 hP1 hD1 hS1 => ?_)
  rw [jnar_bool hv, iI_nat hk (by omega), jA_upd, hset] at hP1 hD1
  exact k H1 locs1 ls hP1 hD1 hS1 hl
theorem jr_last (h : jOK p s m args meth c A G cc Ts own nL) (q0 : Nat) {a n : Nat} {F : Nat → Int} {z v : Int} (ha : ws[q0]? = some (a, .inl (G.2 2, n, .inr (.inl (jL F))))) (k0 : Nat) (hk : z = (k0 : Int)) (hlt : k0 < n) (hn : n < 2147483648)  (hset : ws.set q0 (a, .inl (G.2 2, n, .inr (.inl (jL (jU F k0 v))))) = ws') (hd : decode cc pc = .ok (.lastore, 1)) (k : J p l e R s m args below meth c A G nL cells slots Q ws' (pc + 1) lv st) : J p l e R s m args below meth c A G nL cells slots Q ws pc lv (.long (lI v) :: .int (iI z) :: .ref a :: st) := by
  intro H locs ls hP hD hS hl
  refine va_last (jx h) (jb h) (jk h) hP hD hS q0 2 ha rfl (iI_in hk hlt hn) hd (fun H1 locs1 hP1 hD1 hS1 => ?_)
  rw [iI_nat hk (by omega), jL_upd, hset] at hP1 hD1
  exact k H1 locs1 ls hP1 hD1 hS1 hl
theorem jr_get (h : jOK p s m args meth c A G cc Ts own nL) {C : String} {T : u_T} {N ci index a : Nat} (hin : ∀ w ∈ u_ws C T N, w ∈ Ts) (q0 : Nat) {fs : List Value} (he : ws[q0]? = some (a, .inr (ci, fs))) (hc : vwCl[ci]? = some (C, T, N)) (f : Nat) (hf : f < N) (hw : Cond.fieldLink own index (T f).1 (T f).2.1 (T f).2.2.1 ∈ Ts) {v : Value} (hv : fs[f]? = some v) (hd : decode cc pc = .ok (.getfield index, 3)) (k : J p l e R s m args below meth c A G nL cells slots Q ws (pc + 3) lv (v :: st)) : J p l e R s m args below meth c A G nL cells slots Q ws pc lv (.ref a :: st) :=
  fun H locs ls hP hD hS hl => va_get (jx h) (jb h) (jts h) hin (jown h) (jk h) hP q0 he hc f hf (jts h _ hw) (fun _ h9 => h9) hv hd (k H locs ls hP hD hS hl)
theorem jr_getN (h : jOK p s m args meth c A G cc Ts own nL) {C : String} {T : u_T} {N ci index a : Nat} (hin : ∀ w ∈ u_ws C T N, w ∈ Ts) (q0 : Nat) {fs : List Value} (he : ws[q0]? = some (a, .inr (ci, fs))) (hc : vwCl[ci]? = some (C, T, N)) (f : Nat) (hf : f < N) (ho : own = RX3) (hw : (index, (T f).1, (T f).2.1, (T f).2.2.1) ∈ jNF) {v : Value} (hv : fs[f]? = some v) (hd : decode cc pc = .ok (.getfield index, 3)) (k : J p l e R s m args below meth c A G nL cells slots Q ws (pc + 3) lv (v :: st)) : J p l e R s m args below meth c A G nL cells slots Q ws pc lv (.ref a :: st) := by
  subst ho
  exact fun H locs ls hP hD hS hl => va_getN (host := RX3) (jx h) (jb h) (jts h) hin (jown h) (jk h) hP q0 he hc f hf (va_Nw.use rfl ((jnn h).2.1 _ hw)) (fun _ h9 => h9) hv hd (k H locs ls hP hD hS hl)
theorem jr_put (h : jOK p s m args meth c A G cc Ts own nL) {C : String} {T : u_T} {N ci index a : Nat} (hin : ∀ w ∈ u_ws C T N, w ∈ Ts) {ty0 : Nat → FieldType} (hty : ∀ k, k < N → parseFieldDescriptor (T k).2.2.1 = some (ty0 k)) (hnm : ∀ a, a < N → ∀ b, b < N → a ≠ b → (T a).2.1 ≠ (T b).2.1) (q0 : Nat) {fs : List Value} (he : ws[q0]? = some (a, .inr (ci, fs))) (hc : vwCl[ci]? = some (C, T, N)) (f : Nat) (hf : f < N) (hw : Cond.fieldLink own index (T f).1 (T f).2.1 (T f).2.2.1 ∈ Ts) (hfin : (T f).2.2.2 = false) (hty0 : ty0 f = .int) {x : Int32} (hl0 : f < fs.length) (hset : ws.set q0 (a, .inr (ci, fs.set f (.int x))) = ws') (hd : decode cc pc = .ok (.putfield index, 3)) (k : J p l e R s m args below meth c A G nL cells slots Q ws' (pc + 3) lv st) : J p l e R s m args below meth c A G nL cells slots Q ws pc lv (.int x :: .ref a :: st) := by
  intro H locs ls hP hD hS hl
  exact va_put (ty := .int) (jx h) (jb h) (jts h) hin ty0 hty hnm (jown h) (jk h) hP hD hS q0 he hc f hf (jts h _ hw) (fun _ h9 => h9) hfin (by rw [hty f hf, hty0]) rfl rfl hl0 hd (fun H1 locs1 hP1 hD1 hS1 => k H1 locs1 ls (hset ▸ hP1) (hset ▸ hD1) hS1 hl)
theorem jr_putF (h : jOK p s m args meth c A G cc Ts own nL) {C : String} {T : u_T} {N ci index a : Nat} (hin : ∀ w ∈ u_ws C T N, w ∈ Ts) {ty0 : Nat → FieldType} (hty : ∀ k, k < N → parseFieldDescriptor (T k).2.2.1 = some (ty0 k)) (hnm : ∀ a, a < N → ∀ b, b < N → a ≠ b → (T a).2.1 ≠ (T b).2.1) (q0 : Nat) {fs : List Value} (he : ws[q0]? = some (a, .inr (ci, fs))) (hc : vwCl[ci]? = some (C, T, N)) (f : Nat) (hf : f < N) (hw : Cond.fieldLink own index (T f).1 (T f).2.1 (T f).2.2.1 ∈ Ts) (hfin : (T f).2.2.2 = true) (hin2 : meth.name = "<init>") (hdecl : (T f).1 = own) {v : Value} (hn : narrow (ty0 f) v = v) (hfit : fits (ty0 f) v = true) (hl0 : f < fs.length) (hset : ws.set q0 (a, .inr (ci, fs.set f v)) = ws') (hd : decode cc pc = .ok (.putfield index, 3)) (k : J p l e R s m args below meth c A G nL cells slots Q ws' (pc + 3) lv st) : J p l e R s m args below meth c A G nL cells slots Q ws pc lv (v :: .ref a :: st) := by
  intro H locs ls hP hD hS hl
  exact va_putF (jx h) (jb h) (jts h) hin ty0 hty hnm (jown h) (jk h) hP hD hS q0 he hc f hf (jts h _ hw) (fun _ h9 => h9) hfin hin2 hdecl (hty f hf) hn hfit hl0 hd (fun H1 locs1 hP1 hD1 hS1 => k H1 locs1 ls (hset ▸ hP1) (hset ▸ hD1) hS1 hl)
theorem jr_topi {a b : Int} (e0 : a = b) (k : J p l e R s m args below meth c A G nL cells slots Q ws pc lv (.int (iI b) :: st)) : J p l e R s m args below meth c A G nL cells slots Q ws pc lv (.int (iI a) :: st) := by subst e0; exact k
theorem jr_topl {a b : Int} (e0 : a = b) (k : J p l e R s m args below meth c A G nL cells slots Q ws pc lv (.long (lI b) :: st)) : J p l e R s m args below meth c A G nL cells slots Q ws pc lv (.long (lI a) :: st) := by subst e0; exact k
theorem jr_loc (is : List Nat) (e0 : lv_pick lv is = lv') (k : J p l e R s m args below meth c A G nL cells slots Q ws pc lv' st) : J p l e R s m args below meth c A G nL cells slots Q ws pc lv st := fun H locs ls hP hD hS hl => k H locs ls hP hD hS (lv_sub hl is e0)
theorem jr_ws (e0 : ws = ws') (k : J p l e R s m args below meth c A G nL cells slots Q ws' pc lv st) : J p l e R s m args below meth c A G nL cells slots Q ws pc lv st := by subst e0; exact k
theorem jr_room {k2 n2 : Nat} (h1 : cells ≤ k2) (h2 : slots ≤ n2) (k : J p l e R s m args below meth c A G nL k2 n2 Q ws pc lv st) : J p l e R s m args below meth c A G nL cells slots Q ws pc lv st := fun H locs ls hP hD hS hl => W.widen h1 h2 (k H locs ls hP hD hS hl)
end JROWS
