section
-- ===== PART A: goes FIRST, ahead of the names: the tables' words, and 'selects' of the private methods out of them =====
/-- a private method of a class that the tables say can be made, by its rows of tables_1 -/
def lw_okq (q : MethodName × Nat) : Prop := (q.1.cls ≠ "java/lang/invoke/MethodHandle" ∧ q.1.cls ≠ "java/lang/invoke/VarHandle") ∧ Cond.instantiable q.1.cls q.2 ∈ tables_1 ∧ Cond.privateMethod q.1 ∈ tables_1 ∧ Cond.instanceMethod q.1 ∈ tables_1
theorem lw_p0 : lw_okq (⟨"CostStudio$Approvals", "countIn", "(C)I"⟩, 3) := ⟨⟨by decide +kernel, by decide +kernel⟩, List.mem_of_getElem? (i := 86) (by decide +kernel), List.mem_of_getElem? (i := 134) (by decide +kernel), List.mem_of_getElem? (i := 135) (by decide +kernel)⟩
theorem lw_p1 : lw_okq (⟨"java/lang/Throwable", "fillInStackTrace", "(I)Ljava/lang/Throwable;"⟩, 6) := ⟨⟨by decide +kernel, by decide +kernel⟩, List.mem_of_getElem? (i := 192) (by decide +kernel), List.mem_of_getElem? (i := 190) (by decide +kernel), List.mem_of_getElem? (i := 191) (by decide +kernel)⟩
theorem lw_p2 : lw_okq (⟨"CostStudio", "requireDriver", "(I)V"⟩, 7) := ⟨⟨by decide +kernel, by decide +kernel⟩, List.mem_of_getElem? (i := 19) (by decide +kernel), List.mem_of_getElem? (i := 273) (by decide +kernel), List.mem_of_getElem? (i := 274) (by decide +kernel)⟩
theorem lw_p3 : lw_okq (⟨"CostStudio", "reopenDrifted", "()I"⟩, 7) := ⟨⟨by decide +kernel, by decide +kernel⟩, List.mem_of_getElem? (i := 19) (by decide +kernel), List.mem_of_getElem? (i := 292) (by decide +kernel), List.mem_of_getElem? (i := 293) (by decide +kernel)⟩
theorem lw_p4 : lw_okq (⟨"CostStudio", "fillInputs", "(III)V"⟩, 7) := ⟨⟨by decide +kernel, by decide +kernel⟩, List.mem_of_getElem? (i := 19) (by decide +kernel), List.mem_of_getElem? (i := 296) (by decide +kernel), List.mem_of_getElem? (i := 297) (by decide +kernel)⟩
theorem lw_p5 : lw_okq (⟨"CostStudio", "valueIn", "(III)I"⟩, 7) := ⟨⟨by decide +kernel, by decide +kernel⟩, List.mem_of_getElem? (i := 19) (by decide +kernel), List.mem_of_getElem? (i := 300) (by decide +kernel), List.mem_of_getElem? (i := 301) (by decide +kernel)⟩
theorem lw_p6 : lw_okq (⟨"CostStudio$Scenarios", "addedTo", "(III)I"⟩, 5) := ⟨⟨by decide +kernel, by decide +kernel⟩, List.mem_of_getElem? (i := 27) (by decide +kernel), List.mem_of_getElem? (i := 304) (by decide +kernel), List.mem_of_getElem? (i := 305) (by decide +kernel)⟩
theorem lw_p7 : lw_okq (⟨"CostStudio$Lines", "findAll", "(I[I)V"⟩, 7) := ⟨⟨by decide +kernel, by decide +kernel⟩, List.mem_of_getElem? (i := 52) (by decide +kernel), List.mem_of_getElem? (i := 311) (by decide +kernel), List.mem_of_getElem? (i := 312) (by decide +kernel)⟩
theorem lw_p8 : lw_okq (⟨"CostStudio$Lines", "found", "(II[I)I"⟩, 7) := ⟨⟨by decide +kernel, by decide +kernel⟩, List.mem_of_getElem? (i := 52) (by decide +kernel), List.mem_of_getElem? (i := 315) (by decide +kernel), List.mem_of_getElem? (i := 316) (by decide +kernel)⟩
theorem lw_p9 : lw_okq (⟨"CostStudio$Approvals", "reopenIfDrifted", "(II)Z"⟩, 3) := ⟨⟨by decide +kernel, by decide +kernel⟩, List.mem_of_getElem? (i := 86) (by decide +kernel), List.mem_of_getElem? (i := 329) (by decide +kernel), List.mem_of_getElem? (i := 330) (by decide +kernel)⟩
theorem lw_p10 : lw_okq (⟨"CostStudio$Approvals", "isDrifted", "(II)Z"⟩, 3) := ⟨⟨by decide +kernel, by decide +kernel⟩, List.mem_of_getElem? (i := 86) (by decide +kernel), List.mem_of_getElem? (i := 333) (by decide +kernel), List.mem_of_getElem? (i := 334) (by decide +kernel)⟩
theorem lw_p11 : lw_okq (⟨"CostStudio", "requireScenario", "(I)V"⟩, 7) := ⟨⟨by decide +kernel, by decide +kernel⟩, List.mem_of_getElem? (i := 19) (by decide +kernel), List.mem_of_getElem? (i := 348) (by decide +kernel), List.mem_of_getElem? (i := 349) (by decide +kernel)⟩
theorem lw_p12 : lw_okq (⟨"CostStudio", "requireLine", "(I)V"⟩, 7) := ⟨⟨by decide +kernel, by decide +kernel⟩, List.mem_of_getElem? (i := 19) (by decide +kernel), List.mem_of_getElem? (i := 362) (by decide +kernel), List.mem_of_getElem? (i := 363) (by decide +kernel)⟩
theorem lw_p13 : lw_okq (⟨"CostStudio$Lines", "add", "(CII)I"⟩, 7) := ⟨⟨by decide +kernel, by decide +kernel⟩, List.mem_of_getElem? (i := 52) (by decide +kernel), List.mem_of_getElem? (i := 366) (by decide +kernel), List.mem_of_getElem? (i := 367) (by decide +kernel)⟩
theorem lw_p14 : lw_okq (⟨"CostStudio$Scenarios", "add", "(I)I"⟩, 5) := ⟨⟨by decide +kernel, by decide +kernel⟩, List.mem_of_getElem? (i := 27) (by decide +kernel), List.mem_of_getElem? (i := 377) (by decide +kernel), List.mem_of_getElem? (i := 378) (by decide +kernel)⟩
theorem lw_p15 : lw_okq (⟨"CostStudio$Scenarios", "addDifference", "(IIII)I"⟩, 5) := ⟨⟨by decide +kernel, by decide +kernel⟩, List.mem_of_getElem? (i := 27) (by decide +kernel), List.mem_of_getElem? (i := 404) (by decide +kernel), List.mem_of_getElem? (i := 405) (by decide +kernel)⟩
def lw_privs_1 : List (MethodName × Nat) := [(⟨"CostStudio$Approvals", "countIn", "(C)I"⟩, 3), (⟨"java/lang/Throwable", "fillInStackTrace", "(I)Ljava/lang/Throwable;"⟩, 6), (⟨"CostStudio", "requireDriver", "(I)V"⟩, 7), (⟨"CostStudio", "reopenDrifted", "()I"⟩, 7), (⟨"CostStudio", "fillInputs", "(III)V"⟩, 7), (⟨"CostStudio", "valueIn", "(III)I"⟩, 7), (⟨"CostStudio$Scenarios", "addedTo", "(III)I"⟩, 5), (⟨"CostStudio$Lines", "findAll", "(I[I)V"⟩, 7), (⟨"CostStudio$Lines", "found", "(II[I)I"⟩, 7), (⟨"CostStudio$Approvals", "reopenIfDrifted", "(II)Z"⟩, 3), (⟨"CostStudio$Approvals", "isDrifted", "(II)Z"⟩, 3), (⟨"CostStudio", "requireScenario", "(I)V"⟩, 7), (⟨"CostStudio", "requireLine", "(I)V"⟩, 7), (⟨"CostStudio$Lines", "add", "(CII)I"⟩, 7), (⟨"CostStudio$Scenarios", "add", "(I)I"⟩, 5), (⟨"CostStudio$Scenarios", "addDifference", "(IIII)I"⟩, 5)]
theorem lw_r1 : ∀ q ∈ lw_privs_1, lw_okq q := List.forall_mem_cons.mpr ⟨lw_p0, List.forall_mem_cons.mpr ⟨lw_p1, List.forall_mem_cons.mpr ⟨lw_p2, List.forall_mem_cons.mpr ⟨lw_p3, List.forall_mem_cons.mpr ⟨lw_p4, List.forall_mem_cons.mpr ⟨lw_p5, List.forall_mem_cons.mpr ⟨lw_p6, List.forall_mem_cons.mpr ⟨lw_p7, List.forall_mem_cons.mpr ⟨lw_p8, List.forall_mem_cons.mpr ⟨lw_p9, List.forall_mem_cons.mpr ⟨lw_p10, List.forall_mem_cons.mpr ⟨lw_p11, List.forall_mem_cons.mpr ⟨lw_p12, List.forall_mem_cons.mpr ⟨lw_p13, List.forall_mem_cons.mpr ⟨lw_p14, List.forall_mem_cons.mpr ⟨lw_p15, fun _ h => absurd h List.not_mem_nil⟩⟩⟩⟩⟩⟩⟩⟩⟩⟩⟩⟩⟩⟩⟩⟩
theorem lw_p16 : lw_okq (⟨"CostStudio", "numberIn", "(IIII)I"⟩, 7) := ⟨⟨by decide +kernel, by decide +kernel⟩, List.mem_of_getElem? (i := 19) (by decide +kernel), List.mem_of_getElem? (i := 415) (by decide +kernel), List.mem_of_getElem? (i := 416) (by decide +kernel)⟩
theorem lw_p17 : lw_okq (⟨"CostStudio$Lines", "markNeeded", "(II)V"⟩, 7) := ⟨⟨by decide +kernel, by decide +kernel⟩, List.mem_of_getElem? (i := 52) (by decide +kernel), List.mem_of_getElem? (i := 419) (by decide +kernel), List.mem_of_getElem? (i := 420) (by decide +kernel)⟩
theorem lw_p18 : lw_okq (⟨"CostStudio$Lines", "findNeeded", "(II[I)I"⟩, 7) := ⟨⟨by decide +kernel, by decide +kernel⟩, List.mem_of_getElem? (i := 52) (by decide +kernel), List.mem_of_getElem? (i := 423) (by decide +kernel), List.mem_of_getElem? (i := 424) (by decide +kernel)⟩
theorem lw_p19 : lw_okq (⟨"CostStudio$Approvals", "keep", "(III)V"⟩, 3) := ⟨⟨by decide +kernel, by decide +kernel⟩, List.mem_of_getElem? (i := 86) (by decide +kernel), List.mem_of_getElem? (i := 505) (by decide +kernel), List.mem_of_getElem? (i := 506) (by decide +kernel)⟩
theorem lw_p20 : lw_okq (⟨"CostStudio$Approvals", "sumOfTolerances", "()I"⟩, 3) := ⟨⟨by decide +kernel, by decide +kernel⟩, List.mem_of_getElem? (i := 86) (by decide +kernel), List.mem_of_getElem? (i := 556) (by decide +kernel), List.mem_of_getElem? (i := 557) (by decide +kernel)⟩
theorem lw_p21 : lw_okq (⟨"CostStudioModel", "isDriver", "(I)Z"⟩, 22) := ⟨⟨by decide +kernel, by decide +kernel⟩, List.mem_of_getElem? (i := 560) (by decide +kernel), List.mem_of_getElem? (i := 649) (by decide +kernel), List.mem_of_getElem? (i := 650) (by decide +kernel)⟩
theorem lw_p22 : lw_okq (⟨"CostStudioModel", "looks", "()I"⟩, 22) := ⟨⟨by decide +kernel, by decide +kernel⟩, List.mem_of_getElem? (i := 560) (by decide +kernel), List.mem_of_getElem? (i := 653) (by decide +kernel), List.mem_of_getElem? (i := 654) (by decide +kernel)⟩
theorem lw_p23 : lw_okq (⟨"CostStudioModel", "finds", "(IIII)Z"⟩, 22) := ⟨⟨by decide +kernel, by decide +kernel⟩, List.mem_of_getElem? (i := 560) (by decide +kernel), List.mem_of_getElem? (i := 660) (by decide +kernel), List.mem_of_getElem? (i := 661) (by decide +kernel)⟩
theorem lw_p24 : lw_okq (⟨"CostStudioModel", "byKind", "(IIII)J"⟩, 22) := ⟨⟨by decide +kernel, by decide +kernel⟩, List.mem_of_getElem? (i := 560) (by decide +kernel), List.mem_of_getElem? (i := 664) (by decide +kernel), List.mem_of_getElem? (i := 665) (by decide +kernel)⟩
theorem lw_p25 : lw_okq (⟨"CostStudioModel", "valueIn", "(IIII)I"⟩, 22) := ⟨⟨by decide +kernel, by decide +kernel⟩, List.mem_of_getElem? (i := 560) (by decide +kernel), List.mem_of_getElem? (i := 668) (by decide +kernel), List.mem_of_getElem? (i := 669) (by decide +kernel)⟩
theorem lw_p26 : lw_okq (⟨"CostStudioModel", "isUnder", "(II)Z"⟩, 22) := ⟨⟨by decide +kernel, by decide +kernel⟩, List.mem_of_getElem? (i := 560) (by decide +kernel), List.mem_of_getElem? (i := 672) (by decide +kernel), List.mem_of_getElem? (i := 673) (by decide +kernel)⟩
theorem lw_p27 : lw_okq (⟨"CostStudioModel", "isScenario", "(I)Z"⟩, 22) := ⟨⟨by decide +kernel, by decide +kernel⟩, List.mem_of_getElem? (i := 560) (by decide +kernel), List.mem_of_getElem? (i := 683) (by decide +kernel), List.mem_of_getElem? (i := 684) (by decide +kernel)⟩
theorem lw_p28 : lw_okq (⟨"CostStudioModel", "checked", "(Z)I"⟩, 22) := ⟨⟨by decide +kernel, by decide +kernel⟩, List.mem_of_getElem? (i := 560) (by decide +kernel), List.mem_of_getElem? (i := 690) (by decide +kernel), List.mem_of_getElem? (i := 691) (by decide +kernel)⟩
theorem lw_p29 : lw_okq (⟨"CostStudioModel", "isLine", "(I)Z"⟩, 22) := ⟨⟨by decide +kernel, by decide +kernel⟩, List.mem_of_getElem? (i := 560) (by decide +kernel), List.mem_of_getElem? (i := 698) (by decide +kernel), List.mem_of_getElem? (i := 699) (by decide +kernel)⟩
theorem lw_p30 : lw_okq (⟨"CostStudioModel", "many", "(C)I"⟩, 22) := ⟨⟨by decide +kernel, by decide +kernel⟩, List.mem_of_getElem? (i := 560) (by decide +kernel), List.mem_of_getElem? (i := 765) (by decide +kernel), List.mem_of_getElem? (i := 766) (by decide +kernel)⟩
def lw_privs_2 : List (MethodName × Nat) := [(⟨"CostStudio", "numberIn", "(IIII)I"⟩, 7), (⟨"CostStudio$Lines", "markNeeded", "(II)V"⟩, 7), (⟨"CostStudio$Lines", "findNeeded", "(II[I)I"⟩, 7), (⟨"CostStudio$Approvals", "keep", "(III)V"⟩, 3), (⟨"CostStudio$Approvals", "sumOfTolerances", "()I"⟩, 3), (⟨"CostStudioModel", "isDriver", "(I)Z"⟩, 22), (⟨"CostStudioModel", "looks", "()I"⟩, 22), (⟨"CostStudioModel", "finds", "(IIII)Z"⟩, 22), (⟨"CostStudioModel", "byKind", "(IIII)J"⟩, 22), (⟨"CostStudioModel", "valueIn", "(IIII)I"⟩, 22), (⟨"CostStudioModel", "isUnder", "(II)Z"⟩, 22), (⟨"CostStudioModel", "isScenario", "(I)Z"⟩, 22), (⟨"CostStudioModel", "checked", "(Z)I"⟩, 22), (⟨"CostStudioModel", "isLine", "(I)Z"⟩, 22), (⟨"CostStudioModel", "many", "(C)I"⟩, 22)]
theorem lw_r2 : ∀ q ∈ lw_privs_2, lw_okq q := List.forall_mem_cons.mpr ⟨lw_p16, List.forall_mem_cons.mpr ⟨lw_p17, List.forall_mem_cons.mpr ⟨lw_p18, List.forall_mem_cons.mpr ⟨lw_p19, List.forall_mem_cons.mpr ⟨lw_p20, List.forall_mem_cons.mpr ⟨lw_p21, List.forall_mem_cons.mpr ⟨lw_p22, List.forall_mem_cons.mpr ⟨lw_p23, List.forall_mem_cons.mpr ⟨lw_p24, List.forall_mem_cons.mpr ⟨lw_p25, List.forall_mem_cons.mpr ⟨lw_p26, List.forall_mem_cons.mpr ⟨lw_p27, List.forall_mem_cons.mpr ⟨lw_p28, List.forall_mem_cons.mpr ⟨lw_p29, List.forall_mem_cons.mpr ⟨lw_p30, fun _ h => absurd h List.not_mem_nil⟩⟩⟩⟩⟩⟩⟩⟩⟩⟩⟩⟩⟩⟩⟩
def lw_privs : List (MethodName × Nat) := lw_privs_1 ++ (lw_privs_2)
def lw_tbl : List Cond := k2_sels lw_privs ++ tables_1
theorem lw_privs_ok : ∀ q ∈ lw_privs, lw_okq q := by
  show ∀ q ∈ lw_privs_1 ++ (lw_privs_2), lw_okq q
  exact List.forall_mem_append.mpr ⟨lw_r1, lw_r2⟩
/-- the streams that the claim lets the run draw from -/
abbrev lw_cs : List Choice := [Jvm.Choice.named "NaN.bits"]
theorem lw_bits : nanBits ∈ lw_cs := by first | decide | exact List.mem_cons_self | simp [lw_cs, nanBits]
end
section
/-! ===== BEGIN words of one list among another's, by their places ===== -/
theorem goodIn_r {big : List Cond} (ws : List Cond) (ps : List Nat) (hp : ws = ps.filterMap (fun i => big[i]?)) (h : ws.all goodWord = true) : GoodIn big ws := by
  intro w hw
  have h1 := List.all_eq_true.mp h w hw
  rw [hp] at hw
  obtain ⟨i, -, hi⟩ := List.mem_filterMap.mp hw
  have hm : w ∈ big := by first | exact List.mem_of_getElem? hi | exact List.getElem?_mem hi
  exact ⟨hm, good_of_word h1⟩
theorem goodIn_app {big a b : List Cond} (ha : GoodIn big a) (hb : GoodIn big b) : GoodIn big (a ++ b) := fun w h => (List.mem_append.mp h).elim (ha w) (hb w)
theorem goodIn_ca {big a b : List Cond} {c : Cond} (ha : GoodIn big (c :: a)) (hb : GoodIn big b) : GoodIn big (c :: (a ++ b)) := fun w h => (List.mem_cons.mp h).elim (fun e => ha w (List.mem_cons.mpr (Or.inl e))) (fun h => (List.mem_append.mp h).elim (fun h => ha w (List.mem_cons.mpr (Or.inr h))) (hb w))
theorem goodIn_sub {big ws : List Cond} (hm : ∀ w ∈ ws, w ∈ big) (h : ws.all goodWord = true) : GoodIn big ws := fun w hw => ⟨hm w hw, good_of_word (List.all_eq_true.mp h w hw)⟩
/-! ===== END ===== -/

/-! ===== BEGIN exceptions that leave a method, and their catching by the caller (launches without stack traces) ===== -/
section VXA
/-! The laws vx_back, vx_callV, vx_callS, vx_callSW, vx_throw0, vx_throwS follow proofs of the library, with one case more: JvmDerived/Free/Laws.lean (Back.of_free), Shelf42/LK1.lean (callV, callS), Shelf/KitTraced.lean (throwNew0V, throwNewS). -/
/-- where a method has thrown q: the class by its name, the cell, what was written, the world -/
def vx_T (XC : String → State → State → Prop) (st : State) (q : Addr) (t : State) (mc ms : Nat) (free : Addr → Prop) : Prop :=
  ∃ (E : String) (ce : Cell) (L : List Loc), XC E st t ∧ t.heap[q]? = some ce ∧ ce.vm = .none ∧ st.vm.findClass E = some ce.cls ∧ st.WarmedH t.vm ∧ st.sameButNew ({ t with vm := st.vm } : State) L mc ms ∧ ∀ z ∈ L, free z.base
def vx_Q (Qc : Array Value → State → Outcome → State → Prop) (XC : String → State → State → Prop) (mc ms : Nat) (free : Addr → Prop) : Array Value → State → Outcome → State → Prop := fun a st o t =>
  (Qc a st o t ∧ ∃ L, FrameEnd st o t L mc ms ∧ ∀ q ∈ L, free q.base) ∨ ∃ q, o = .threw q ∧ vx_T XC st q t mc ms free
/-- a callee that returns or throws -/
def vx_Met (l : Launch) (y : MethodName) (ws : List Cond) (rm : Room) (Pc : Array Value → State → Prop) (Qc : Array Value → State → Outcome → State → Prop) (XC : String → State → State → Prop) (mc ms : Nat) (free : Addr → Prop) : Prop :=
  MetFree l y (headSpec ws rm) Pc (fun _ _ _ _ _ => True) (vx_Q Qc XC mc ms free)
def vx_Post (XC : String → State → State → Prop) (mc ms : Nat) (free : Addr → Prop) : Pt → Array Value → Addr → Pt → Prop := fun A a q B =>
  ∃ (g : JFrame) (mk : MethodId) (t : State) (L : List Loc) (E : String) (ce : Cell), B.U.heap = t.heap ∧ B.U.vm = t.vm ∧ XC E (A.U.calling g mk a) t ∧ t.heap[q]? = some ce ∧ ce.vm = .none ∧ A.U.vm.findClass E = some ce.cls ∧ B.locs = A.locs ++ L ∧ (∀ z ∈ L, free z.base) ∧ B.cells = A.cells + mc ∧ B.slots = A.slots + ms
def vx_Back (l : Launch) (R : Room) (p : Program) (e : Env) (below : List Frame) (s : State) (sargs : Array Value) (y : MethodName) (len W9 : Nat)
    (Pre : Pt → Array Value → Prop) (Post : Pt → Array Value → Option Value → Pt → Prop) (PostX : Pt → Array Value → Addr → Pt → Prop) : Prop :=
  ∀ (m : MethodId) (meth : Method) (c : Code) (A : Pt) (g : JFrame) (ig : Instr) (mk : MethodId) (a : Array Value),
    Stand p l e R s m sargs below meth c A.U A.locs A.cells A.slots → g.method = m → g.locals.size = c.maxLocals → decode c.code g.pc = .ok (ig, len) →
    2 * g.monitorRoom + (g.stack.map fun v => v.category).sum ≤ W9 → A.U.methodNamed? y = some mk → Pre A a →
    (∃ (v : Option Value) (B : Pt), Stand p l e R s m sargs below meth c B.U B.locs B.cells B.slots ∧ Post A a v B ∧
      Steps p.tables e below (doInvoke e (A.U.setTop g) [] mk a).1 (B.U.setTop { g with pc := g.pc + len, stack := v.toList ++ g.stack })) ∨
    (∃ (q : Addr) (B : Pt), Stand p l e R s m sargs below meth c B.U B.locs B.cells B.slots ∧ PostX A a q B ∧
      Steps p.tables e below (doInvoke e (A.U.setTop g) [] mk a).1 ((B.U.setTop g).pushFrame (.throwing q)))
section Payer
variable {l : Launch} {R : Room} {p : Program} {e : Env} {below : List Frame} {s : State} {sargs : Array Value} {y : MethodName} {len W9 : Nat}
theorem vx_back {ws : List Cond} {rm : Room} {Pc : Array Value → State → Prop} {Qc : Array Value → State → Outcome → State → Prop} {XC : String → State → State → Prop} {mc ms : Nat} {free : Addr → Prop} {bytes : ByteArray} {maxL : Nat} {ret : Option FieldType}
    (hM : vx_Met l y ws rm Pc Qc XC mc ms free) (hblind : FrameBlind Pc) (hrc : rm.cells = mc) (hrs : rm.slots = ms)
    (hframes : rm.frames + 1 ≤ R.frames) (hlocals : W9 + (maxL + 11) + rm.locals ≤ R.locals)
    (hws : ∀ w ∈ ws, ∀ a' U, s.WarmedH U.vm → w.before a' U = true) (hcode : Cond.code y bytes maxL ret ∈ ws) (hinit : ∀ a' U, s.WarmedH U.vm → (Cond.initialized y.cls).before a' U = true) :
    vx_Back l R p e below s sargs y len W9 (PreOf R mc ms Pc) (PostOf Qc mc ms free) (vx_Post XC mc ms free) := by
  intro m meth c A g ig mk a X hg hsize hdg hW hn hp
  have h1 : (headSpec ws rm).pre.before a A.U = true := atoms_intro fun w hw => hws w hw _ _ X.warmed
  have h2 : (Cond.code y bytes maxL ret).before a A.U = true := hws _ hcode _ _ X.warmed
  have h3 : (Cond.initialized y.cls).before a A.U = true := hinit _ _ X.warmed
  have h4 : A.cells + (headSpec ws rm).room.cells ≤ R.cells := by rw [show (headSpec ws rm).room.cells = mc from hrc]; exact hp.1
  have h5 : A.slots + (headSpec ws rm).room.slots ≤ R.slots := by rw [show (headSpec ws rm).room.slots = ms from hrs]; exact hp.2.1
  have hPc : Pc a (A.U.calling g mk a) := hblind _ _ _ _ hp.2.2
  obtain ⟨U, Ls, c0, s0⟩ := A
  dsimp only [Pt.U, Pt.locs, Pt.cells, Pt.slots] at h1 h2 h3 h4 h5 X hn hPc ⊢
  obtain ⟨methY, cY, hmY, hcY, -, hlY, -, -, -, -⟩ := Cond.code_spec hn h2
  obtain ⟨kY, hkY, -⟩ := className_of_methodNamed hn
  have hinitY : kY.init = .initialized := Cond.initialized_spec (findClass_of_methodNamed hn) hkY h3
  have h : At U g.method c below := by rw [hg]; exact X.here
  have hlocals9 : W9 + (maxL + 11) + (headSpec ws rm).room.locals ≤ R.locals := hlocals
  have happ : (headSpec ws rm).appliesLoose y e.platform (U.calling g mk a) = true :=
    Spec.appliesLoose_calling (g := g) h hdg hn hkY hinitY
      (X.room_calling (g := g) (R' := (headSpec ws rm).room) hsize hmY hcY hframes (by rw [hlY]; omega) h4 h5) h1
  obtain ⟨mid, hmid⟩ := h.above
  have hfr : (U.setTop g).frames = (.java g :: mid) ++ below := by rw [State.frames_setTop' g h.top, hmid]; rfl
  obtain ⟨o, s₂, hsteps, -, hend, hq⟩ := Steps.callFree hM p X.admits X.cas X.clock (acts := []) hfr happ hPc trivial
  have hq' : vx_Q Qc XC mc ms free a (U.calling g mk a) o s₂ := hq
  rw [State.frames_setTop' g h.top] at hend
  obtain ⟨g₀, hg0⟩ := Option.isSome_iff_exists.mp h.top
  obtain ⟨r, hr⟩ := State.topJava?_eq_some.mp hg0
  have hr' : (({ U with heap := s₂.heap, slotsUsed := s₂.slotsUsed } : State).setVm s₂.vm).frames = .java g₀ :: r := hr
  rcases hq' with ⟨hqc, L, hfe, hL⟩ | ⟨q, rfl, E, ce, L, hx, hce, hcv, hcl, hW₂, hsm, hL⟩
  · obtain ⟨⟨v, rfl⟩, hW₂, e2, q2, q3, q4, q5, q6⟩ := id hfe
    have e3 : s₂ = ({ (U.calling g mk a).setFrames s₂.frames with heap := s₂.heap, slotsUsed := s₂.slotsUsed } : State).setVm s₂.vm := by
      have : s₂ = ({ s₂ with vm := (U.calling g mk a).vm } : State).setVm s₂.vm := rfl
      rw [e2] at this
      exact this
    obtain ⟨c₂, i₂, len₂, hc₂, hd₂, hf₂⟩ := hend
    have hW' : U.WarmedH s₂.vm := hW₂
    have hcc : c₂ = c := by
      have h1 : s₂.code? g.method = U.code? g.method := by
        rw [State.code?_eq, State.code?_eq, hW'.alike.method?]
      exact Option.some.inj (hc₂.symm.trans (h1.trans h.code))
    subst hcc
    have hlen : len₂ = len := by rw [hdg] at hd₂; cases hd₂; rfl
    subst hlen
    have hs₂ : s₂ = (({ U with heap := s₂.heap, slotsUsed := s₂.slotsUsed } : State).setVm s₂.vm).setTop { g with pc := g.pc + len₂, stack := v.toList ++ g.stack } := by
      refine e3.trans ?_
      rw [hf₂, State.calling_eq h.top, State.setFrames_setFrames, State.setTop_of_frames _ hr', hr]
      rfl
    have hsame : U.sameButNew ({ U with heap := s₂.heap, slotsUsed := s₂.slotsUsed } : State) L mc ms := by
      refine ⟨?_, q2, q3, q4, q5, q6⟩
      obtain ⟨t, ht, -⟩ := State.frames_cons hr
      show ({ U with heap := s₂.heap, slotsUsed := s₂.slotsUsed } : State) = { U.setFrames U.frames with heap := s₂.heap, slotsUsed := s₂.slotsUsed }
      rw [State.setFrames_self ht]
    subst hg
    refine Or.inl ⟨v, ⟨(({ U with heap := s₂.heap, slotsUsed := s₂.slotsUsed } : State).setVm s₂.vm), Ls ++ L, c0 + mc, s0 + ms⟩,
      ⟨X.admits, X.cas, X.clock, X.frames, X.room, X.hears, X.method, X.code, (X.here.setHeapUsed s₂.heap s₂.slotsUsed).setVm hW'.alike, X.tail, State.WarmedH.trans X.warmed hW', X.limits, X.bytes, X.same.trans (hsame.setVm s.vm)⟩,
      ⟨g, mk, s₂, L, rfl, rfl, hqc, rfl, hL, rfl, rfl⟩, ?_⟩
    show Steps p.tables e below _ ((({ U with heap := s₂.heap, slotsUsed := s₂.slotsUsed } : State).setVm s₂.vm).setTop { g with pc := g.pc + len₂, stack := v.toList ++ g.stack })
    rw [← hs₂]
    exact hsteps
  · obtain ⟨e2, q2, q3, q4, q5, q6⟩ := id hsm
    have e3 : s₂ = ({ (U.calling g mk a).setFrames s₂.frames with heap := s₂.heap, slotsUsed := s₂.slotsUsed } : State).setVm s₂.vm := by
      have : s₂ = ({ s₂ with vm := (U.calling g mk a).vm } : State).setVm s₂.vm := rfl
      rw [e2] at this
      exact this
    have hf₂ : s₂.frames = .throwing q :: .java g :: U.frames.tail := hend
    have hW' : U.WarmedH s₂.vm := hW₂
    have hs₂ : s₂ = ((({ U with heap := s₂.heap, slotsUsed := s₂.slotsUsed } : State).setVm s₂.vm).setTop g).pushFrame (.throwing q) := by
      refine e3.trans ?_
      rw [hf₂, State.calling_eq h.top, State.setFrames_setFrames, State.pushFrame, State.frames_setTop _ hr', State.setTop_of_frames _ hr', State.setFrames_setFrames, hr]
      rfl
    have hsame : U.sameButNew ({ U with heap := s₂.heap, slotsUsed := s₂.slotsUsed } : State) L mc ms := by
      refine ⟨?_, q2, q3, q4, q5, q6⟩
      obtain ⟨t, ht, -⟩ := State.frames_cons hr
      show ({ U with heap := s₂.heap, slotsUsed := s₂.slotsUsed } : State) = { U.setFrames U.frames with heap := s₂.heap, slotsUsed := s₂.slotsUsed }
      rw [State.setFrames_self ht]
    subst hg
    refine Or.inr ⟨q, ⟨(({ U with heap := s₂.heap, slotsUsed := s₂.slotsUsed } : State).setVm s₂.vm), Ls ++ L, c0 + mc, s0 + ms⟩,
      ⟨X.admits, X.cas, X.clock, X.frames, X.room, X.hears, X.method, X.code, (X.here.setHeapUsed s₂.heap s₂.slotsUsed).setVm hW'.alike, X.tail, State.WarmedH.trans X.warmed hW', X.limits, X.bytes, X.same.trans (hsame.setVm s.vm)⟩,
      ⟨g, mk, s₂, L, E, ce, rfl, rfl, hx, hce, hcv, hcl, rfl, hL, rfl, rfl⟩, ?_⟩
    show Steps p.tables e below _ (((({ U with heap := s₂.heap, slotsUsed := s₂.slotsUsed } : State).setVm s₂.vm).setTop g).pushFrame (.throwing q))
    rw [← hs₂]
    exact hsteps
end Payer
section Calls
variable {p : Program} {l : Launch} {e : Env} {R : Room} {s : State} {m : MethodId} {args : Array Value} {below : List Frame} {meth : Method} {c : Code} {T : State} {locs : List Loc} {cells slots : Nat}
theorem vx_callV (X : Stand p l e R s m args below meth c T locs cells slots) (hexec : p.tables.exec = Jvm.exec) {own C : String} {index : Nat} {y : MethodName} {bytes : ByteArray} {maxL : Nat} {ret : Option FieldType}
    (hown : s.vm.findClass own = some m.cls) (hlink : (Cond.methodLink own index y).before args s = true) (hinst : (Cond.instanceMethod y).before args s = true) (hsel : (Cond.selects C y y).before args s = true)
    (hcode : (Cond.code y bytes maxL ret).before args s = true) (hy : y.cls ≠ "java/lang/invoke/MethodHandle" ∧ y.cls ≠ "java/lang/invoke/VarHandle")
    {W9 : Nat} {Pre : Pt → Array Value → Prop} {Post : Pt → Array Value → Option Value → Pt → Prop} {PostX : Pt → Array Value → Addr → Pt → Prop} (hK : vx_Back l R p e below s args y 3 W9 Pre Post PostX)
    {b : Addr} {cellB : Cell} (hcell : T.heap[b]? = some cellB) (hobj : cellB.vm.isStatics = false) (hcls : s.vm.findClass C = some cellB.cls)
    {g : JFrame} (hg : g.method = m) (hsize : g.locals.size = c.maxLocals) {argsL rest : List Value} (hlen : ∀ sig, parseMethodDescriptor y.desc = some sig → argsL.length = sig.parameters.length)
    (hstack : g.stack = argsL.reverse ++ .ref b :: rest) (hW : 2 * g.monitorRoom + (rest.map fun v => v.category).sum ≤ W9) (hdg : decode c.code g.pc = .ok (.invokevirtual index, 3))
    (hpre : ∀ vm₁, s.WarmedH vm₁ → Pre ⟨T.setVm vm₁, locs, cells, slots⟩ (Value.ref b :: argsL).toArray) :
    (∃ (v : Option Value) (vm₁ : Vm) (B : Pt), s.WarmedH vm₁ ∧ Stand p l e R s m args below meth c B.U B.locs B.cells B.slots ∧ Post ⟨T.setVm vm₁, locs, cells, slots⟩ (Value.ref b :: argsL).toArray v B ∧
      ∀ target, Steps p.tables e below (B.U.setTop { g with pc := g.pc + 3, stack := v.toList ++ rest }) target → Steps p.tables e below (T.setTop g) target) ∨
    (∃ (q : Addr) (vm₁ : Vm) (B : Pt), s.WarmedH vm₁ ∧ Stand p l e R s m args below meth c B.U B.locs B.cells B.slots ∧ PostX ⟨T.setVm vm₁, locs, cells, slots⟩ (Value.ref b :: argsL).toArray q B ∧
      Steps p.tables e below (T.setTop g) ((B.U.setTop { g with stack := rest }).pushFrame (.throwing q))) := by
  obtain ⟨mk, methM, hnamed, hmethM, hstM, habM⟩ := Cond.instanceMethod_spec hinst
  obtain ⟨methM', cM, hmethM', -, -, -, -, -, -, hsigM⟩ := Cond.code_spec hnamed hcode
  cases hmethM.symm.trans hmethM'
  obtain ⟨c2, r2, m2, q1, q2, q3, q4, kP, hkP, hkPi⟩ := Cond.selects_spec hsel
  cases hcls.symm.trans q1
  cases (State.methodFound?_of_named hnamed hy).symm.trans q2
  cases hnamed.symm.trans q3
  have hselP : selectMethod e.platform s.vm cellB.cls mk = .method mk := by rw [Launch.admits_selectMethod X.admits]; exact q4
  obtain ⟨vm₁, X₁, hstep₁⟩ := X.invokevirtual hexec hown hlink hnamed hmethM hstM hkP hkPi hy (a := b) (cell := cellB) hcell
    (fun z h => by rw [h] at hobj; cases hobj) hselP hmethM habM hkP hkPi (g := g) hg (argsL := argsL) (rest := rest) (hlen _ hsigM) hstack hdg
  rcases hK m meth c ⟨T.setVm vm₁, locs, cells, slots⟩ { g with stack := rest } (.invokevirtual index) mk (Value.ref b :: argsL).toArray X₁ hg hsize hdg hW (X₁.named hnamed) (hpre vm₁ X₁.warmed) with ⟨v, B, X', hpost, hsteps⟩ | ⟨q, B, X', hpost, hsteps⟩
  · exact Or.inl ⟨v, vm₁, B, X₁.warmed, X', hpost, fun target h => hstep₁ _ fun acts => by rw [doInvoke_state]; exact hsteps.trans h⟩
  · exact Or.inr ⟨q, vm₁, B, X₁.warmed, X', hpost, hstep₁ _ fun acts => by rw [doInvoke_state]; exact hsteps⟩
theorem vx_callS (X : Stand p l e R s m args below meth c T locs cells slots) (hexec : p.tables.exec = Jvm.exec) {own : String} {index : Nat} {y : MethodName} {bytes : ByteArray} {maxL : Nat} {ret : Option FieldType}
    (hown : s.vm.findClass own = some m.cls) (hlink : (Cond.methodLink own index y).before args s = true) (hstat : (Cond.static y).before args s = true) (hinit : (Cond.initialized y.cls).before args s = true)
    (hcode : (Cond.code y bytes maxL ret).before args s = true) (hy : y.cls ≠ "java/lang/invoke/MethodHandle" ∧ y.cls ≠ "java/lang/invoke/VarHandle")
    {W9 : Nat} {Pre : Pt → Array Value → Prop} {Post : Pt → Array Value → Option Value → Pt → Prop} {PostX : Pt → Array Value → Addr → Pt → Prop} (hK : vx_Back l R p e below s args y 3 W9 Pre Post PostX)
    {g : JFrame} (hg : g.method = m) (hsize : g.locals.size = c.maxLocals) {argsL rest : List Value} (hlen : ∀ sig, parseMethodDescriptor y.desc = some sig → argsL.length = sig.parameters.length)
    (hstack : g.stack = argsL.reverse ++ rest) (hW : 2 * g.monitorRoom + (rest.map fun v => v.category).sum ≤ W9) (hdg : decode c.code g.pc = .ok (.invokestatic index, 3))
    (hpre : ∀ vm₁, s.WarmedH vm₁ → Pre ⟨T.setVm vm₁, locs, cells, slots⟩ argsL.toArray) :
    (∃ (v : Option Value) (vm₁ : Vm) (B : Pt), s.WarmedH vm₁ ∧ Stand p l e R s m args below meth c B.U B.locs B.cells B.slots ∧ Post ⟨T.setVm vm₁, locs, cells, slots⟩ argsL.toArray v B ∧
      ∀ target, Steps p.tables e below (B.U.setTop { g with pc := g.pc + 3, stack := v.toList ++ rest }) target → Steps p.tables e below (T.setTop g) target) ∨
    (∃ (q : Addr) (vm₁ : Vm) (B : Pt), s.WarmedH vm₁ ∧ Stand p l e R s m args below meth c B.U B.locs B.cells B.slots ∧ PostX ⟨T.setVm vm₁, locs, cells, slots⟩ argsL.toArray q B ∧
      Steps p.tables e below (T.setTop g) ((B.U.setTop { g with stack := rest }).pushFrame (.throwing q))) := by
  obtain ⟨mk, hnamed⟩ := Cond.code_named hcode
  obtain ⟨methM, cM, hmethM, -, -, -, -, -, -, hsigM⟩ := Cond.code_spec hnamed hcode
  have hstatic : methM.isStatic = true := Cond.static_spec hnamed hmethM hstat
  obtain ⟨kP, hkP, -⟩ := className_of_methodNamed hnamed
  have hinitP : kP.init = .initialized := Cond.initialized_spec (findClass_of_methodNamed hnamed) hkP hinit
  obtain ⟨vm₁, X₁, hstep₁⟩ := X.invokestatic hexec hown hlink hnamed hmethM hstatic hkP hinitP hy (g := g) hg (argsL := argsL) (rest := rest) (hlen _ hsigM) hstack hdg
  rcases hK m meth c ⟨T.setVm vm₁, locs, cells, slots⟩ { g with stack := rest } (.invokestatic index) mk argsL.toArray X₁ hg hsize hdg hW (X₁.named hnamed) (hpre vm₁ X₁.warmed) with ⟨v, B, X', hpost, hsteps⟩ | ⟨q, B, X', hpost, hsteps⟩
  · exact Or.inl ⟨v, vm₁, B, X₁.warmed, X', hpost, fun target h => hstep₁ _ fun acts => by rw [doInvoke_state]; exact hsteps.trans h⟩
  · exact Or.inr ⟨q, vm₁, B, X₁.warmed, X', hpost, hstep₁ _ fun acts => by rw [doInvoke_state]; exact hsteps⟩
end Calls
theorem vx_cls {s : State} {T : State} {vm₁ : Vm} {E : String} {k : ClassId} (hW : s.WarmedH vm₁) (h : (T.setVm vm₁).vm.findClass E = some k) : s.vm.findClass E = some k := by
  have h1 : vm₁.findClass E = some k := h
  rw [hW.alike.findClass] at h1
  exact h1
/-- the method's frame g, with q thrown over it -/
def vx_W (p : Program) (l : Launch) (e : Env) (R : Room) (s : State) (m : MethodId) (args : Array Value) (below : List Frame) (meth : Method) (c : Code) (H : Heap) (locs : List Loc) (cells slots : Nat) (Q : State → Prop) (g : JFrame) (q : Addr) : Prop :=
  ∀ T : State, T.heap = H → Stand p l e R s m args below meth c T locs cells slots → ∃ t, Steps p.tables e below ((T.setTop g).pushFrame (.throwing q)) t ∧ Q t
def vx_Run (p : Program) (l : Launch) (e : Env) (R : Room) (s : State) (m : MethodId) (args : Array Value) (below : List Frame) (meth : Method) (c : Code) (H : Heap) (locs : List Loc) (cells slots mc ms : Nat) (g : JFrame) (rest : List Value) (Qa : State → Outcome → State → Prop) (XC : String → State → State → Prop) (free : Addr → Prop) : Prop :=
  ∀ T : State, T.heap = H → Stand p l e R s m args below meth c T locs cells slots →
    (∃ (v : Option Value) (st₀ t T' : State) (L : List Loc), st₀.heap = H ∧ Stand p l e R s m args below meth c T' (locs ++ L) (cells + mc) (slots + ms) ∧ (∀ q ∈ L, free q.base) ∧ T'.heap = t.heap ∧ T'.vm = t.vm ∧ Qa st₀ (.returned v) t ∧
      Goes p e below T g T' { g with pc := g.pc + 3, stack := v.toList ++ rest }) ∨
    (∃ (q : Addr) (st₀ t T' : State) (L : List Loc) (E : String) (ce : Cell), st₀.heap = H ∧ Stand p l e R s m args below meth c T' (locs ++ L) (cells + mc) (slots + ms) ∧ (∀ z ∈ L, free z.base) ∧ T'.heap = t.heap ∧ T'.vm = t.vm ∧ XC E st₀ t ∧ t.heap[q]? = some ce ∧ ce.vm = .none ∧ s.vm.findClass E = some ce.cls ∧
      Steps p.tables e below (T.setTop g) ((T'.setTop { g with stack := rest }).pushFrame (.throwing q)))
def vx_X {S : Type} (px : S → Prop) (B : String → S → State → Prop) (A : Nat → Prop) : String → State → State → Prop := fun E st t => ∃ u : S, px u ∧ B E u t ∧ va_F A st t
section Runs
variable {p : Program} {l : Launch} {e : Env} {R : Room} {s : State} {m : MethodId} {args : Array Value} {below : List Frame} {meth : Method} {c : Code} {H : Heap} {locs : List Loc} {cells slots : Nat}
variable {y : MethodName} {bytes cc : ByteArray} {maxL nL mc ms n index : Nat} {ret : Option FieldType} {ws : List Cond} {rm : Room} {Pc : Array Value → State → Prop} {Qc : Array Value → State → Outcome → State → Prop} {XC : String → State → State → Prop} {free : Addr → Prop} {Ts : List Cond} {own C : String} {b : Addr} {As rest : List Value} {g : JFrame}
theorem vx_callBack (cb : CallB R s args own index y bytes maxL ret ws rm mc ms n) (hM : vx_Met l y ws rm Pc Qc XC mc ms free) (hbl : FrameBlind Pc) : vx_Back l R p e below s args y 3 8 (PreOf R mc ms Pc) (PostOf Qc mc ms free) (vx_Post XC mc ms free) := by
  obtain ⟨hrc, hrs, hfr, hlo, hws, hcw, -, hini, -⟩ := cb
  exact vx_back (bytes := bytes) (maxL := maxL) (ret := ret) hM hbl hrc hrs hfr hlo hws hcw (fun a' U hW => word_at hW (Or.inl (by first | rfl | simp [Cond.onTables, Cond.keeps, Cond.steady])) hini)
theorem vx_runV (S : CallFix p m c cc nL s args Ts own) (hM : vx_Met l y ws rm Pc Qc XC mc ms free) (cw : CallW R s args own C index y bytes maxL ret ws rm mc ms n) (hp : PreV s H C b Pc As)
    (hg : g.method = m) (hn : As.length = n) (hsize : g.locals.size = nL) (hstack : g.stack = As.reverse ++ .ref b :: rest) (hW : 2 * g.monitorRoom + (rest.map fun v => v.category).sum ≤ 8) (hdg : decode cc g.pc = .ok (.invokevirtual index, 3)) (hf : cells + mc ≤ R.cells ∧ slots + ms ≤ R.slots) :
    vx_Run p l e R s m args below meth c H locs cells slots mc ms g rest (Qc (Value.ref b :: As).toArray) XC free := by
  have hK : vx_Back l R p e below s args y 3 8 (PreOf R mc ms Pc) (PostOf Qc mc ms free) (vx_Post XC mc ms free) := vx_callBack cw.1 hM hp.1
  obtain ⟨⟨-, -, -, -, -, -, hcode, -, hy, hlen, hl⟩, hin, hse⟩ := cw
  obtain ⟨hx, hb, hml, ho, -⟩ := S
  obtain ⟨-, ⟨cellB, hcB, hoB, hclB⟩, hPc⟩ := hp
  intro T hT X
  rcases vx_callV X hx (C := C) (bytes := bytes) (maxL := maxL) (ret := ret) ho hl hin hse hcode hy hK (by rw [hT]; exact hcB) hoB hclB hg (hsize.trans hml.symm) (argsL := As) (rest := rest) (fun sig h => hn.trans (hlen sig h)) hstack hW (by rw [hb]; exact hdg)
    (fun vm₁ hW₁ => ⟨hf.1, hf.2, hPc (T.setVm vm₁) hT hW₁⟩) with ⟨v, vm₁, ⟨U', l2, c2, s2⟩, hW₁, X', ⟨g', mk, t, L, e1, e2, hq, h1, hL, h2, h3⟩, st⟩ | ⟨q, vm₁, ⟨U', l2, c2, s2⟩, hW₁, X', ⟨g', mk, t, L, E, ce, e1, e2, hq, hce, hcv, hcl, h1, hL, h2, h3⟩, st⟩
  · dsimp only [Pt.U, Pt.locs, Pt.cells, Pt.slots] at X' e1 e2 h1 h2 h3 st
    subst h1; subst h2; subst h3
    exact Or.inl ⟨v, (T.setVm vm₁).calling g' mk (Value.ref b :: As).toArray, t, U', L, hT, X', hL, e1, e2, hq, st⟩
  · dsimp only [Pt.U, Pt.locs, Pt.cells, Pt.slots] at X' e1 e2 h1 h2 h3 st hcl
    subst h1; subst h2; subst h3
    exact Or.inr ⟨q, (T.setVm vm₁).calling g' mk (Value.ref b :: As).toArray, t, U', L, E, ce, hT, X', hL, e1, e2, hq, hce, hcv, vx_cls hW₁ hcl, st⟩
theorem vx_runS (S : CallFix p m c cc nL s args Ts own) (hM : vx_Met l y ws rm Pc Qc XC mc ms free) (cw : CallB R s args own index y bytes maxL ret ws rm mc ms n ∧ (Cond.static y).before args s = true) (hp : PreS s H Pc As)
    (hg : g.method = m) (hn : As.length = n) (hsize : g.locals.size = nL) (hstack : g.stack = As.reverse ++ rest) (hW : 2 * g.monitorRoom + (rest.map fun v => v.category).sum ≤ 8) (hdg : decode cc g.pc = .ok (.invokestatic index, 3)) (hf : cells + mc ≤ R.cells ∧ slots + ms ≤ R.slots) :
    vx_Run p l e R s m args below meth c H locs cells slots mc ms g rest (Qc As.toArray) XC free := by
  have hK : vx_Back l R p e below s args y 3 8 (PreOf R mc ms Pc) (PostOf Qc mc ms free) (vx_Post XC mc ms free) := vx_callBack cw.1 hM hp.1
  obtain ⟨⟨-, -, -, -, -, -, hcode, hini, hy, hlen, hl⟩, hstt⟩ := cw
  obtain ⟨hx, hb, hml, ho, -⟩ := S
  intro T hT X
  rcases vx_callS X hx (bytes := bytes) (maxL := maxL) (ret := ret) ho hl hstt hini hcode hy hK hg (hsize.trans hml.symm) (argsL := As) (rest := rest) (fun sig h => hn.trans (hlen sig h)) hstack hW (by rw [hb]; exact hdg)
    (fun vm₁ hW₁ => ⟨hf.1, hf.2, hp.2 (T.setVm vm₁) hT hW₁⟩) with ⟨v, vm₁, ⟨U', l2, c2, s2⟩, hW₁, X', ⟨g', mk, t, L, e1, e2, hq, h1, hL, h2, h3⟩, st⟩ | ⟨q, vm₁, ⟨U', l2, c2, s2⟩, hW₁, X', ⟨g', mk, t, L, E, ce, e1, e2, hq, hce, hcv, hcl, h1, hL, h2, h3⟩, st⟩
  · dsimp only [Pt.U, Pt.locs, Pt.cells, Pt.slots] at X' e1 e2 h1 h2 h3 st
    subst h1; subst h2; subst h3
    exact Or.inl ⟨v, (T.setVm vm₁).calling g' mk As.toArray, t, U', L, hT, X', hL, e1, e2, hq, st⟩
  · dsimp only [Pt.U, Pt.locs, Pt.cells, Pt.slots] at X' e1 e2 h1 h2 h3 st hcl
    subst h1; subst h2; subst h3
    exact Or.inr ⟨q, (T.setVm vm₁).calling g' mk As.toArray, t, U', L, E, ce, hT, X', hL, e1, e2, hq, hce, hcv, vx_cls hW₁ hcl, st⟩
end Runs
section Rows
variable {p : Program} {l : Launch} {e : Env} {R : Room} {s : State} {m : MethodId} {args : Array Value} {below : List Frame} {meth : Method} {c : Code} {H : Heap} {locs : List Loc} {cells slots : Nat} {Q : State → Prop}
variable {mc ms : Nat} {free : Addr → Prop} {A0 A1 : Nat → Prop} {H0 : Heap} {a : Array Value} {pc : Nat} {ls : Array Slot} {st0 rest : List Value}
theorem vx_keep {st₀ t T' : State} {L : List Loc} (h0 : st₀.heap = H) (e1 : T'.heap = t.heap) (hS : va_S A0 H0 H locs) (hA : ∀ q, q < H.size → A1 q → A0 q) (hf : ∀ q, free q → A0 q) (hL : ∀ q ∈ L, free q.base) (hF : va_F A1 st₀ t) :
    H.size ≤ T'.heap.size ∧ (∀ q : Nat, q < H.size → ¬ A1 q → T'.heap[q]? = H[q]?) ∧ va_S A0 H0 T'.heap (locs ++ L) := by
  obtain ⟨hz, hk⟩ := hF
  rw [h0] at hz hk
  exact ⟨by rw [e1]; exact hz, fun q h1 h2 => by rw [e1]; exact hk q h1 h2,
    ⟨Nat.le_trans hS.1 (by rw [e1]; exact hz), fun q h1 h2 => by rw [e1, hk q (Nat.lt_of_lt_of_le h1 hS.1) (fun z => h2 (hA q (Nat.lt_of_lt_of_le h1 hS.1) z))]; exact hS.2.1 q h1 h2, fun q hq => by
      rcases List.mem_append.mp hq with h | h
      · exact hS.2.2 q h
      · exact hf _ (hL q h)⟩⟩
theorem vx_calli {S SX : Type} {post : Int32 → S → Prop} {px : SX → Prop} {B : S → State → Prop} {BX : String → SX → State → Prop} {AX : Nat → Prop} (hr : vx_Run p l e R s m args below meth c H locs cells slots mc ms (F0 m pc ls st0) rest (va_Qi post B A1 a) (vx_X px BX AX) free) (hS : va_S A0 H0 H locs) (hA : ∀ q, q < H.size → A1 q → A0 q) (hf : ∀ q, free q → A0 q) (hAX : ∀ q, q < H.size → AX q → A0 q)
    (kx : ∀ (E : String) (ce : Cell) (q9 : Addr) (u : SX) (t : State) (H1 : Heap) (locs1 : List Loc), t.heap = H1 → s.vm.Alike t.vm → px u → BX E u t → H.size ≤ H1.size → (∀ q : Nat, q < H.size → ¬ AX q → H1[q]? = H[q]?) → va_S A0 H0 H1 locs1 → H1[q9]? = some ce → ce.vm = .none → s.vm.findClass E = some ce.cls → vx_W p l e R s m args below meth c H1 locs1 (cells + mc) (slots + ms) Q (F0 m pc ls rest) q9)
    (kk : ∀ (r : Int32) (u : S) (t : State) (H1 : Heap) (locs1 : List Loc), t.heap = H1 → s.vm.Alike t.vm → post r u → B u t → H.size ≤ H1.size → (∀ q : Nat, q < H.size → ¬ A1 q → H1[q]? = H[q]?) → va_S A0 H0 H1 locs1 → W p l e R s m args below meth c H1 locs1 (cells + mc) (slots + ms) Q (F0 m (pc + 3) ls (.int r :: rest))) : W p l e R s m args below meth c H locs cells slots Q (F0 m pc ls st0) := by
  intro T hT X
  rcases hr T hT X with ⟨v, st₀, t, T', L, h0, X', hL, e1, e2, ⟨⟨r, u, hv, hp, hb⟩, hF⟩, st⟩ | ⟨q, st₀, t, T', L, E, ce, h0, X', hL, e1, e2, ⟨u, hp, hb, hF⟩, hce, hcv, hcl, st⟩
  · cases hv
    obtain ⟨k1, k2, k3⟩ := vx_keep h0 e1 hS hA hf hL hF
    obtain ⟨t2, a1, b1⟩ := kk r u t T'.heap (locs ++ L) e1.symm (by rw [← e2]; exact X'.warmed.alike) hp hb k1 k2 k3 T' rfl X'
    exact ⟨t2, st t2 a1, b1⟩
  · obtain ⟨k1, k2, k3⟩ := vx_keep h0 e1 hS hAX hf hL hF
    obtain ⟨t2, a1, b1⟩ := kx E ce q u t T'.heap (locs ++ L) e1.symm (by rw [← e2]; exact X'.warmed.alike) hp hb k1 k2 k3 (by rw [e1]; exact hce) hcv hcl T' rfl X'
    exact ⟨t2, st.trans a1, b1⟩
theorem vx_calll {S SX : Type} {post : Int64 → S → Prop} {px : SX → Prop} {B : S → State → Prop} {BX : String → SX → State → Prop} {AX : Nat → Prop} (hr : vx_Run p l e R s m args below meth c H locs cells slots mc ms (F0 m pc ls st0) rest (va_Ql post B A1 a) (vx_X px BX AX) free) (hS : va_S A0 H0 H locs) (hA : ∀ q, q < H.size → A1 q → A0 q) (hf : ∀ q, free q → A0 q) (hAX : ∀ q, q < H.size → AX q → A0 q)
    (kx : ∀ (E : String) (ce : Cell) (q9 : Addr) (u : SX) (t : State) (H1 : Heap) (locs1 : List Loc), t.heap = H1 → s.vm.Alike t.vm → px u → BX E u t → H.size ≤ H1.size → (∀ q : Nat, q < H.size → ¬ AX q → H1[q]? = H[q]?) → va_S A0 H0 H1 locs1 → H1[q9]? = some ce → ce.vm = .none → s.vm.findClass E = some ce.cls → vx_W p l e R s m args below meth c H1 locs1 (cells + mc) (slots + ms) Q (F0 m pc ls rest) q9)
    (kk : ∀ (r : Int64) (u : S) (t : State) (H1 : Heap) (locs1 : List Loc), t.heap = H1 → s.vm.Alike t.vm → post r u → B u t → H.size ≤ H1.size → (∀ q : Nat, q < H.size → ¬ A1 q → H1[q]? = H[q]?) → va_S A0 H0 H1 locs1 → W p l e R s m args below meth c H1 locs1 (cells + mc) (slots + ms) Q (F0 m (pc + 3) ls (.long r :: rest))) : W p l e R s m args below meth c H locs cells slots Q (F0 m pc ls st0) := by
  intro T hT X
  rcases hr T hT X with ⟨v, st₀, t, T', L, h0, X', hL, e1, e2, ⟨⟨r, u, hv, hp, hb⟩, hF⟩, st⟩ | ⟨q, st₀, t, T', L, E, ce, h0, X', hL, e1, e2, ⟨u, hp, hb, hF⟩, hce, hcv, hcl, st⟩
  · cases hv
    obtain ⟨k1, k2, k3⟩ := vx_keep h0 e1 hS hA hf hL hF
    obtain ⟨t2, a1, b1⟩ := kk r u t T'.heap (locs ++ L) e1.symm (by rw [← e2]; exact X'.warmed.alike) hp hb k1 k2 k3 T' rfl X'
    exact ⟨t2, st t2 a1, b1⟩
  · obtain ⟨k1, k2, k3⟩ := vx_keep h0 e1 hS hAX hf hL hF
    obtain ⟨t2, a1, b1⟩ := kx E ce q u t T'.heap (locs ++ L) e1.symm (by rw [← e2]; exact X'.warmed.alike) hp hb k1 k2 k3 (by rw [e1]; exact hce) hcv hcl T' rfl X'
    exact ⟨t2, st.trans a1, b1⟩
theorem vx_callf {S SX : Type} {post : UInt32 → S → Prop} {px : SX → Prop} {B : S → State → Prop} {BX : String → SX → State → Prop} {AX : Nat → Prop} (hr : vx_Run p l e R s m args below meth c H locs cells slots mc ms (F0 m pc ls st0) rest (va_Qf post B A1 a) (vx_X px BX AX) free) (hS : va_S A0 H0 H locs) (hA : ∀ q, q < H.size → A1 q → A0 q) (hf : ∀ q, free q → A0 q) (hAX : ∀ q, q < H.size → AX q → A0 q)
    (kx : ∀ (E : String) (ce : Cell) (q9 : Addr) (u : SX) (t : State) (H1 : Heap) (locs1 : List Loc), t.heap = H1 → s.vm.Alike t.vm → px u → BX E u t → H.size ≤ H1.size → (∀ q : Nat, q < H.size → ¬ AX q → H1[q]? = H[q]?) → va_S A0 H0 H1 locs1 → H1[q9]? = some ce → ce.vm = .none → s.vm.findClass E = some ce.cls → vx_W p l e R s m args below meth c H1 locs1 (cells + mc) (slots + ms) Q (F0 m pc ls rest) q9)
    (kk : ∀ (r : UInt32) (u : S) (t : State) (H1 : Heap) (locs1 : List Loc), t.heap = H1 → s.vm.Alike t.vm → post r u → B u t → H.size ≤ H1.size → (∀ q : Nat, q < H.size → ¬ A1 q → H1[q]? = H[q]?) → va_S A0 H0 H1 locs1 → W p l e R s m args below meth c H1 locs1 (cells + mc) (slots + ms) Q (F0 m (pc + 3) ls (.float r :: rest))) : W p l e R s m args below meth c H locs cells slots Q (F0 m pc ls st0) := by
  intro T hT X
  rcases hr T hT X with ⟨v, st₀, t, T', L, h0, X', hL, e1, e2, ⟨⟨r, u, hv, hp, hb⟩, hF⟩, st⟩ | ⟨q, st₀, t, T', L, E, ce, h0, X', hL, e1, e2, ⟨u, hp, hb, hF⟩, hce, hcv, hcl, st⟩
  · cases hv
    obtain ⟨k1, k2, k3⟩ := vx_keep h0 e1 hS hA hf hL hF
    obtain ⟨t2, a1, b1⟩ := kk r u t T'.heap (locs ++ L) e1.symm (by rw [← e2]; exact X'.warmed.alike) hp hb k1 k2 k3 T' rfl X'
    exact ⟨t2, st t2 a1, b1⟩
  · obtain ⟨k1, k2, k3⟩ := vx_keep h0 e1 hS hAX hf hL hF
    obtain ⟨t2, a1, b1⟩ := kx E ce q u t T'.heap (locs ++ L) e1.symm (by rw [← e2]; exact X'.warmed.alike) hp hb k1 k2 k3 (by rw [e1]; exact hce) hcv hcl T' rfl X'
    exact ⟨t2, st.trans a1, b1⟩
theorem vx_calld {S SX : Type} {post : UInt64 → S → Prop} {px : SX → Prop} {B : S → State → Prop} {BX : String → SX → State → Prop} {AX : Nat → Prop} (hr : vx_Run p l e R s m args below meth c H locs cells slots mc ms (F0 m pc ls st0) rest (va_Qd post B A1 a) (vx_X px BX AX) free) (hS : va_S A0 H0 H locs) (hA : ∀ q, q < H.size → A1 q → A0 q) (hf : ∀ q, free q → A0 q) (hAX : ∀ q, q < H.size → AX q → A0 q)
    (kx : ∀ (E : String) (ce : Cell) (q9 : Addr) (u : SX) (t : State) (H1 : Heap) (locs1 : List Loc), t.heap = H1 → s.vm.Alike t.vm → px u → BX E u t → H.size ≤ H1.size → (∀ q : Nat, q < H.size → ¬ AX q → H1[q]? = H[q]?) → va_S A0 H0 H1 locs1 → H1[q9]? = some ce → ce.vm = .none → s.vm.findClass E = some ce.cls → vx_W p l e R s m args below meth c H1 locs1 (cells + mc) (slots + ms) Q (F0 m pc ls rest) q9)
    (kk : ∀ (r : UInt64) (u : S) (t : State) (H1 : Heap) (locs1 : List Loc), t.heap = H1 → s.vm.Alike t.vm → post r u → B u t → H.size ≤ H1.size → (∀ q : Nat, q < H.size → ¬ A1 q → H1[q]? = H[q]?) → va_S A0 H0 H1 locs1 → W p l e R s m args below meth c H1 locs1 (cells + mc) (slots + ms) Q (F0 m (pc + 3) ls (.double r :: rest))) : W p l e R s m args below meth c H locs cells slots Q (F0 m pc ls st0) := by
  intro T hT X
  rcases hr T hT X with ⟨v, st₀, t, T', L, h0, X', hL, e1, e2, ⟨⟨r, u, hv, hp, hb⟩, hF⟩, st⟩ | ⟨q, st₀, t, T', L, E, ce, h0, X', hL, e1, e2, ⟨u, hp, hb, hF⟩, hce, hcv, hcl, st⟩
  · cases hv
    obtain ⟨k1, k2, k3⟩ := vx_keep h0 e1 hS hA hf hL hF
    obtain ⟨t2, a1, b1⟩ := kk r u t T'.heap (locs ++ L) e1.symm (by rw [← e2]; exact X'.warmed.alike) hp hb k1 k2 k3 T' rfl X'
    exact ⟨t2, st t2 a1, b1⟩
  · obtain ⟨k1, k2, k3⟩ := vx_keep h0 e1 hS hAX hf hL hF
    obtain ⟨t2, a1, b1⟩ := kx E ce q u t T'.heap (locs ++ L) e1.symm (by rw [← e2]; exact X'.warmed.alike) hp hb k1 k2 k3 (by rw [e1]; exact hce) hcv hcl T' rfl X'
    exact ⟨t2, st.trans a1, b1⟩
theorem vx_callv {S SX : Type} {post : S → Prop} {px : SX → Prop} {B : S → State → Prop} {BX : String → SX → State → Prop} {AX : Nat → Prop} (hr : vx_Run p l e R s m args below meth c H locs cells slots mc ms (F0 m pc ls st0) rest (va_Qv post B A1 a) (vx_X px BX AX) free) (hS : va_S A0 H0 H locs) (hA : ∀ q, q < H.size → A1 q → A0 q) (hf : ∀ q, free q → A0 q) (hAX : ∀ q, q < H.size → AX q → A0 q)
    (kx : ∀ (E : String) (ce : Cell) (q9 : Addr) (u : SX) (t : State) (H1 : Heap) (locs1 : List Loc), t.heap = H1 → s.vm.Alike t.vm → px u → BX E u t → H.size ≤ H1.size → (∀ q : Nat, q < H.size → ¬ AX q → H1[q]? = H[q]?) → va_S A0 H0 H1 locs1 → H1[q9]? = some ce → ce.vm = .none → s.vm.findClass E = some ce.cls → vx_W p l e R s m args below meth c H1 locs1 (cells + mc) (slots + ms) Q (F0 m pc ls rest) q9)
    (kk : ∀ (u : S) (t : State) (H1 : Heap) (locs1 : List Loc), t.heap = H1 → s.vm.Alike t.vm → post u → B u t → H.size ≤ H1.size → (∀ q : Nat, q < H.size → ¬ A1 q → H1[q]? = H[q]?) → va_S A0 H0 H1 locs1 → W p l e R s m args below meth c H1 locs1 (cells + mc) (slots + ms) Q (F0 m (pc + 3) ls (rest))) : W p l e R s m args below meth c H locs cells slots Q (F0 m pc ls st0) := by
  intro T hT X
  rcases hr T hT X with ⟨v, st₀, t, T', L, h0, X', hL, e1, e2, ⟨⟨u, hv, hp, hb⟩, hF⟩, st⟩ | ⟨q, st₀, t, T', L, E, ce, h0, X', hL, e1, e2, ⟨u, hp, hb, hF⟩, hce, hcv, hcl, st⟩
  · cases hv
    obtain ⟨k1, k2, k3⟩ := vx_keep h0 e1 hS hA hf hL hF
    obtain ⟨t2, a1, b1⟩ := kk u t T'.heap (locs ++ L) e1.symm (by rw [← e2]; exact X'.warmed.alike) hp hb k1 k2 k3 T' rfl X'
    exact ⟨t2, st t2 a1, b1⟩
  · obtain ⟨k1, k2, k3⟩ := vx_keep h0 e1 hS hAX hf hL hF
    obtain ⟨t2, a1, b1⟩ := kx E ce q u t T'.heap (locs ++ L) e1.symm (by rw [← e2]; exact X'.warmed.alike) hp hb k1 k2 k3 (by rw [e1]; exact hce) hcv hcl T' rfl X'
    exact ⟨t2, st.trans a1, b1⟩
/-- caught by the row x of this method's table; the rows ahead don't take it -/
theorem vx_catch {own name : String} {E : String} {ce : Cell} {q : Addr} (hown : s.vm.findClass own = some m.cls) (pre : List ExceptionTableEntry) (x : ExceptionTableEntry) (suf : List ExceptionTableEntry) (hsplit : c.exceptionTable.toList = pre ++ x :: suf)
    (hpass : ∀ z ∈ pre, covers z pc = false ∨ (z.catchType ≠ 0 ∧ ∃ nm : String, (Cond.classLink own z.catchType nm).before args s = true ∧ va_Nc E nm s)) (hx : covers x pc = true) (h0 : x.catchType ≠ 0)
    (hlink : (Cond.classLink own x.catchType name).before args s = true) (hcast : (Cond.castable E name).before args s = true) (hcell : H[q]? = some ce) (hv : ce.vm = .none) (hcl : s.vm.findClass E = some ce.cls)
    (kk : W p l e R s m args below meth c H locs cells slots Q (F0 m x.handlerPc ls [.ref q])) : vx_W p l e R s m args below meth c H locs cells slots Q (F0 m pc ls rest) q := by
  intro T hT X
  have hpl : e.platform.magicAccessors = ({} : Platform).magicAccessors := by rw [X.admits.platform]
  obtain ⟨c3, c4, hc3, hc4, hasg⟩ := Cond.castable_spec hcast
  cases Option.some.inj (hc3.symm.trans hcl)
  obtain ⟨c5, hc5, hcl5⟩ := Cond.classLink_spec hown hlink e.platform hpl
  cases Option.some.inj (hc4.symm.trans hc5)
  obtain ⟨vm', X', st⟩ := X.thenCaughtThrough q (g := F0 m pc ls rest) rfl (Steps.refl _) (by rw [hT]; exact hcell) (by rw [hv]; rfl) (by obtain ⟨k9, h9, -⟩ := Vm.findClass_spec hcl; exact ⟨k9, h9⟩) pre x suf hsplit
    (fun z hz => by
      rcases hpass z hz with h | ⟨hz0, nm, hl1, hn1⟩
      · exact Or.inl h
      · obtain ⟨c6, hc6, hcl6⟩ := Cond.classLink_spec hown hl1 e.platform hpl
        obtain ⟨a8, b8, h1, h2, h3⟩ := hn1
        cases Option.some.inj (h1.symm.trans hcl)
        cases Option.some.inj (h2.symm.trans hc6)
        exact Or.inr ⟨hz0, _, hcl6, h3⟩) hx (Or.inr ⟨h0, c4, hcl5, hasg⟩)
  obtain ⟨t, a1, b1⟩ := kk (T.setVm vm') hT X'
  exact ⟨t, st.trans a1, b1⟩
end Rows
section Ends
variable {p : Program} {l : Launch} {e : Env} {R : Room} {s : State} {m : MethodId} {args : Array Value} {below : List Frame} {meth : Method} {c : Code} {H : Heap} {locs : List Loc} {cells slots : Nat} {Q : State → Prop}
variable {mc ms : Nat} {free : Addr → Prop} {A0 A1 : Nat → Prop} {H0 : Heap} {a : Array Value} {ls : Array Slot} {st0 rest : List Value}
variable {Qc : Array Value → State → Outcome → State → Prop} {XC : String → State → State → Prop}
/-- what a body that may throw owes at its end -/
def vx_MQ (below : List Frame) (Qc : Array Value → State → Outcome → State → Prop) (XC : String → State → State → Prop) (a : Array Value) (s : State) (mc ms : Nat) (free : Addr → Prop) : State → Prop := fun t =>
  ∃ o, t.status = .running ∧ Ended t below o ∧ vx_Q Qc XC mc ms free a s o t
theorem vx_ret {g : JFrame} {mc ms : Nat} (k : W p l e R s m args below meth c H locs cells slots (MQ below Qc args s mc ms free) g) : W p l e R s m args below meth c H locs cells slots (vx_MQ below Qc XC args s mc ms free) g := by
  intro T hT X
  obtain ⟨t, a1, o, b1, b2, b3, b4⟩ := k T hT X
  exact ⟨t, a1, o, b1, b2, Or.inl ⟨b3, b4⟩⟩
/-- not caught here: it goes on to the caller -/
theorem vx_widen {g : JFrame} {q : Addr} {k n : Nat} (h1 : cells ≤ k) (h2 : slots ≤ n) (kk : vx_W p l e R s m args below meth c H locs k n Q g q) : vx_W p l e R s m args below meth c H locs cells slots Q g q := fun T hT X => kk T hT (stand_widen X h1 h2)
theorem vx_out {pc : Nat} {E : String} {ce : Cell} {q : Addr} {mc ms : Nat} (hout : ∀ x ∈ c.exceptionTable.toList, covers x pc = false) (hlocks : meth.locks = false) (hcell : H[q]? = some ce) (hv : ce.vm = .none) (hcl : s.vm.findClass E = some ce.cls)
    (hx : ∀ t : State, t.heap = H → s.vm.Alike t.vm → XC E s t) (hf : ∀ z ∈ locs, free z.base) (hc : cells ≤ mc) (hs : slots ≤ ms) :
    vx_W p l e R s m args below meth c H locs cells slots (vx_MQ below Qc XC args s mc ms free) (F0 m pc ls rest) q := by
  intro T hT X
  obtain ⟨st1, hrun, hend, hW, hsm⟩ := X.leaveThrown q (g := F0 m pc ls rest) rfl rfl rfl hout hlocks
  have hcell9 : (T.setFrames (.throwing q :: below)).heap[q]? = some ce := by
    show T.heap[q]? = some ce
    rw [hT]; exact hcell
  exact ⟨_, st1, .threw q, hrun, hend, Or.inr ⟨q, rfl, E, ce, locs, hx _ hT hW.alike, hcell9, hv, hcl, hW, hsm.mono hc hs, hf⟩⟩
theorem vx_frame {U : State} {k n : Nat} (h : s.sameButNew ({ U with vm := s.vm } : State) locs k n) : s.heap.size ≤ U.heap.size ∧ ∀ q : Nat, q < s.heap.size → (∀ z ∈ locs, z.base ≠ q) → U.heap[q]? = s.heap[q]? := by
  obtain ⟨-, h2, -, -, -, h6⟩ := h
  refine ⟨h2, fun q hq hz => ?_⟩
  obtain ⟨c9, e1, e2, e3, e4⟩ := h6 q _ (Array.getElem?_eq_getElem hq)
  have hs : c9.slots = (s.heap[q]).slots := Array.ext_getElem? fun i => e4 i fun hm => hz _ hm rfl
  have h9 : c9 = s.heap[q] := by
    rw [hs] at e2
    exact e2
  have e5 : U.heap[q]? = some c9 := e1
  rw [e5, h9, Array.getElem?_eq_getElem hq]
/-- the words of a throw but the four that speak of the heap -/
def vx_no (w : Cond) : Bool := decide (w ≠ .isRef (.static Bundle.tN "UNASSIGNED_STACK" Bundle.steD)) && decide (w ≠ .isRef (.static Bundle.tN "SUPPRESSED_SENTINEL" Bundle.listD)) && decide (w ≠ .laysStatic Bundle.tN "UNASSIGNED_STACK" Bundle.steD) && decide (w ≠ .laysStatic Bundle.tN "SUPPRESSED_SENTINEL" Bundle.listD)
def vx_at0 (own : String) (ic : Nat) (X : String) (names : List String) : List Cond := (Bundle.ownAtoms0 own ic X names).filter vx_no
def vx_atS (own : String) (ic : Nat) (X : String) (names : List String) : List Cond := (Bundle.ownAtoms own ic X names).filter vx_no
/-- a word that the tables alone decide, or a good one -/
def vx_ot (w : Cond) : Bool := w.onTables || goodWord w
theorem vx_ot_at {args a' : Array Value} {s U : State} {w : Cond} (hW : s.WarmedH U.vm) (hvm : s.vm = U.vm) (hg : vx_ot w = true) (h : w.before args s = true) : w.before a' U = true := by
  simp only [vx_ot, Bool.or_eq_true] at hg
  rcases hg with hg | hg
  · exact va_tabs hg hvm h
  · exact word_at hW (good_of_word hg) h
/-- a list's words: the good ones out of the method's own list, the others by premises of their own -/
theorem vx_hat {args : Array Value} {s : State} {L B : List Cond} (h1 : ∀ w ∈ L.filter goodWord, w.before args s = true) (h2 : ∀ w ∈ L.filter (fun w => !goodWord w), w ∈ B) (h3 : ∀ w ∈ B, w.before args s = true) : ∀ w ∈ L, w.before args s = true := by
  intro w hw
  by_cases g : goodWord w = true
  · exact h1 w (List.mem_filter.mpr ⟨hw, g⟩)
  · refine h3 w (h2 w (List.mem_filter.mpr ⟨hw, ?_⟩))
    show (!goodWord w) = true
    cases hgw : goodWord w
    · rfl
    · exact absurd hgw g
theorem vx_c {args : Array Value} {s : State} {w : Cond} {B : List Cond} (h : w.before args s = true) (t : ∀ w ∈ B, w.before args s = true) : ∀ w' ∈ w :: B, w'.before args s = true := fun w' h' => (List.mem_cons.mp h').elim (fun e => by rw [e]; exact h) (t w')
theorem vx_n {args : Array Value} {s : State} : ∀ w ∈ ([] : List Cond), w.before args s = true := fun _ h => nomatch h
theorem vx_own {args : Array Value} {s : State} {L : List Cond} (h1 : ∀ w ∈ L.filter vx_no, w.before args s = true)
    (hU : (Cond.isRef (.static Bundle.tN "UNASSIGNED_STACK" Bundle.steD)).before args s = true) (hN : (Cond.isRef (.static Bundle.tN "SUPPRESSED_SENTINEL" Bundle.listD)).before args s = true)
    (lU : (Cond.laysStatic Bundle.tN "UNASSIGNED_STACK" Bundle.steD).before args s = true) (lN : (Cond.laysStatic Bundle.tN "SUPPRESSED_SENTINEL" Bundle.listD).before args s = true) : ∀ w ∈ L, w.before args s = true := by
  intro w hw
  by_cases e1 : w = .isRef (.static Bundle.tN "UNASSIGNED_STACK" Bundle.steD)
  · rw [e1]; exact hU
  · by_cases e2 : w = .isRef (.static Bundle.tN "SUPPRESSED_SENTINEL" Bundle.listD)
    · rw [e2]; exact hN
    · by_cases e3 : w = .laysStatic Bundle.tN "UNASSIGNED_STACK" Bundle.steD
      · rw [e3]; exact lU
      · by_cases e4 : w = .laysStatic Bundle.tN "SUPPRESSED_SENTINEL" Bundle.listD
        · rw [e4]; exact lN
        · exact h1 w (List.mem_filter.mpr ⟨hw, by unfold vx_no; rw [decide_eq_true e1, decide_eq_true e2, decide_eq_true e3, decide_eq_true e4]; rfl⟩)
/-- where a static field lies, its class's statics cell in H -/
def vx_L (C n d : String) (A : Nat → Prop) (U : State) (H : Heap) : Prop := ∃ (c : ClassId) (k : Class) (i : Nat) (f : Field) (a : Nat) (cell : Cell), U.vm.findClass C = some c ∧ U.fieldFound? C n d = some (c, k, i, f) ∧ f.isStatic = true ∧ k.statics = some a ∧ H[a]? = some cell ∧ cell.vm.isStatics = true ∧ cell.cls = c ∧ f.slot < cell.slots.size ∧ k.staticTypes[f.slot]? = some f.type ∧ ¬ A a
theorem vx_L.moved {C n d : String} {A : Nat → Prop} {u U : State} {H : Heap} (hvm : u.vm.Alike U.vm) (h : vx_L C n d A u H) : vx_L C n d A U H := by
  obtain ⟨c, k, i, f, a, cell, h1, h2, h3, h4, h5, h6, h7, h8, h9, h10⟩ := h
  obtain ⟨k', hi', he⟩ := State.fieldFound?_setVm hvm h2
  exact ⟨c, k', i, f, a, cell, by rw [hvm.findClass]; exact h1, hi', h3, by rw [he]; exact h4, h5, h6, h7, h8, by rw [he]; exact h9, h10⟩
theorem vx_L.kept {C n d : String} {A : Nat → Prop} {U : State} {H H1 : Heap} (h : vx_L C n d A U H) (hq : ∀ a : Nat, a < H.size → ¬ A a → H1[a]? = H[a]?) : vx_L C n d A U H1 := by
  obtain ⟨c, k, i, f, a, cell, h1, h2, h3, h4, h5, h6, h7, h8, h9, h10⟩ := h
  exact ⟨c, k, i, f, a, cell, h1, h2, h3, h4, by rw [hq a (Array.getElem?_eq_some_iff.mp h5).1 h10]; exact h5, h6, h7, h8, h9, h10⟩
theorem vx_L.narrow {C n d : String} {A B : Nat → Prop} {U : State} {H : Heap} (h : vx_L C n d A U H) (hAB : ∀ q, B q → A q) : vx_L C n d B U H := by
  obtain ⟨c, k, i, f, a, cell, h1, h2, h3, h4, h5, h6, h7, h8, h9, h10⟩ := h
  exact ⟨c, k, i, f, a, cell, h1, h2, h3, h4, h5, h6, h7, h8, h9, fun z => h10 (hAB _ z)⟩
theorem vx_L.word {C n d : String} {A : Nat → Prop} {s : State} {args : Array Value} (h : vx_L C n d A s s.heap) : (Cond.laysStatic C n d).before args s = true := by
  obtain ⟨c, k, i, f, a, cell, h1, h2, h3, h4, h5, h6, h7, h8, h9, -⟩ := h
  show (Cond.laysStatic C n d).holds args s none s [] = true
  exact Cond.laysStatic_of h1 h2 h3 h4 h5 h6 h7 h8 h9
/-- .. and what it holds: null or some reference -/
def vx_Zq (C n d : String) (A : Nat → Prop) (U : State) (H : Heap) : Prop := va_Zq C n d A U H ∧ vx_L C n d A U H
theorem vx_Zq.moved {C n d : String} {A : Nat → Prop} {u U : State} {H : Heap} (hvm : u.vm.Alike U.vm) (h : vx_Zq C n d A u H) : vx_Zq C n d A U H := ⟨va_Zq.moved hvm h.1, vx_L.moved hvm h.2⟩
theorem vx_Zq.kept {C n d : String} {A : Nat → Prop} {U : State} {H H1 : Heap} (h : vx_Zq C n d A U H) (hq : ∀ a : Nat, a < H.size → ¬ A a → H1[a]? = H[a]?) : vx_Zq C n d A U H1 := ⟨va_Zq.kept h.1 hq, vx_L.kept h.2 hq⟩
theorem vx_Zq.narrow {C n d : String} {A B : Nat → Prop} {U : State} {H : Heap} (h : vx_Zq C n d A U H) (hAB : ∀ q, B q → A q) : vx_Zq C n d B U H := ⟨va_Zq.narrow h.1 hAB, vx_L.narrow h.2 hAB⟩
theorem vx_Zqof {args : Array Value} {s : State} {C n d : String} {A : Nat → Prop} (hl : (Cond.laysStatic C n d).before args s = true) (hini : (Cond.initialized C).before args s = true) (h : (Cond.isRef (.static C n d)).before args s = true) (hA : ∀ a : Nat, a < s.heap.size → ¬ A a) : vx_Zq C n d A s s.heap := by
  refine ⟨va_Zqof hl hini h hA, ?_⟩
  obtain ⟨c, k, i, f, a, cell, h1, h2, h3, h4, h5, h6, h7, h8, h9⟩ := Cond.laysStatic_spec hl
  exact ⟨c, k, i, f, a, cell, h1, h2, h3, h4, h5, h6, h7, h8, h9, hA a (Array.getElem?_eq_some_iff.mp h5).1⟩
theorem vx_isRef {C n d : String} {v : Value} {A : Nat → Prop} {s : State} {args : Array Value} (h : va_Z C n d v A s s.heap) (hv : v.isRef = true) : (Cond.isRef (.static C n d)).before args s = true := by
  obtain ⟨cf, kf, fi, f, a, cell, h1, h2, h3, h4, h5, h6, h7, -⟩ := h
  have he : (Term.static C n d).eval args s none [] s = some v := by
    simp [Term.eval, State.fieldNamed?, h1, h2, h4, h5, h6, h7]
  simp only [Cond.before, Cond.holds, Cond.value, he]
  cases v <;> simp_all [Value.isRef]
theorem vx_isRefq {C n d : String} {A : Nat → Prop} {s : State} {args : Array Value} (h : va_Zq C n d A s s.heap) : (Cond.isRef (.static C n d)).before args s = true := by
  rcases h with h | ⟨t, h⟩
  · exact vx_isRef h rfl
  · exact vx_isRef h rfl
/-- the same frame, seen from here: as if the method were called anew in this heap -/
theorem vx_rebase {T : State} (X : Stand p l e R s m args below meth c T locs cells slots) {R' : Room} (hf : R'.frames ≤ R.frames) (hl : R'.locals ≤ R.locals) (hc : cells + R'.cells ≤ R.cells) (hs : slots + R'.slots ≤ R.slots) :
    Stand p l e R' ((T.setVm s.vm).setFrames (.invoking m args :: below)) m args below meth c T [] 0 0 := by
  have htop : (T.setVm s.vm).topJava?.isSome := X.here.top
  have hF : ((T.setVm s.vm).setFrames (.invoking m args :: below)).frames = .invoking m args :: below := State.frames_setFrames _ (State.cur_lt_of_top htop)
  obtain ⟨g₀, hg0⟩ := Option.isSome_iff_exists.mp htop
  obtain ⟨r, hr⟩ := State.topJava?_eq_some.mp hg0
  have hl9 : e.platform.stackLimits (T.setVm s.vm).me = e.platform.stackLimits s.me := X.limits
  have hb9 : (T.setVm s.vm).me.stackBytes = s.me.stackBytes := X.bytes
  refine ⟨X.admits, X.cas, X.clock, hF, ?_, X.hears, X.method, X.code, X.here, X.tail, X.warmed, ?_, ?_, ?_⟩
  · have h := X.room
    have hU : ((T.setVm s.vm).setFrames (.invoking m args :: below)).localsInUse = s.localsInUse := by
      rw [State.localsInUse_invoking hF (meth := meth) (c := c) X.method X.code, State.localsInUse_invoking X.frames X.method X.code]
    simp only [State.hasRoom, Bool.and_eq_true, decide_eq_true_eq] at h ⊢
    obtain ⟨⟨⟨⟨h1, h2, h3, h4, h5, h6⟩, h7⟩, h8⟩, h9⟩ := h
    rw [X.frames, List.length_cons] at h2 h3
    have q1 := X.heapSize
    have q2 := X.used
    simp only [hF, hU, List.length_cons, State.stackLimits_setFrames, State.stackBytes_setFrames, hl9, hb9]
    refine ⟨⟨⟨⟨by omega, by omega, by omega, by omega, by omega, h6⟩, ?_⟩, ?_⟩, X.book⟩
    · show T.heap.size + R'.cells ≤ e.platform.maxCells
      omega
    · show T.slotsUsed + R'.slots ≤ e.platform.maxSlots
      omega
  · rw [State.stackLimits_setFrames]; rfl
  · rw [State.stackBytes_setFrames]; rfl
  · refine ⟨?_, Nat.le_refl _, Nat.le_refl _, ?_, ?_, fun a c9 h9 => ⟨c9, h9, rfl, rfl, fun _ _ => rfl⟩⟩
    · obtain ⟨t, ht, -⟩ := State.frames_cons hr
      show T.setVm s.vm = { ((T.setVm s.vm).setFrames (.invoking m args :: below)).setFrames (T.setVm s.vm).frames with heap := T.heap, slotsUsed := T.slotsUsed }
      rw [State.setFrames_setFrames, State.setFrames_self ht]
      rfl
    · show T.slotsUsed = T.slotsUsed + ((T.heap.toList.drop T.heap.size).map (·.slots.size)).sum
      rw [List.drop_eq_nil_of_le (Nat.le_of_eq Array.length_toList)]
      rfl
    · show ((T.heap.toList.drop T.heap.size).map (·.slots.size)).sum ≤ 0
      rw [List.drop_eq_nil_of_le (Nat.le_of_eq Array.length_toList)]
      exact Nat.le_refl _
/-- 'throw new E()': new; dup; invokespecial; athrow -/
theorem vx_throw0 {cc : ByteArray} {pc : Nat} (hexec : p.tables.exec = Jvm.exec) (hb : c.code = cc) (hl : l.stackTraces = false) {own cls : String} {names : List String} {ik ic mc ms : Nat} {A : Nat → Prop}
    (hown : s.vm.findClass own = some m.cls) (hcls : Bundle.fit cls = true) (hnames : ∀ n ∈ names, Bundle.fit n = true)
    (hk : (Cond.classLink own ik cls).before args s = true) (hini : (Cond.initialized cls).before args s = true) (hat : ∀ w ∈ vx_at0 own ic cls names, w.before args s = true)
    (hgood : ∀ w ∈ Cond.classLink own ik cls :: Cond.initialized cls :: vx_at0 own ic cls names, vx_ot w = true)
    (hU : vx_Zq Bundle.tN "UNASSIGNED_STACK" Bundle.steD A s s.heap) (hN : vx_Zq Bundle.tN "SUPPRESSED_SENTINEL" Bundle.listD A s s.heap) (hS : va_S A s.heap H locs) (hsize : ls.size = c.maxLocals)
    (d0 : decode cc pc = .ok (.new ik, 3)) (d3 : decode cc (pc + 3) = .ok (.dup, 1)) (d4 : decode cc (pc + 4) = .ok (.invokespecial ic, 3)) (d7 : decode cc (pc + 7) = .ok (.athrow, 1))
    (hout : ∀ x ∈ c.exceptionTable.toList, covers x (pc + 7) = false)
    (hRframes : names.length + 3 < R.frames) (hRlocals : (rest.map fun v => v.category).sum + (13 * (names.length + 1) + 42) ≤ R.locals) (hRcells : cells + 1 ≤ R.cells) (hRslots : slots + 6 ≤ R.slots) (hlocks : meth.locks = false)
    (hx : ∀ t : State, s.vm.Alike t.vm → H.size ≤ t.heap.size → (∀ q : Nat, q < H.size → t.heap[q]? = H[q]?) → XC cls s t)
    (hf : ∀ z ∈ locs, free z.base) (hc : cells + 1 ≤ mc) (hs : slots + 6 ≤ ms) :
    W p l e R s m args below meth c H locs cells slots (vx_MQ below Qc XC args s mc ms free) (F0 m pc ls rest) := by
  intro T hT X
  have htr : e.platform.stackTraces = false := (show e.platform.stackTraces = l.stackTraces by rw [X.admits.platform]).trans hl
  have Y := vx_rebase X (R' := { frames := R.frames, locals := R.locals, cells := 1, slots := 6 }) (Nat.le_refl _) (Nat.le_refl _) hRcells hRslots
  obtain ⟨s', hA⟩ : ∃ z, z = (T.setVm s.vm).setFrames (.invoking m args :: below) := ⟨_, rfl⟩
  rw [← hA] at Y
  have hvm : s'.vm = s.vm := by rw [hA]; rfl
  have hhp : s'.heap = H := by rw [hA]; exact hT
  have hW0 : s.WarmedH s'.vm := by rw [hvm]; exact State.WarmedH.refl s
  have hat' : ∀ w ∈ vx_at0 own ic cls names, w.before args s' = true := fun w hw => vx_ot_at hW0 hvm.symm (hgood w (List.mem_cons_of_mem _ (List.mem_cons_of_mem _ hw))) (hat w hw)
  have hk' : (Cond.classLink own ik cls).before args s' = true := vx_ot_at hW0 hvm.symm (hgood _ List.mem_cons_self) hk
  have hini' : (Cond.initialized cls).before args s' = true := vx_ot_at hW0 hvm.symm (hgood _ (List.mem_cons_of_mem _ List.mem_cons_self)) hini
  have hU' : vx_Zq Bundle.tN "UNASSIGNED_STACK" Bundle.steD A s' s'.heap := by rw [hhp]; exact vx_Zq.moved hW0.alike (hU.kept hS.2.1)
  have hN' : vx_Zq Bundle.tN "SUPPRESSED_SENTINEL" Bundle.listD A s' s'.heap := by rw [hhp]; exact vx_Zq.moved hW0.alike (hN.kept hS.2.1)
  have h : ∀ w ∈ Bundle.ownAtoms0 own ic cls names, w.before args s' = true := vx_own hat' (vx_isRefq hU'.1) (vx_isRefq hN'.1) hU'.2.word hN'.2.word
  have hown' : s'.vm.findClass own = some m.cls := by rw [hvm]; exact hown
  have hins : (Cond.instantiable cls 6).before args s' = true := h _ (by simp [Bundle.ownAtoms0])
  obtain ⟨vm₁, cX, kX, hfX, hkX, -, -, X₁, st1⟩ := Y.newCold hexec (own := own) (C := cls) (index := ik) (n := 6) hown' hk' hins hini'
    (g := F0 m pc ls rest) rfl (by rw [hb]; exact d0) (Nat.le_refl _) (Nat.le_refl _)
  generalize hT1 : (T.setVm vm₁).pushCell { cls := cX, slots := kX.instanceTypes.map defaultValue, vm := .none } = T1 at X₁ st1
  have hcat : (Value.ref T.heap.size).category = 1 := rfl
  have hcellA : T1.heap[T.heap.size]? = some (freshCell cX kX) := by rw [← hT1]; exact State.heap_pushCell_size _ _
  have d3' : decode c.code (pc + 3) = .ok (.dup, 1) := by rw [hb]; exact d3
  obtain ⟨U, hsteps, hrun, hend, hW, hsame, ce, hce, hO⟩ := X₁.ctorThrow0 hexec htr (own := own) (cls := cls) (names := names) (ic := ic) hown' hcls hnames h (fun x hx => nomatch hx) hfX hkX hcellA (by rw [hhp, hT]; exact Nat.le_refl _)
    (g := { method := m, pc := pc + 4, locals := ls, stack := .ref T.heap.size :: .ref T.heap.size :: rest, locked := none }) rfl hsize rfl rfl (rest := rest) rfl
    (by rw [hb]; exact d4) (by rw [hb]; exact d7) hout hRframes (by simp only [List.map_cons, List.sum_cons, hcat]; omega) hlocks
  obtain ⟨f1, f2⟩ := vx_frame hsame
  rw [hhp] at f1 f2
  have hWs : s.WarmedH U.vm := State.WarmedH.trans hW0 hW
  have hcl : s.vm.findClass cls = some ce.cls := by
    have h9 := hO.cls
    rw [hvm] at h9
    exact h9
  have hall : s.sameButNew ({ U with vm := s.vm } : State) locs mc ms := by
    subst hA
    obtain ⟨e1, e2⟩ := hsame
    rw [State.setFrames_setFrames] at e1
    have h2 : (T.setVm s.vm).sameButNew ({ U with vm := s.vm } : State) [] (0 + 1) (0 + 6) := ⟨e1, e2⟩
    have h3 := X.same.trans h2
    rw [List.append_nil] at h3
    exact h3.mono hc hs
  refine ⟨U, ?_, .threw T.heap.size, hrun, hend, Or.inr ⟨T.heap.size, rfl, cls, ce, locs, hx U hWs.alike f1 (fun q hq => f2 q hq (fun z hz => nomatch hz)), hce, hO.vm, hcl, hWs, hall, hf⟩⟩
  refine st1 _ ?_
  show Steps p.tables e below (T1.setTop { method := m, pc := pc + 3, locals := ls, stack := .ref T.heap.size :: rest, locked := none }) _
  jvm_step X₁.here [X₁.here.top, hexec, d3', Value.category]
  exact hsteps
/-- 'throw new E("text")': new; dup; ldc; invokespecial; athrow -/
theorem vx_throwS {cc : ByteArray} {pc : Nat} (hexec : p.tables.exec = Jvm.exec) (hb : c.code = cc) (hl : l.stackTraces = false) {own cls text : String} {names : List String} {ik is ic mc ms sa : Nat} {A : Nat → Prop}
    (hown : s.vm.findClass own = some m.cls) (hcls : Bundle.fit cls = true) (hnames : ∀ n ∈ names, Bundle.fit n = true)
    (hk : (Cond.classLink own ik cls).before args s = true) (hini : (Cond.initialized cls).before args s = true) (hstr : vk_R own is text sa s) (hat : ∀ w ∈ vx_atS own ic cls names, w.before args s = true)
    (hgood : ∀ w ∈ Cond.classLink own ik cls :: Cond.initialized cls :: vx_atS own ic cls names, vx_ot w = true)
    (hU : vx_Zq Bundle.tN "UNASSIGNED_STACK" Bundle.steD A s s.heap) (hN : vx_Zq Bundle.tN "SUPPRESSED_SENTINEL" Bundle.listD A s s.heap) (hS : va_S A s.heap H locs) (hsize : ls.size = c.maxLocals)
    (d0 : decode cc pc = .ok (.new ik, 3)) (d3 : decode cc (pc + 3) = .ok (.dup, 1)) (d4 : decode cc (pc + 4) = .ok (.ldc is, 2)) (d6 : decode cc (pc + 6) = .ok (.invokespecial ic, 3)) (d9 : decode cc (pc + 9) = .ok (.athrow, 1))
    (hout : ∀ x ∈ c.exceptionTable.toList, covers x (pc + 9) = false)
    (hRframes : names.length + 3 < R.frames) (hRlocals : (rest.map fun v => v.category).sum + (13 * (names.length + 1) + 43) ≤ R.locals) (hRcells : cells + 1 ≤ R.cells) (hRslots : slots + 6 ≤ R.slots) (hlocks : meth.locks = false)
    (hx : ∀ t : State, s.vm.Alike t.vm → H.size ≤ t.heap.size → (∀ q : Nat, q < H.size → t.heap[q]? = H[q]?) → XC cls s t)
    (hf : ∀ z ∈ locs, free z.base) (hc : cells + 1 ≤ mc) (hs : slots + 6 ≤ ms) :
    W p l e R s m args below meth c H locs cells slots (vx_MQ below Qc XC args s mc ms free) (F0 m pc ls rest) := by
  intro T hT X
  have htr : e.platform.stackTraces = false := (show e.platform.stackTraces = l.stackTraces by rw [X.admits.platform]).trans hl
  have Y := vx_rebase X (R' := { frames := R.frames, locals := R.locals, cells := 1, slots := 6 }) (Nat.le_refl _) (Nat.le_refl _) hRcells hRslots
  obtain ⟨s', hA⟩ : ∃ z, z = (T.setVm s.vm).setFrames (.invoking m args :: below) := ⟨_, rfl⟩
  rw [← hA] at Y
  have hvm : s'.vm = s.vm := by rw [hA]; rfl
  have hhp : s'.heap = H := by rw [hA]; exact hT
  have hW0 : s.WarmedH s'.vm := by rw [hvm]; exact State.WarmedH.refl s
  have hat' : ∀ w ∈ vx_atS own ic cls names, w.before args s' = true := fun w hw => vx_ot_at hW0 hvm.symm (hgood w (List.mem_cons_of_mem _ (List.mem_cons_of_mem _ hw))) (hat w hw)
  have hk' : (Cond.classLink own ik cls).before args s' = true := vx_ot_at hW0 hvm.symm (hgood _ List.mem_cons_self) hk
  have hini' : (Cond.initialized cls).before args s' = true := vx_ot_at hW0 hvm.symm (hgood _ (List.mem_cons_of_mem _ List.mem_cons_self)) hini
  have hU' : vx_Zq Bundle.tN "UNASSIGNED_STACK" Bundle.steD A s' s'.heap := by rw [hhp]; exact vx_Zq.moved hW0.alike (hU.kept hS.2.1)
  have hN' : vx_Zq Bundle.tN "SUPPRESSED_SENTINEL" Bundle.listD A s' s'.heap := by rw [hhp]; exact vx_Zq.moved hW0.alike (hN.kept hS.2.1)
  have h : ∀ w ∈ Bundle.ownAtoms own ic cls names, w.before args s' = true := vx_own hat' (vx_isRefq hU'.1) (vx_isRefq hN'.1) hU'.2.word hN'.2.word
  have hown' : s'.vm.findClass own = some m.cls := by rw [hvm]; exact hown
  have hins : (Cond.instantiable cls 6).before args s' = true := h _ (by simp [Bundle.ownAtoms])
  obtain ⟨vm₁, cX, kX, hfX, hkX, -, -, X₁, st1⟩ := Y.newCold hexec (own := own) (C := cls) (index := ik) (n := 6) hown' hk' hins hini'
    (g := F0 m pc ls rest) rfl (by rw [hb]; exact d0) (Nat.le_refl _) (Nat.le_refl _)
  generalize hT1 : (T.setVm vm₁).pushCell { cls := cX, slots := kX.instanceTypes.map defaultValue, vm := .none } = T1 at X₁ st1
  have hcat : (Value.ref T.heap.size).category = 1 := rfl
  have hcellA : T1.heap[T.heap.size]? = some (freshCell cX kX) := by rw [← hT1]; exact State.heap_pushCell_size _ _
  have d3' : decode c.code (pc + 3) = .ok (.dup, 1) := by rw [hb]; exact d3
  have d4' : decode c.code (pc + 4) = .ok (.ldc is, 2) := by rw [hb]; exact d4
  have hstr' : vk_R own is text sa s' := vk_R.warm hW0 hstr
  obtain ⟨U, hsteps, hrun, hend, hW, hsame, ce, hce, hO⟩ := X₁.ctorThrowS hexec htr (own := own) (cls := cls) (names := names) (ic := ic) hown' hcls hnames h (fun x hx => nomatch hx) hfX hkX hcellA (by rw [hhp, hT]; exact Nat.le_refl _) (msg := .ref sa) rfl
    (g := { method := m, pc := pc + 6, locals := ls, stack := .ref sa :: .ref T.heap.size :: .ref T.heap.size :: rest, locked := none }) rfl hsize rfl rfl (rest := rest) rfl
    (by rw [hb]; exact d6) (by rw [hb]; exact d9) hout hRframes (by simp only [List.map_cons, List.sum_cons, hcat]; omega) hlocks
  obtain ⟨f1, f2⟩ := vx_frame hsame
  rw [hhp] at f1 f2
  have hWs : s.WarmedH U.vm := State.WarmedH.trans hW0 hW
  have hcl : s.vm.findClass cls = some ce.cls := by
    have h9 := hO.cls
    rw [hvm] at h9
    exact h9
  have hall : s.sameButNew ({ U with vm := s.vm } : State) locs mc ms := by
    subst hA
    obtain ⟨e1, e2⟩ := hsame
    rw [State.setFrames_setFrames] at e1
    have h2 : (T.setVm s.vm).sameButNew ({ U with vm := s.vm } : State) [] (0 + 1) (0 + 6) := ⟨e1, e2⟩
    have h3 := X.same.trans h2
    rw [List.append_nil] at h3
    exact h3.mono hc hs
  refine ⟨U, ?_, .threw T.heap.size, hrun, hend, Or.inr ⟨T.heap.size, rfl, cls, ce, locs, hx U hWs.alike f1 (fun q hq => f2 q hq (fun z hz => nomatch hz)), hce, hO.vm, hcl, hWs, hall, hf⟩⟩
  refine st1 _ ?_
  show Steps p.tables e below (T1.setTop { method := m, pc := pc + 3, locals := ls, stack := .ref T.heap.size :: rest, locked := none }) _
  jvm_step X₁.here [X₁.here.top, hexec, d3', Value.category]
  exact X₁.ldcString hexec (own := own) (text := text) (index := is) (a := sa) hown' hstr'.1 hstr'.2
    (g := { method := m, pc := pc + 4, locals := ls, stack := .ref T.heap.size :: .ref T.heap.size :: rest, locked := none }) rfl d4' _ hsteps
/-- 'throw new E("text")', the text by a wide index -/
theorem vx_throwSW {cc : ByteArray} {pc : Nat} (hexec : p.tables.exec = Jvm.exec) (hb : c.code = cc) (hl : l.stackTraces = false) {own cls text : String} {names : List String} {ik is ic mc ms sa : Nat} {A : Nat → Prop}
    (hown : s.vm.findClass own = some m.cls) (hcls : Bundle.fit cls = true) (hnames : ∀ n ∈ names, Bundle.fit n = true)
    (hk : (Cond.classLink own ik cls).before args s = true) (hini : (Cond.initialized cls).before args s = true) (hstr : vk_R own is text sa s) (hat : ∀ w ∈ vx_atS own ic cls names, w.before args s = true)
    (hgood : ∀ w ∈ Cond.classLink own ik cls :: Cond.initialized cls :: vx_atS own ic cls names, vx_ot w = true)
    (hU : vx_Zq Bundle.tN "UNASSIGNED_STACK" Bundle.steD A s s.heap) (hN : vx_Zq Bundle.tN "SUPPRESSED_SENTINEL" Bundle.listD A s s.heap) (hS : va_S A s.heap H locs) (hsize : ls.size = c.maxLocals)
    (d0 : decode cc pc = .ok (.new ik, 3)) (d3 : decode cc (pc + 3) = .ok (.dup, 1)) (d4 : decode cc (pc + 4) = .ok (.ldc_w is, 3)) (d7 : decode cc (pc + 7) = .ok (.invokespecial ic, 3)) (d10 : decode cc (pc + 10) = .ok (.athrow, 1))
    (hout : ∀ x ∈ c.exceptionTable.toList, covers x (pc + 10) = false)
    (hRframes : names.length + 3 < R.frames) (hRlocals : (rest.map fun v => v.category).sum + (13 * (names.length + 1) + 43) ≤ R.locals) (hRcells : cells + 1 ≤ R.cells) (hRslots : slots + 6 ≤ R.slots) (hlocks : meth.locks = false)
    (hx : ∀ t : State, s.vm.Alike t.vm → H.size ≤ t.heap.size → (∀ q : Nat, q < H.size → t.heap[q]? = H[q]?) → XC cls s t)
    (hf : ∀ z ∈ locs, free z.base) (hc : cells + 1 ≤ mc) (hs : slots + 6 ≤ ms) :
    W p l e R s m args below meth c H locs cells slots (vx_MQ below Qc XC args s mc ms free) (F0 m pc ls rest) := by
  intro T hT X
  have htr : e.platform.stackTraces = false := (show e.platform.stackTraces = l.stackTraces by rw [X.admits.platform]).trans hl
  have Y := vx_rebase X (R' := { frames := R.frames, locals := R.locals, cells := 1, slots := 6 }) (Nat.le_refl _) (Nat.le_refl _) hRcells hRslots
  obtain ⟨s', hA⟩ : ∃ z, z = (T.setVm s.vm).setFrames (.invoking m args :: below) := ⟨_, rfl⟩
  rw [← hA] at Y
  have hvm : s'.vm = s.vm := by rw [hA]; rfl
  have hhp : s'.heap = H := by rw [hA]; exact hT
  have hW0 : s.WarmedH s'.vm := by rw [hvm]; exact State.WarmedH.refl s
  have hat' : ∀ w ∈ vx_atS own ic cls names, w.before args s' = true := fun w hw => vx_ot_at hW0 hvm.symm (hgood w (List.mem_cons_of_mem _ (List.mem_cons_of_mem _ hw))) (hat w hw)
  have hk' : (Cond.classLink own ik cls).before args s' = true := vx_ot_at hW0 hvm.symm (hgood _ List.mem_cons_self) hk
  have hini' : (Cond.initialized cls).before args s' = true := vx_ot_at hW0 hvm.symm (hgood _ (List.mem_cons_of_mem _ List.mem_cons_self)) hini
  have hU' : vx_Zq Bundle.tN "UNASSIGNED_STACK" Bundle.steD A s' s'.heap := by rw [hhp]; exact vx_Zq.moved hW0.alike (hU.kept hS.2.1)
  have hN' : vx_Zq Bundle.tN "SUPPRESSED_SENTINEL" Bundle.listD A s' s'.heap := by rw [hhp]; exact vx_Zq.moved hW0.alike (hN.kept hS.2.1)
  have h : ∀ w ∈ Bundle.ownAtoms own ic cls names, w.before args s' = true := vx_own hat' (vx_isRefq hU'.1) (vx_isRefq hN'.1) hU'.2.word hN'.2.word
  have hown' : s'.vm.findClass own = some m.cls := by rw [hvm]; exact hown
  have hins : (Cond.instantiable cls 6).before args s' = true := h _ (by simp [Bundle.ownAtoms])
  obtain ⟨vm₁, cX, kX, hfX, hkX, -, -, X₁, st1⟩ := Y.newCold hexec (own := own) (C := cls) (index := ik) (n := 6) hown' hk' hins hini'
    (g := F0 m pc ls rest) rfl (by rw [hb]; exact d0) (Nat.le_refl _) (Nat.le_refl _)
  generalize hT1 : (T.setVm vm₁).pushCell { cls := cX, slots := kX.instanceTypes.map defaultValue, vm := .none } = T1 at X₁ st1
  have hcat : (Value.ref T.heap.size).category = 1 := rfl
  have hcellA : T1.heap[T.heap.size]? = some (freshCell cX kX) := by rw [← hT1]; exact State.heap_pushCell_size _ _
  have d3' : decode c.code (pc + 3) = .ok (.dup, 1) := by rw [hb]; exact d3
  have d4' : decode c.code (pc + 4) = .ok (.ldc_w is, 3) := by rw [hb]; exact d4
  have hstr' : vk_R own is text sa s' := vk_R.warm hW0 hstr
  obtain ⟨U, hsteps, hrun, hend, hW, hsame, ce, hce, hO⟩ := X₁.ctorThrowS hexec htr (own := own) (cls := cls) (names := names) (ic := ic) hown' hcls hnames h (fun x hx => nomatch hx) hfX hkX hcellA (by rw [hhp, hT]; exact Nat.le_refl _) (msg := .ref sa) rfl
    (g := { method := m, pc := pc + 7, locals := ls, stack := .ref sa :: .ref T.heap.size :: .ref T.heap.size :: rest, locked := none }) rfl hsize rfl rfl (rest := rest) rfl
    (by rw [hb]; exact d7) (by rw [hb]; exact d10) hout hRframes (by simp only [List.map_cons, List.sum_cons, hcat]; omega) hlocks
  obtain ⟨f1, f2⟩ := vx_frame hsame
  rw [hhp] at f1 f2
  have hWs : s.WarmedH U.vm := State.WarmedH.trans hW0 hW
  have hcl : s.vm.findClass cls = some ce.cls := by
    have h9 := hO.cls
    rw [hvm] at h9
    exact h9
  have hall : s.sameButNew ({ U with vm := s.vm } : State) locs mc ms := by
    subst hA
    obtain ⟨e1, e2⟩ := hsame
    rw [State.setFrames_setFrames] at e1
    have h2 : (T.setVm s.vm).sameButNew ({ U with vm := s.vm } : State) [] (0 + 1) (0 + 6) := ⟨e1, e2⟩
    have h3 := X.same.trans h2
    rw [List.append_nil] at h3
    exact h3.mono hc hs
  refine ⟨U, ?_, .threw T.heap.size, hrun, hend, Or.inr ⟨T.heap.size, rfl, cls, ce, locs, hx U hWs.alike f1 (fun q hq => f2 q hq (fun z hz => nomatch hz)), hce, hO.vm, hcl, hWs, hall, hf⟩⟩
  refine st1 _ ?_
  show Steps p.tables e below (T1.setTop { method := m, pc := pc + 3, locals := ls, stack := .ref T.heap.size :: rest, locked := none }) _
  jvm_step X₁.here [X₁.here.top, hexec, d3', Value.category]
  exact X₁.ldcStringW hexec (own := own) (text := text) (index := is) (a := sa) hown' hstr'.1 hstr'.2
    (g := { method := m, pc := pc + 4, locals := ls, stack := .ref T.heap.size :: .ref T.heap.size :: rest, locked := none }) rfl d4' _ hsteps
end Ends
section Bodies
variable {l : Launch}
theorem vx_ofW {y : MethodName} {ws ws' : List Cond} {rm : Room} {Pc : Array Value → State → Prop} {Qc : Array Value → State → Outcome → State → Prop} {XC : String → State → State → Prop} {mc ms : Nat} {free : Addr → Prop} {cc : ByteArray} {maxL : Nat} {ret : Option FieldType}
    (hy : plainName y.cls = true) (hw : ws = Cond.code y cc maxL ret :: ws')
    (body : ∀ p e s m args below meth c s₁, BodyLoose p l y (headSpec ws rm) cc maxL ret e s m args below meth c s₁ → c.maxLocals = maxL → (∀ x ∈ c.exceptionTable.toList, False) → Pc args s →
      W p l e (headSpec ws rm).room s m args below meth c s.heap [] 0 0 (vx_MQ below Qc XC args s mc ms free) (entryFrame m args maxL)) : vx_Met l y ws rm Pc Qc XC mc ms free := by
  refine MetFree.of_bodyS (code := cc) (maxLocals := maxL) (ret := ret) hy ?_ ?_
  · intro args s m h hn
    obtain ⟨meth, c, h1, h2, h3, h4, h5, h6, -, -⟩ := Cond.code_spec hn (atoms_spec (ws := ws) h _ (by rw [hw]; exact List.mem_cons_self))
    exact ⟨meth, c, h1, h2, h3, h4, h5, h6⟩
  · intro p e s m args below meth c s₁ B hml hP _
    have hh0 : s₁.heap = s.heap := by rw [B.state]; rfl
    have ht : ∀ x ∈ c.exceptionTable.toList, False := by
      obtain ⟨meth9, c9, h1, h2, -, -, -, -, h7, -⟩ := Cond.code_spec B.named (atoms_spec (ws := ws) B.pre _ (by rw [hw]; exact List.mem_cons_self))
      cases Option.some.inj (h1.symm.trans B.method)
      cases Option.some.inj (h2.symm.trans (Stand.of_body B).code)
      intro x hx
      rw [Array.isEmpty_iff.mp h7] at hx
      cases hx
    obtain ⟨t, a1, o, b1, b2, b3⟩ := body p e s m args below meth c s₁ B hml ht hP s₁ hh0 (Stand.of_body B)
    exact ⟨t, o, a1, b1, b2, b3⟩
/-- the table of a body with handlers -/
theorem vx_table {p : Program} {x y : MethodName} {S : Spec} {cc bytes : ByteArray} {maxL maxL' : Nat} {ret ret' : Option FieldType} {e : Env} {s s₁ : State} {m : MethodId} {args : Array Value} {below : List Frame} {meth : Method} {c : Code} {hh : List (Nat × Nat × Nat × Nat)}
    (B : BodyLoose p l y S cc maxL ret e s m args below meth c s₁) (h : (Cond.codeWith y bytes maxL' ret' hh).before args s = true) : c.exceptionTable.toList = tableOf hh := by
  obtain ⟨m9, meth9, c9, hn9, h1, h2, -, -, h6, -⟩ := Cond.codeWith_spec h
  cases Option.some.inj (hn9.symm.trans B.named)
  cases Option.some.inj (h1.symm.trans B.method)
  cases Option.some.inj (h2.symm.trans (Stand.of_body B).code)
  rw [← h6, table_eq]
end Bodies
end VXA
/-! ===== END ===== -/
/-! ===== BEGIN a static call of a method with an exception table ===== -/
section VXS
variable {p : Program} {l : Launch} {e : Env} {R : Room} {s : State} {m : MethodId} {args : Array Value} {below : List Frame} {meth : Method} {c : Code} {T : State} {H : Heap} {locs : List Loc} {cells slots : Nat}
abbrev vx_CSW (R : Room) (s : State) (args : Array Value) (own : String) (index : Nat) (y : MethodName) (bytes : ByteArray) (maxL : Nat) (ret : Option FieldType) (hh : List (Nat × Nat × Nat × Nat)) (ws : List Cond) (rm : Room) (mc ms n : Nat) : Prop :=
  (rm.cells = mc ∧ rm.slots = ms ∧ rm.frames + 1 ≤ R.frames ∧ 8 + (maxL + 11) + rm.locals ≤ R.locals ∧ (∀ w ∈ ws, ∀ (a' : Array Value) (U : State), s.WarmedH U.vm → w.before a' U = true) ∧ Cond.codeWith y bytes maxL ret hh ∈ ws) ∧
  (Cond.codeWith y bytes maxL ret hh).before args s = true ∧ (Cond.initialized y.cls).before args s = true ∧ (y.cls ≠ "java/lang/invoke/MethodHandle" ∧ y.cls ≠ "java/lang/invoke/VarHandle") ∧
  (∀ sig, parseMethodDescriptor y.desc = some sig → n = sig.parameters.length) ∧ (Cond.methodLink own index y).before args s = true ∧ (Cond.static y).before args s = true
theorem vx_cwSW {own : String} {index maxL mc ms : Nat} {y : MethodName} {bytes : ByteArray} {ret : Option FieldType} {hh : List (Nat × Nat × Nat × Nat)} {Ts ws ws' : List Cond} {rm : Room} (n : Nat) (ht : ∀ w ∈ Ts, w.before args s = true) (hT : GoodIn Ts (va_wsS own index y ws)) (hw : ws = Cond.codeWith y bytes maxL ret hh :: ws') (hrc : rm.cells = mc) (hrs : rm.slots = ms)
    (hd : y.cls ≠ "java/lang/invoke/MethodHandle" ∧ y.cls ≠ "java/lang/invoke/VarHandle" ∧ (parseMethodDescriptor y.desc).map (fun d => d.parameters.length) = some n) (hR : rm.frames + 1 ≤ R.frames ∧ 8 + (maxL + 11) + rm.locals ≤ R.locals) :
    vx_CSW R s args own index y bytes maxL ret hh ws rm mc ms n := by
  have ok : ∀ w ∈ va_wsS own index y ws, w.before args s = true := fun w h => ht w (hT w h).1
  have hG : GoodIn Ts ws := fun w h => hT w (by unfold va_wsS; exact List.mem_append_right _ h)
  have hc : Cond.codeWith y bytes maxL ret hh ∈ ws := by rw [hw]; exact List.mem_cons_self
  refine ⟨⟨hrc, hrs, hR.1, hR.2, pay_in ht hG, hc⟩, ht _ (hG _ hc).1, ok _ (by simp [va_wsS]), ⟨hd.1, hd.2.1⟩, fun sig h => ?_, ok _ (by simp [va_wsS]), ok _ (by simp [va_wsS])⟩
  have h2 := hd.2.2
  rw [h] at h2
  exact (Option.some.inj h2).symm
theorem vx_callSW (X : Stand p l e R s m args below meth c T locs cells slots) (hexec : p.tables.exec = Jvm.exec) {own : String} {index : Nat} {y : MethodName} {bytes : ByteArray} {maxL : Nat} {ret : Option FieldType} {hh : List (Nat × Nat × Nat × Nat)}
    (hown : s.vm.findClass own = some m.cls) (hlink : (Cond.methodLink own index y).before args s = true) (hstat : (Cond.static y).before args s = true) (hinit : (Cond.initialized y.cls).before args s = true)
    (hcode : (Cond.codeWith y bytes maxL ret hh).before args s = true) (hy : y.cls ≠ "java/lang/invoke/MethodHandle" ∧ y.cls ≠ "java/lang/invoke/VarHandle")
    {W9 : Nat} {Pre : Pt → Array Value → Prop} {Post : Pt → Array Value → Option Value → Pt → Prop} (hK : Back l R p e below s args y 3 W9 Pre Post)
    {g : JFrame} (hg : g.method = m) (hsize : g.locals.size = c.maxLocals) {argsL rest : List Value} (hlen : ∀ sig, parseMethodDescriptor y.desc = some sig → argsL.length = sig.parameters.length)
    (hstack : g.stack = argsL.reverse ++ rest) (hW : 2 * g.monitorRoom + (rest.map fun v => v.category).sum ≤ W9) (hdg : decode c.code g.pc = .ok (.invokestatic index, 3))
    (hpre : ∀ vm₁, s.WarmedH vm₁ → Pre ⟨T.setVm vm₁, locs, cells, slots⟩ argsL.toArray) :
    ∃ (v : Option Value) (vm₁ : Vm) (B : Pt), s.WarmedH vm₁ ∧ Stand p l e R s m args below meth c B.U B.locs B.cells B.slots ∧ Post ⟨T.setVm vm₁, locs, cells, slots⟩ argsL.toArray v B ∧
      ∀ target, Steps p.tables e below (B.U.setTop { g with pc := g.pc + 3, stack := v.toList ++ rest }) target → Steps p.tables e below (T.setTop g) target := by
  obtain ⟨mk, methM, cM, hnamed, hmethM, -, -, -, -, -, -, hsigM⟩ := Cond.codeWith_spec hcode
  have hstatic : methM.isStatic = true := Cond.static_spec hnamed hmethM hstat
  obtain ⟨kP, hkP, -⟩ := className_of_methodNamed hnamed
  have hinitP : kP.init = .initialized := Cond.initialized_spec (findClass_of_methodNamed hnamed) hkP hinit
  obtain ⟨vm₁, X₁, hstep₁⟩ := X.invokestatic hexec hown hlink hnamed hmethM hstatic hkP hinitP hy (g := g) hg (argsL := argsL) (rest := rest) (hlen _ hsigM) hstack hdg
  obtain ⟨v, B, X', hpost, hsteps⟩ := hK m meth c ⟨T.setVm vm₁, locs, cells, slots⟩ { g with stack := rest } (.invokestatic index) mk argsL.toArray X₁ hg hsize hdg hW (X₁.named hnamed) (hpre vm₁ X₁.warmed)
  exact ⟨v, vm₁, B, X₁.warmed, X', hpost, fun target h => hstep₁ _ fun acts => by rw [doInvoke_state]; exact hsteps.trans h⟩
theorem vx_runSW {y : MethodName} {bytes cc : ByteArray} {maxL nL mc ms n index : Nat} {ret : Option FieldType} {hh : List (Nat × Nat × Nat × Nat)} {ws : List Cond} {rm : Room} {Pc : Array Value → State → Prop} {Qc : Array Value → State → Outcome → State → Prop} {free : Addr → Prop} {Ts : List Cond} {own : String} {As rest : List Value} {g : JFrame}
    (S : CallFix p m c cc nL s args Ts own) (hM : Met l y ws rm Pc Qc mc ms free) (cw : vx_CSW R s args own index y bytes maxL ret hh ws rm mc ms n) (hp : PreS s H Pc As)
    (hg : g.method = m) (hn : As.length = n) (hsize : g.locals.size = nL) (hstack : g.stack = As.reverse ++ rest) (hW : 2 * g.monitorRoom + (rest.map fun v => v.category).sum ≤ 8) (hdg : decode cc g.pc = .ok (.invokestatic index, 3)) (hf : cells + mc ≤ R.cells ∧ slots + ms ≤ R.slots) :
    va_Run p l e R s m args below meth c H locs cells slots mc ms g rest (Qc As.toArray) (free) := by
  obtain ⟨⟨hrc, hrs, hfr, hlo, hws, hcw⟩, hcode, hini, hy, hlen, hl, hstt⟩ := cw
  have hK : Back l R p e below s args y 3 8 (PreOf R mc ms Pc) (PostOf Qc mc ms free) := va_backW (hh := hh) (bytes := bytes) (maxL := maxL) (ret := ret) hM hp.1 hrc hrs hfr hlo hws hcw (fun a' U hW => word_at hW (Or.inl (by first | rfl | simp [Cond.onTables, Cond.keeps, Cond.steady])) hini)
  obtain ⟨hx, hb, hml, ho, -⟩ := S
  intro T hT X
  obtain ⟨v, vm₁, ⟨U', l2, c2, s2⟩, hW₁, X', ⟨g', mk, t, L, e1, e2, hq, h1, hL, h2, h3⟩, st⟩ := vx_callSW X hx (hh := hh) (bytes := bytes) (maxL := maxL) (ret := ret) ho hl hstt hini hcode hy hK hg (hsize.trans hml.symm) (argsL := As) (rest := rest) (fun sig h => hn.trans (hlen sig h)) hstack hW (by rw [hb]; exact hdg)
    (fun vm₁ hW₁ => ⟨hf.1, hf.2, hp.2 (T.setVm vm₁) hT hW₁⟩)
  dsimp only [Pt.U, Pt.locs, Pt.cells, Pt.slots] at X' e1 e2 h1 h2 h3 st
  subst h1; subst h2; subst h3
  exact ⟨v, (T.setVm vm₁).calling g' mk As.toArray, t, U', L, hT, X', hL, e1, e2, hq, st⟩
/-- not caught here, past rows that name other classes: it goes on to the caller -/
theorem vx_outP {p : Program} {l : Launch} {e : Env} {R : Room} {s : State} {m : MethodId} {args : Array Value} {below : List Frame} {meth : Method} {c : Code} {H : Heap} {locs : List Loc} {cells slots : Nat} {free : Addr → Prop} {ls : Array Slot} {rest : List Value} {Qc : Array Value → State → Outcome → State → Prop} {XC : String → State → State → Prop}
    {pc : Nat} {own E : String} {ce : Cell} {q : Addr} {mc ms : Nat} (hown : s.vm.findClass own = some m.cls) (hlocks : meth.locks = false)
    (hpass : ∀ z ∈ c.exceptionTable.toList, covers z pc = false ∨ (z.catchType ≠ 0 ∧ ∃ nm : String, (Cond.classLink own z.catchType nm).before args s = true ∧ va_Nc E nm s)) (hcell : H[q]? = some ce) (hv : ce.vm = .none) (hcl : s.vm.findClass E = some ce.cls)
    (hx : ∀ t : State, t.heap = H → s.vm.Alike t.vm → XC E s t) (hf : ∀ z ∈ locs, free z.base) (hc : cells ≤ mc) (hs : slots ≤ ms) :
    vx_W p l e R s m args below meth c H locs cells slots (vx_MQ below Qc XC args s mc ms free) (F0 m pc ls rest) q := by
  intro T hT X
  have hpl : e.platform.magicAccessors = ({} : Platform).magicAccessors := by rw [X.admits.platform]
  obtain ⟨vm', hW', X', st⟩ := X.outThrough hlocks q (g := F0 m pc ls rest) rfl rfl rfl (cell := ce) (by rw [hT]; exact hcell) (by rw [hv]; rfl)
    (by obtain ⟨k9, h9, -⟩ := Vm.findClass_spec hcl; exact ⟨k9, h9⟩) (fun z hz => by
      rcases hpass z hz with h | ⟨hz0, nm, hl1, hn1⟩
      · exact Or.inl h
      · obtain ⟨c6, hc6, hcl6⟩ := Cond.classLink_spec hown hl1 e.platform hpl
        obtain ⟨a8, b8, h1, h2, h3⟩ := hn1
        cases Option.some.inj (h1.symm.trans hcl)
        cases Option.some.inj (h2.symm.trans hc6)
        exact Or.inr ⟨hz0, _, hcl6, h3⟩)
  obtain ⟨g₀, hfr⟩ := X'.frames_eq
  have hcell9 : ((T.setVm vm').setFrames (.throwing q :: below)).heap[q]? = some ce := by
    show T.heap[q]? = some ce
    rw [hT]; exact hcell
  have hend : Ended ((T.setVm vm').setFrames (.throwing q :: below)) below (.threw q) := State.frames_setFrames _ (State.cur_lt_of_frames hfr)
  refine ⟨(T.setVm vm').setFrames (.throwing q :: below), ?_, .threw q, X'.here.running, hend, Or.inr ⟨q, rfl, E, ce, locs, hx _ hT (X'.ends _).1.alike, hcell9, hv, hcl, (X'.ends _).1, (X'.ends _).2.mono hc hs, hf⟩⟩
  rw [X.pushThrowing_eq]
  exact st
/-- a thing of a world lies in the heap -/
theorem vx_lt {D : va_G} {cl : List vw_C} {ws : va_W} {H1 : Heap} (h : va_P D cl ws H1) {k : Nat} {q : Nat × va_E} (hk : ws[k]? = some q) : q.1 < H1.size := (h k q hk).lt
end VXS
/-! ===== END ===== -/
/-! ===== BEGIN methods with a table of their own: called by a name, returning or throwing ===== -/
section VXH
/-! vx_backW, vx_callVX, vx_callSX, vx_callVW, vx_runVW, vx_runVX, vx_runSX, vx_ofWH follow the same proofs as their sisters above (Free/Laws.lean, Shelf42/LK1.lean); vx_outP calls Shelf42/NT130.lean (outThrough). -/
section
variable {l : Launch} {R : Room} {p : Program} {e : Env} {below : List Frame} {s : State} {sargs : Array Value} {y : MethodName} {len W9 : Nat}
theorem vx_backW {ws : List Cond} {rm : Room} {Pc : Array Value → State → Prop} {Qc : Array Value → State → Outcome → State → Prop} {XC : String → State → State → Prop} {mc ms : Nat} {free : Addr → Prop} {bytes : ByteArray} {maxL : Nat} {ret : Option FieldType} {hh : List (Nat × Nat × Nat × Nat)}
    (hM : vx_Met l y ws rm Pc Qc XC mc ms free) (hblind : FrameBlind Pc) (hrc : rm.cells = mc) (hrs : rm.slots = ms)
    (hframes : rm.frames + 1 ≤ R.frames) (hlocals : W9 + (maxL + 11) + rm.locals ≤ R.locals)
    (hws : ∀ w ∈ ws, ∀ a' U, s.WarmedH U.vm → w.before a' U = true) (hcode : Cond.codeWith y bytes maxL ret hh ∈ ws) (hinit : ∀ a' U, s.WarmedH U.vm → (Cond.initialized y.cls).before a' U = true) :
    vx_Back l R p e below s sargs y len W9 (PreOf R mc ms Pc) (PostOf Qc mc ms free) (vx_Post XC mc ms free) := by
  intro m meth c A g ig mk a X hg hsize hdg hW hn hp
  have h1 : (headSpec ws rm).pre.before a A.U = true := atoms_intro fun w hw => hws w hw _ _ X.warmed
  have h2 : (Cond.codeWith y bytes maxL ret hh).before a A.U = true := hws _ hcode _ _ X.warmed
  have h3 : (Cond.initialized y.cls).before a A.U = true := hinit _ _ X.warmed
  have h4 : A.cells + (headSpec ws rm).room.cells ≤ R.cells := by rw [show (headSpec ws rm).room.cells = mc from hrc]; exact hp.1
  have h5 : A.slots + (headSpec ws rm).room.slots ≤ R.slots := by rw [show (headSpec ws rm).room.slots = ms from hrs]; exact hp.2.1
  have hPc : Pc a (A.U.calling g mk a) := hblind _ _ _ _ hp.2.2
  obtain ⟨U, Ls, c0, s0⟩ := A
  dsimp only [Pt.U, Pt.locs, Pt.cells, Pt.slots] at h1 h2 h3 h4 h5 X hn hPc ⊢
  obtain ⟨m9, methY, cY, hn9, hmY, hcY, -, hlY, -⟩ := Cond.codeWith_spec h2
  cases Option.some.inj (hn9.symm.trans hn)
  obtain ⟨kY, hkY, -⟩ := className_of_methodNamed hn
  have hinitY : kY.init = .initialized := Cond.initialized_spec (findClass_of_methodNamed hn) hkY h3
  have h : At U g.method c below := by rw [hg]; exact X.here
  have hlocals9 : W9 + (maxL + 11) + (headSpec ws rm).room.locals ≤ R.locals := hlocals
  have happ : (headSpec ws rm).appliesLoose y e.platform (U.calling g mk a) = true :=
    Spec.appliesLoose_calling (g := g) h hdg hn hkY hinitY
      (X.room_calling (g := g) (R' := (headSpec ws rm).room) hsize hmY hcY hframes (by rw [hlY]; omega) h4 h5) h1
  obtain ⟨mid, hmid⟩ := h.above
  have hfr : (U.setTop g).frames = (.java g :: mid) ++ below := by rw [State.frames_setTop' g h.top, hmid]; rfl
  obtain ⟨o, s₂, hsteps, -, hend, hq⟩ := Steps.callFree hM p X.admits X.cas X.clock (acts := []) hfr happ hPc trivial
  have hq' : vx_Q Qc XC mc ms free a (U.calling g mk a) o s₂ := hq
  rw [State.frames_setTop' g h.top] at hend
  obtain ⟨g₀, hg0⟩ := Option.isSome_iff_exists.mp h.top
  obtain ⟨r, hr⟩ := State.topJava?_eq_some.mp hg0
  have hr' : (({ U with heap := s₂.heap, slotsUsed := s₂.slotsUsed } : State).setVm s₂.vm).frames = .java g₀ :: r := hr
  rcases hq' with ⟨hqc, L, hfe, hL⟩ | ⟨q, rfl, E, ce, L, hx, hce, hcv, hcl, hW₂, hsm, hL⟩
  · obtain ⟨⟨v, rfl⟩, hW₂, e2, q2, q3, q4, q5, q6⟩ := id hfe
    have e3 : s₂ = ({ (U.calling g mk a).setFrames s₂.frames with heap := s₂.heap, slotsUsed := s₂.slotsUsed } : State).setVm s₂.vm := by
      have : s₂ = ({ s₂ with vm := (U.calling g mk a).vm } : State).setVm s₂.vm := rfl
      rw [e2] at this
      exact this
    obtain ⟨c₂, i₂, len₂, hc₂, hd₂, hf₂⟩ := hend
    have hW' : U.WarmedH s₂.vm := hW₂
    have hcc : c₂ = c := by
      have h1 : s₂.code? g.method = U.code? g.method := by
        rw [State.code?_eq, State.code?_eq, hW'.alike.method?]
      exact Option.some.inj (hc₂.symm.trans (h1.trans h.code))
    subst hcc
    have hlen : len₂ = len := by rw [hdg] at hd₂; cases hd₂; rfl
    subst hlen
    have hs₂ : s₂ = (({ U with heap := s₂.heap, slotsUsed := s₂.slotsUsed } : State).setVm s₂.vm).setTop { g with pc := g.pc + len₂, stack := v.toList ++ g.stack } := by
      refine e3.trans ?_
      rw [hf₂, State.calling_eq h.top, State.setFrames_setFrames, State.setTop_of_frames _ hr', hr]
      rfl
    have hsame : U.sameButNew ({ U with heap := s₂.heap, slotsUsed := s₂.slotsUsed } : State) L mc ms := by
      refine ⟨?_, q2, q3, q4, q5, q6⟩
      obtain ⟨t, ht, -⟩ := State.frames_cons hr
      show ({ U with heap := s₂.heap, slotsUsed := s₂.slotsUsed } : State) = { U.setFrames U.frames with heap := s₂.heap, slotsUsed := s₂.slotsUsed }
      rw [State.setFrames_self ht]
    subst hg
    refine Or.inl ⟨v, ⟨(({ U with heap := s₂.heap, slotsUsed := s₂.slotsUsed } : State).setVm s₂.vm), Ls ++ L, c0 + mc, s0 + ms⟩,
      ⟨X.admits, X.cas, X.clock, X.frames, X.room, X.hears, X.method, X.code, (X.here.setHeapUsed s₂.heap s₂.slotsUsed).setVm hW'.alike, X.tail, State.WarmedH.trans X.warmed hW', X.limits, X.bytes, X.same.trans (hsame.setVm s.vm)⟩,
      ⟨g, mk, s₂, L, rfl, rfl, hqc, rfl, hL, rfl, rfl⟩, ?_⟩
    show Steps p.tables e below _ ((({ U with heap := s₂.heap, slotsUsed := s₂.slotsUsed } : State).setVm s₂.vm).setTop { g with pc := g.pc + len₂, stack := v.toList ++ g.stack })
    rw [← hs₂]
    exact hsteps
  · obtain ⟨e2, q2, q3, q4, q5, q6⟩ := id hsm
    have e3 : s₂ = ({ (U.calling g mk a).setFrames s₂.frames with heap := s₂.heap, slotsUsed := s₂.slotsUsed } : State).setVm s₂.vm := by
      have : s₂ = ({ s₂ with vm := (U.calling g mk a).vm } : State).setVm s₂.vm := rfl
      rw [e2] at this
      exact this
    have hf₂ : s₂.frames = .throwing q :: .java g :: U.frames.tail := hend
    have hW' : U.WarmedH s₂.vm := hW₂
    have hs₂ : s₂ = ((({ U with heap := s₂.heap, slotsUsed := s₂.slotsUsed } : State).setVm s₂.vm).setTop g).pushFrame (.throwing q) := by
      refine e3.trans ?_
      rw [hf₂, State.calling_eq h.top, State.setFrames_setFrames, State.pushFrame, State.frames_setTop _ hr', State.setTop_of_frames _ hr', State.setFrames_setFrames, hr]
      rfl
    have hsame : U.sameButNew ({ U with heap := s₂.heap, slotsUsed := s₂.slotsUsed } : State) L mc ms := by
      refine ⟨?_, q2, q3, q4, q5, q6⟩
      obtain ⟨t, ht, -⟩ := State.frames_cons hr
      show ({ U with heap := s₂.heap, slotsUsed := s₂.slotsUsed } : State) = { U.setFrames U.frames with heap := s₂.heap, slotsUsed := s₂.slotsUsed }
      rw [State.setFrames_self ht]
    subst hg
    refine Or.inr ⟨q, ⟨(({ U with heap := s₂.heap, slotsUsed := s₂.slotsUsed } : State).setVm s₂.vm), Ls ++ L, c0 + mc, s0 + ms⟩,
      ⟨X.admits, X.cas, X.clock, X.frames, X.room, X.hears, X.method, X.code, (X.here.setHeapUsed s₂.heap s₂.slotsUsed).setVm hW'.alike, X.tail, State.WarmedH.trans X.warmed hW', X.limits, X.bytes, X.same.trans (hsame.setVm s.vm)⟩,
      ⟨g, mk, s₂, L, E, ce, rfl, rfl, hx, hce, hcv, hcl, rfl, hL, rfl, rfl⟩, ?_⟩
    show Steps p.tables e below _ (((({ U with heap := s₂.heap, slotsUsed := s₂.slotsUsed } : State).setVm s₂.vm).setTop g).pushFrame (.throwing q))
    rw [← hs₂]
    exact hsteps
end
variable {p : Program} {l : Launch} {e : Env} {R : Room} {s : State} {m : MethodId} {args : Array Value} {below : List Frame} {meth : Method} {c : Code} {T : State} {H : Heap} {locs : List Loc} {cells slots : Nat}
theorem vx_callVX (X : Stand p l e R s m args below meth c T locs cells slots) (hexec : p.tables.exec = Jvm.exec) {own C : String} {index : Nat} {y : MethodName} {bytes : ByteArray} {maxL : Nat} {ret : Option FieldType} {hh : List (Nat × Nat × Nat × Nat)}
    (hown : s.vm.findClass own = some m.cls) (hlink : (Cond.methodLink own index y).before args s = true) (hinst : (Cond.instanceMethod y).before args s = true) (hsel : (Cond.selects C y y).before args s = true)
    (hcode : (Cond.codeWith y bytes maxL ret hh).before args s = true) (hy : y.cls ≠ "java/lang/invoke/MethodHandle" ∧ y.cls ≠ "java/lang/invoke/VarHandle")
    {W9 : Nat} {Pre : Pt → Array Value → Prop} {Post : Pt → Array Value → Option Value → Pt → Prop} {PostX : Pt → Array Value → Addr → Pt → Prop} (hK : vx_Back l R p e below s args y 3 W9 Pre Post PostX)
    {b : Addr} {cellB : Cell} (hcell : T.heap[b]? = some cellB) (hobj : cellB.vm.isStatics = false) (hcls : s.vm.findClass C = some cellB.cls)
    {g : JFrame} (hg : g.method = m) (hsize : g.locals.size = c.maxLocals) {argsL rest : List Value} (hlen : ∀ sig, parseMethodDescriptor y.desc = some sig → argsL.length = sig.parameters.length)
    (hstack : g.stack = argsL.reverse ++ .ref b :: rest) (hW : 2 * g.monitorRoom + (rest.map fun v => v.category).sum ≤ W9) (hdg : decode c.code g.pc = .ok (.invokevirtual index, 3))
    (hpre : ∀ vm₁, s.WarmedH vm₁ → Pre ⟨T.setVm vm₁, locs, cells, slots⟩ (Value.ref b :: argsL).toArray) :
    (∃ (v : Option Value) (vm₁ : Vm) (B : Pt), s.WarmedH vm₁ ∧ Stand p l e R s m args below meth c B.U B.locs B.cells B.slots ∧ Post ⟨T.setVm vm₁, locs, cells, slots⟩ (Value.ref b :: argsL).toArray v B ∧
      ∀ target, Steps p.tables e below (B.U.setTop { g with pc := g.pc + 3, stack := v.toList ++ rest }) target → Steps p.tables e below (T.setTop g) target) ∨
    (∃ (q : Addr) (vm₁ : Vm) (B : Pt), s.WarmedH vm₁ ∧ Stand p l e R s m args below meth c B.U B.locs B.cells B.slots ∧ PostX ⟨T.setVm vm₁, locs, cells, slots⟩ (Value.ref b :: argsL).toArray q B ∧
      Steps p.tables e below (T.setTop g) ((B.U.setTop { g with stack := rest }).pushFrame (.throwing q))) := by
  obtain ⟨mk, methM, hnamed, hmethM, hstM, habM⟩ := Cond.instanceMethod_spec hinst
  obtain ⟨m8, methM', cM, hn8, hmethM', -, -, -, -, -, -, hsigM⟩ := Cond.codeWith_spec hcode
  cases Option.some.inj (hn8.symm.trans hnamed)
  cases hmethM.symm.trans hmethM'
  obtain ⟨c2, r2, m2, q1, q2, q3, q4, kP, hkP, hkPi⟩ := Cond.selects_spec hsel
  cases hcls.symm.trans q1
  cases (State.methodFound?_of_named hnamed hy).symm.trans q2
  cases hnamed.symm.trans q3
  have hselP : selectMethod e.platform s.vm cellB.cls mk = .method mk := by rw [Launch.admits_selectMethod X.admits]; exact q4
  obtain ⟨vm₁, X₁, hstep₁⟩ := X.invokevirtual hexec hown hlink hnamed hmethM hstM hkP hkPi hy (a := b) (cell := cellB) hcell
    (fun z h => by rw [h] at hobj; cases hobj) hselP hmethM habM hkP hkPi (g := g) hg (argsL := argsL) (rest := rest) (hlen _ hsigM) hstack hdg
  rcases hK m meth c ⟨T.setVm vm₁, locs, cells, slots⟩ { g with stack := rest } (.invokevirtual index) mk (Value.ref b :: argsL).toArray X₁ hg hsize hdg hW (X₁.named hnamed) (hpre vm₁ X₁.warmed) with ⟨v, B, X', hpost, hsteps⟩ | ⟨q, B, X', hpost, hsteps⟩
  · exact Or.inl ⟨v, vm₁, B, X₁.warmed, X', hpost, fun target h => hstep₁ _ fun acts => by rw [doInvoke_state]; exact hsteps.trans h⟩
  · exact Or.inr ⟨q, vm₁, B, X₁.warmed, X', hpost, hstep₁ _ fun acts => by rw [doInvoke_state]; exact hsteps⟩
theorem vx_callSX (X : Stand p l e R s m args below meth c T locs cells slots) (hexec : p.tables.exec = Jvm.exec) {own : String} {index : Nat} {y : MethodName} {bytes : ByteArray} {maxL : Nat} {ret : Option FieldType} {hh : List (Nat × Nat × Nat × Nat)}
    (hown : s.vm.findClass own = some m.cls) (hlink : (Cond.methodLink own index y).before args s = true) (hstat : (Cond.static y).before args s = true) (hinit : (Cond.initialized y.cls).before args s = true)
    (hcode : (Cond.codeWith y bytes maxL ret hh).before args s = true) (hy : y.cls ≠ "java/lang/invoke/MethodHandle" ∧ y.cls ≠ "java/lang/invoke/VarHandle")
    {W9 : Nat} {Pre : Pt → Array Value → Prop} {Post : Pt → Array Value → Option Value → Pt → Prop} {PostX : Pt → Array Value → Addr → Pt → Prop} (hK : vx_Back l R p e below s args y 3 W9 Pre Post PostX)
    {g : JFrame} (hg : g.method = m) (hsize : g.locals.size = c.maxLocals) {argsL rest : List Value} (hlen : ∀ sig, parseMethodDescriptor y.desc = some sig → argsL.length = sig.parameters.length)
    (hstack : g.stack = argsL.reverse ++ rest) (hW : 2 * g.monitorRoom + (rest.map fun v => v.category).sum ≤ W9) (hdg : decode c.code g.pc = .ok (.invokestatic index, 3))
    (hpre : ∀ vm₁, s.WarmedH vm₁ → Pre ⟨T.setVm vm₁, locs, cells, slots⟩ argsL.toArray) :
    (∃ (v : Option Value) (vm₁ : Vm) (B : Pt), s.WarmedH vm₁ ∧ Stand p l e R s m args below meth c B.U B.locs B.cells B.slots ∧ Post ⟨T.setVm vm₁, locs, cells, slots⟩ argsL.toArray v B ∧
      ∀ target, Steps p.tables e below (B.U.setTop { g with pc := g.pc + 3, stack := v.toList ++ rest }) target → Steps p.tables e below (T.setTop g) target) ∨
    (∃ (q : Addr) (vm₁ : Vm) (B : Pt), s.WarmedH vm₁ ∧ Stand p l e R s m args below meth c B.U B.locs B.cells B.slots ∧ PostX ⟨T.setVm vm₁, locs, cells, slots⟩ argsL.toArray q B ∧
      Steps p.tables e below (T.setTop g) ((B.U.setTop { g with stack := rest }).pushFrame (.throwing q))) := by
  obtain ⟨mk, methM, cM, hnamed, hmethM, -, -, -, -, -, -, hsigM⟩ := Cond.codeWith_spec hcode
  have hstatic : methM.isStatic = true := Cond.static_spec hnamed hmethM hstat
  obtain ⟨kP, hkP, -⟩ := className_of_methodNamed hnamed
  have hinitP : kP.init = .initialized := Cond.initialized_spec (findClass_of_methodNamed hnamed) hkP hinit
  obtain ⟨vm₁, X₁, hstep₁⟩ := X.invokestatic hexec hown hlink hnamed hmethM hstatic hkP hinitP hy (g := g) hg (argsL := argsL) (rest := rest) (hlen _ hsigM) hstack hdg
  rcases hK m meth c ⟨T.setVm vm₁, locs, cells, slots⟩ { g with stack := rest } (.invokestatic index) mk argsL.toArray X₁ hg hsize hdg hW (X₁.named hnamed) (hpre vm₁ X₁.warmed) with ⟨v, B, X', hpost, hsteps⟩ | ⟨q, B, X', hpost, hsteps⟩
  · exact Or.inl ⟨v, vm₁, B, X₁.warmed, X', hpost, fun target h => hstep₁ _ fun acts => by rw [doInvoke_state]; exact hsteps.trans h⟩
  · exact Or.inr ⟨q, vm₁, B, X₁.warmed, X', hpost, hstep₁ _ fun acts => by rw [doInvoke_state]; exact hsteps⟩
theorem vx_callVW (X : Stand p l e R s m args below meth c T locs cells slots) (hexec : p.tables.exec = Jvm.exec) {own C : String} {index : Nat} {y : MethodName} {bytes : ByteArray} {maxL : Nat} {ret : Option FieldType} {hh : List (Nat × Nat × Nat × Nat)}
    (hown : s.vm.findClass own = some m.cls) (hlink : (Cond.methodLink own index y).before args s = true) (hinst : (Cond.instanceMethod y).before args s = true) (hsel : (Cond.selects C y y).before args s = true)
    (hcode : (Cond.codeWith y bytes maxL ret hh).before args s = true) (hy : y.cls ≠ "java/lang/invoke/MethodHandle" ∧ y.cls ≠ "java/lang/invoke/VarHandle")
    {W9 : Nat} {Pre : Pt → Array Value → Prop} {Post : Pt → Array Value → Option Value → Pt → Prop} (hK : Back l R p e below s args y 3 W9 Pre Post)
    {b : Addr} {cellB : Cell} (hcell : T.heap[b]? = some cellB) (hobj : cellB.vm.isStatics = false) (hcls : s.vm.findClass C = some cellB.cls)
    {g : JFrame} (hg : g.method = m) (hsize : g.locals.size = c.maxLocals) {argsL rest : List Value} (hlen : ∀ sig, parseMethodDescriptor y.desc = some sig → argsL.length = sig.parameters.length)
    (hstack : g.stack = argsL.reverse ++ .ref b :: rest) (hW : 2 * g.monitorRoom + (rest.map fun v => v.category).sum ≤ W9) (hdg : decode c.code g.pc = .ok (.invokevirtual index, 3))
    (hpre : ∀ vm₁, s.WarmedH vm₁ → Pre ⟨T.setVm vm₁, locs, cells, slots⟩ (Value.ref b :: argsL).toArray) :
    ∃ (v : Option Value) (vm₁ : Vm) (B : Pt), s.WarmedH vm₁ ∧ Stand p l e R s m args below meth c B.U B.locs B.cells B.slots ∧ Post ⟨T.setVm vm₁, locs, cells, slots⟩ (Value.ref b :: argsL).toArray v B ∧
      ∀ target, Steps p.tables e below (B.U.setTop { g with pc := g.pc + 3, stack := v.toList ++ rest }) target → Steps p.tables e below (T.setTop g) target := by
  obtain ⟨mk, methM, hnamed, hmethM, hstM, habM⟩ := Cond.instanceMethod_spec hinst
  obtain ⟨m8, methM', cM, hn8, hmethM', -, -, -, -, -, -, hsigM⟩ := Cond.codeWith_spec hcode
  cases Option.some.inj (hn8.symm.trans hnamed)
  cases hmethM.symm.trans hmethM'
  obtain ⟨c2, r2, m2, q1, q2, q3, q4, kP, hkP, hkPi⟩ := Cond.selects_spec hsel
  cases hcls.symm.trans q1
  cases (State.methodFound?_of_named hnamed hy).symm.trans q2
  cases hnamed.symm.trans q3
  have hselP : selectMethod e.platform s.vm cellB.cls mk = .method mk := by rw [Launch.admits_selectMethod X.admits]; exact q4
  obtain ⟨vm₁, X₁, hstep₁⟩ := X.invokevirtual hexec hown hlink hnamed hmethM hstM hkP hkPi hy (a := b) (cell := cellB) hcell
    (fun z h => by rw [h] at hobj; cases hobj) hselP hmethM habM hkP hkPi (g := g) hg (argsL := argsL) (rest := rest) (hlen _ hsigM) hstack hdg
  obtain ⟨v, B, X', hpost, hsteps⟩ := hK m meth c ⟨T.setVm vm₁, locs, cells, slots⟩ { g with stack := rest } (.invokevirtual index) mk (Value.ref b :: argsL).toArray X₁ hg hsize hdg hW (X₁.named hnamed) (hpre vm₁ X₁.warmed)
  exact ⟨v, vm₁, B, X₁.warmed, X', hpost, fun target h => hstep₁ _ fun acts => by rw [doInvoke_state]; exact hsteps.trans h⟩
abbrev vx_CVW (R : Room) (s : State) (args : Array Value) (own C : String) (index : Nat) (y : MethodName) (bytes : ByteArray) (maxL : Nat) (ret : Option FieldType) (hh : List (Nat × Nat × Nat × Nat)) (ws : List Cond) (rm : Room) (mc ms n : Nat) : Prop :=
  (rm.cells = mc ∧ rm.slots = ms ∧ rm.frames + 1 ≤ R.frames ∧ 8 + (maxL + 11) + rm.locals ≤ R.locals ∧ (∀ w ∈ ws, ∀ (a' : Array Value) (U : State), s.WarmedH U.vm → w.before a' U = true) ∧ Cond.codeWith y bytes maxL ret hh ∈ ws) ∧
  (Cond.codeWith y bytes maxL ret hh).before args s = true ∧ (Cond.initialized y.cls).before args s = true ∧ (y.cls ≠ "java/lang/invoke/MethodHandle" ∧ y.cls ≠ "java/lang/invoke/VarHandle") ∧
  (∀ sig, parseMethodDescriptor y.desc = some sig → n = sig.parameters.length) ∧ (Cond.methodLink own index y).before args s = true ∧ (Cond.instanceMethod y).before args s = true ∧ (Cond.selects C y y).before args s = true
theorem vx_cwVW {own C : String} {index maxL mc ms : Nat} {y : MethodName} {bytes : ByteArray} {ret : Option FieldType} {hh : List (Nat × Nat × Nat × Nat)} {Ts ws ws' : List Cond} {rm : Room} (n : Nat) (ht : ∀ w ∈ Ts, w.before args s = true) (hT : GoodIn Ts (wsV own index C y ws)) (hw : ws = Cond.codeWith y bytes maxL ret hh :: ws') (hrc : rm.cells = mc) (hrs : rm.slots = ms)
    (hd : y.cls = C ∧ y.cls ≠ "java/lang/invoke/MethodHandle" ∧ y.cls ≠ "java/lang/invoke/VarHandle" ∧ (parseMethodDescriptor y.desc).map (fun d => d.parameters.length) = some n) (hR : rm.frames + 1 ≤ R.frames ∧ 8 + (maxL + 11) + rm.locals ≤ R.locals) :
    vx_CVW R s args own C index y bytes maxL ret hh ws rm mc ms n := by
  obtain ⟨hC, hd⟩ := hd
  subst hC
  have ok : ∀ w ∈ wsV own index y.cls y ws, w.before args s = true := fun w h => ht w (hT w h).1
  have hG : GoodIn Ts ws := fun w h => hT w (by unfold wsV; exact List.mem_append_right _ h)
  have hc : Cond.codeWith y bytes maxL ret hh ∈ ws := by rw [hw]; exact List.mem_cons_self
  refine ⟨⟨hrc, hrs, hR.1, hR.2, pay_in ht hG, hc⟩, ht _ (hG _ hc).1, ok _ (by simp [wsV]), ⟨hd.1, hd.2.1⟩, fun sig h => ?_, ok _ (by simp [wsV]), ok _ (by simp [wsV]), ok _ (by simp [wsV])⟩
  have h2 := hd.2.2
  rw [h] at h2
  exact (Option.some.inj h2).symm
theorem vx_runVW {y : MethodName} {bytes cc : ByteArray} {maxL nL mc ms n index : Nat} {ret : Option FieldType} {hh : List (Nat × Nat × Nat × Nat)} {ws : List Cond} {rm : Room} {Pc : Array Value → State → Prop} {Qc : Array Value → State → Outcome → State → Prop} {free : Addr → Prop} {Ts : List Cond} {own C : String} {b : Addr} {As rest : List Value} {g : JFrame}
    (S : CallFix p m c cc nL s args Ts own) (hM : Met l y ws rm Pc Qc mc ms free) (cw : vx_CVW R s args own C index y bytes maxL ret hh ws rm mc ms n) (hp : PreV s H C b Pc As)
    (hg : g.method = m) (hn : As.length = n) (hsize : g.locals.size = nL) (hstack : g.stack = As.reverse ++ .ref b :: rest) (hW : 2 * g.monitorRoom + (rest.map fun v => v.category).sum ≤ 8) (hdg : decode cc g.pc = .ok (.invokevirtual index, 3)) (hf : cells + mc ≤ R.cells ∧ slots + ms ≤ R.slots) :
    va_Run p l e R s m args below meth c H locs cells slots mc ms g rest (Qc (Value.ref b :: As).toArray) free := by
  obtain ⟨⟨hrc, hrs, hfr, hlo, hws, hcw⟩, hcode, hini, hy, hlen, hl, hin, hse⟩ := cw
  have hK : Back l R p e below s args y 3 8 (PreOf R mc ms Pc) (PostOf Qc mc ms free) := va_backW (hh := hh) (bytes := bytes) (maxL := maxL) (ret := ret) hM hp.1 hrc hrs hfr hlo hws hcw (fun a' U hW => word_at hW (Or.inl (by first | rfl | simp [Cond.onTables, Cond.keeps, Cond.steady])) hini)
  obtain ⟨hx, hb, hml, ho, -⟩ := S
  obtain ⟨-, ⟨cellB, hcB, hoB, hclB⟩, hPc⟩ := hp
  intro T hT X
  obtain ⟨v, vm₁, ⟨U', l2, c2, s2⟩, hW₁, X', ⟨g', mk, t, L, e1, e2, hq, h1, hL, h2, h3⟩, st⟩ := vx_callVW X hx (C := C) (hh := hh) (bytes := bytes) (maxL := maxL) (ret := ret) ho hl hin hse hcode hy hK (by rw [hT]; exact hcB) hoB hclB hg (hsize.trans hml.symm) (argsL := As) (rest := rest) (fun sig h => hn.trans (hlen sig h)) hstack hW (by rw [hb]; exact hdg)
    (fun vm₁ hW₁ => ⟨hf.1, hf.2, hPc (T.setVm vm₁) hT hW₁⟩)
  dsimp only [Pt.U, Pt.locs, Pt.cells, Pt.slots] at X' e1 e2 h1 h2 h3 st
  subst h1; subst h2; subst h3
  exact ⟨v, (T.setVm vm₁).calling g' mk (Value.ref b :: As).toArray, t, U', L, hT, X', hL, e1, e2, hq, st⟩
section
variable {y : MethodName} {bytes cc : ByteArray} {maxL nL mc ms n index : Nat} {ret : Option FieldType} {ws : List Cond} {rm : Room} {Pc : Array Value → State → Prop} {Qc : Array Value → State → Outcome → State → Prop} {XC : String → State → State → Prop} {free : Addr → Prop} {Ts : List Cond} {own C : String} {b : Addr} {As rest : List Value} {g : JFrame}
theorem vx_runVX {hh : List (Nat × Nat × Nat × Nat)} (S : CallFix p m c cc nL s args Ts own) (hM : vx_Met l y ws rm Pc Qc XC mc ms free) (cw : vx_CVW R s args own C index y bytes maxL ret hh ws rm mc ms n) (hp : PreV s H C b Pc As)
    (hg : g.method = m) (hn : As.length = n) (hsize : g.locals.size = nL) (hstack : g.stack = As.reverse ++ .ref b :: rest) (hW : 2 * g.monitorRoom + (rest.map fun v => v.category).sum ≤ 8) (hdg : decode cc g.pc = .ok (.invokevirtual index, 3)) (hf : cells + mc ≤ R.cells ∧ slots + ms ≤ R.slots) :
    vx_Run p l e R s m args below meth c H locs cells slots mc ms g rest (Qc (Value.ref b :: As).toArray) XC free := by
  obtain ⟨⟨hrc, hrs, hfr, hlo, hws, hcw⟩, hcode, hini, hy, hlen, hl, hin, hse⟩ := cw
  have hK : vx_Back l R p e below s args y 3 8 (PreOf R mc ms Pc) (PostOf Qc mc ms free) (vx_Post XC mc ms free) := vx_backW (hh := hh) (bytes := bytes) (maxL := maxL) (ret := ret) hM hp.1 hrc hrs hfr hlo hws hcw (fun a' U hW => word_at hW (Or.inl (by first | rfl | simp [Cond.onTables, Cond.keeps, Cond.steady])) hini)
  obtain ⟨hx, hb, hml, ho, -⟩ := S
  obtain ⟨-, ⟨cellB, hcB, hoB, hclB⟩, hPc⟩ := hp
  intro T hT X
  rcases vx_callVX X hx (C := C) (hh := hh) (bytes := bytes) (maxL := maxL) (ret := ret) ho hl hin hse hcode hy hK (by rw [hT]; exact hcB) hoB hclB hg (hsize.trans hml.symm) (argsL := As) (rest := rest) (fun sig h => hn.trans (hlen sig h)) hstack hW (by rw [hb]; exact hdg)
    (fun vm₁ hW₁ => ⟨hf.1, hf.2, hPc (T.setVm vm₁) hT hW₁⟩) with ⟨v, vm₁, ⟨U', l2, c2, s2⟩, hW₁, X', ⟨g', mk, t, L, e1, e2, hq, h1, hL, h2, h3⟩, st⟩ | ⟨q, vm₁, ⟨U', l2, c2, s2⟩, hW₁, X', ⟨g', mk, t, L, E, ce, e1, e2, hq, hce, hcv, hcl, h1, hL, h2, h3⟩, st⟩
  · dsimp only [Pt.U, Pt.locs, Pt.cells, Pt.slots] at X' e1 e2 h1 h2 h3 st
    subst h1; subst h2; subst h3
    exact Or.inl ⟨v, (T.setVm vm₁).calling g' mk (Value.ref b :: As).toArray, t, U', L, hT, X', hL, e1, e2, hq, st⟩
  · dsimp only [Pt.U, Pt.locs, Pt.cells, Pt.slots] at X' e1 e2 h1 h2 h3 st hcl
    subst h1; subst h2; subst h3
    exact Or.inr ⟨q, (T.setVm vm₁).calling g' mk (Value.ref b :: As).toArray, t, U', L, E, ce, hT, X', hL, e1, e2, hq, hce, hcv, vx_cls hW₁ hcl, st⟩
theorem vx_runSX {hh : List (Nat × Nat × Nat × Nat)} (S : CallFix p m c cc nL s args Ts own) (hM : vx_Met l y ws rm Pc Qc XC mc ms free) (cw : vx_CSW R s args own index y bytes maxL ret hh ws rm mc ms n) (hp : PreS s H Pc As)
    (hg : g.method = m) (hn : As.length = n) (hsize : g.locals.size = nL) (hstack : g.stack = As.reverse ++ rest) (hW : 2 * g.monitorRoom + (rest.map fun v => v.category).sum ≤ 8) (hdg : decode cc g.pc = .ok (.invokestatic index, 3)) (hf : cells + mc ≤ R.cells ∧ slots + ms ≤ R.slots) :
    vx_Run p l e R s m args below meth c H locs cells slots mc ms g rest (Qc As.toArray) XC free := by
  obtain ⟨⟨hrc, hrs, hfr, hlo, hws, hcw⟩, hcode, hini, hy, hlen, hl, hstt⟩ := cw
  have hK : vx_Back l R p e below s args y 3 8 (PreOf R mc ms Pc) (PostOf Qc mc ms free) (vx_Post XC mc ms free) := vx_backW (hh := hh) (bytes := bytes) (maxL := maxL) (ret := ret) hM hp.1 hrc hrs hfr hlo hws hcw (fun a' U hW => word_at hW (Or.inl (by first | rfl | simp [Cond.onTables, Cond.keeps, Cond.steady])) hini)
  obtain ⟨hx, hb, hml, ho, -⟩ := S
  intro T hT X
  rcases vx_callSX X hx (hh := hh) (bytes := bytes) (maxL := maxL) (ret := ret) ho hl hstt hini hcode hy hK hg (hsize.trans hml.symm) (argsL := As) (rest := rest) (fun sig h => hn.trans (hlen sig h)) hstack hW (by rw [hb]; exact hdg)
    (fun vm₁ hW₁ => ⟨hf.1, hf.2, hp.2 (T.setVm vm₁) hT hW₁⟩) with ⟨v, vm₁, ⟨U', l2, c2, s2⟩, hW₁, X', ⟨g', mk, t, L, e1, e2, hq, h1, hL, h2, h3⟩, st⟩ | ⟨q, vm₁, ⟨U', l2, c2, s2⟩, hW₁, X', ⟨g', mk, t, L, E, ce, e1, e2, hq, hce, hcv, hcl, h1, hL, h2, h3⟩, st⟩
  · dsimp only [Pt.U, Pt.locs, Pt.cells, Pt.slots] at X' e1 e2 h1 h2 h3 st
    subst h1; subst h2; subst h3
    exact Or.inl ⟨v, (T.setVm vm₁).calling g' mk As.toArray, t, U', L, hT, X', hL, e1, e2, hq, st⟩
  · dsimp only [Pt.U, Pt.locs, Pt.cells, Pt.slots] at X' e1 e2 h1 h2 h3 st hcl
    subst h1; subst h2; subst h3
    exact Or.inr ⟨q, (T.setVm vm₁).calling g' mk As.toArray, t, U', L, E, ce, hT, X', hL, e1, e2, hq, hce, hcv, vx_cls hW₁ hcl, st⟩
end
end VXH
theorem vx_ofWH {l : Launch} {y : MethodName} {ws ws' : List Cond} {rm : Room} {Pc : Array Value → State → Prop} {Qc : Array Value → State → Outcome → State → Prop} {XC : String → State → State → Prop} {mc ms : Nat} {free : Addr → Prop} {cc : ByteArray} {maxL : Nat} {ret : Option FieldType} {hh : List (Nat × Nat × Nat × Nat)}
    (hy : plainName y.cls = true) (hw : ws = Cond.codeWith y cc maxL ret hh :: ws')
    (body : ∀ p e s m args below meth c s₁, BodyLoose p l y (headSpec ws rm) cc maxL ret e s m args below meth c s₁ → c.maxLocals = maxL → Pc args s →
      W p l e (headSpec ws rm).room s m args below meth c s.heap [] 0 0 (vx_MQ below Qc XC args s mc ms free) (entryFrame m args maxL)) : vx_Met l y ws rm Pc Qc XC mc ms free := by
  refine MetFree.of_bodyS (code := cc) (maxLocals := maxL) (ret := ret) hy ?_ ?_
  · intro args s m h hn
    obtain ⟨m9, meth, c, hn9, h1, h2, h3, h4, -, h5, h6, -⟩ := Cond.codeWith_spec (atoms_spec (ws := ws) h _ (by rw [hw]; exact List.mem_cons_self))
    cases hn.symm.trans hn9
    exact ⟨meth, c, h1, h2, h3, h4, h5, h6⟩
  · intro p e s m args below meth c s₁ B hml hP _
    have hh0 : s₁.heap = s.heap := by rw [B.state]; rfl
    obtain ⟨t, a1, o, b1, b2, b3⟩ := body p e s m args below meth c s₁ B hml hP s₁ hh0 (Stand.of_body B)
    exact ⟨t, o, a1, b1, b2, b3⟩
/-! ===== END ===== -/

/-! ===== BEGIN what the machine throws by itself, no traces kept ===== -/
section VXM
set_option maxHeartbeats 1000000 in
/-- the machine throws cls with the message text, no traces kept: from its note over the frame g to 'throwing' over the same frame (follows the proofs of Stand.vmThrowsMessage, Shelf/KitTracedVmS.lean, and Stand.throwsMessageColdBareV, StandMessageColdV.lean, without the step out of the frame) -/
theorem vx_vmAt {p : Program} {l : Launch} {e : Env} {R : Room} {s : State} {m₀ : MethodId} {args : Array Value} {below : List Frame} {meth : Method} {c : Code} {W : State} {locs : List Loc} {cells slots : Nat}
    (X : Stand p l e R s m₀ args below meth c W locs cells slots) (hexec : p.tables.exec = Jvm.exec) (htr : e.platform.stackTraces = false) {cls : String} {names : List String} {text : String}
    (hcls : Bundle.fit cls = true) (hnames : ∀ n ∈ names, Bundle.fit n = true) (hsoe : (cls == "java/lang/StackOverflowError") = false) (hoom : (cls == "java/lang/OutOfMemoryError") = false)
    (h : ∀ a ∈ Bundle.messageArmAtoms cls names, a.before args s = true)
    (hlocs : ∀ x ∈ locs, ∀ cell, s.heap[x.base]? = some cell → cell.vm.isStatics = false)
    (htext : (text == notModelled) = false) (hlimit : ¬ (stringBytes (stringToUtf16 text)).size > e.platform.arrayLengthLimit) (hheap : ¬ (stringBytes (stringToUtf16 text)).size * componentBytes .byte > e.platform.maxHeapBytes)
    {g : JFrame} (hg : g.method = m₀) (hsize : g.locals.size = c.maxLocals)
    (hRframes : names.length + 4 < R.frames) (hRlocals : 2 * g.monitorRoom + (g.stack.map fun v => v.category).sum + 10240 ≤ R.locals) (hshort : 13 * names.length + 55 ≤ 10240)
    (hRcells : cells + 3 ≤ R.cells) (hRslots : slots + ((stringBytes (stringToUtf16 text)).size + 4 + 6) ≤ R.slots) (hlocks : meth.locks = false) :
    ∃ (S : State) (q : Addr) (ce : Cell), (∀ target, Steps p.tables e below ((S.setTop g).pushFrame (.throwing q)) target → Steps p.tables e below ((W.setTop g).pushFrame (.throwNew cls (some text) none)) target) ∧
      Stand p l e R s m₀ args below meth c S locs (cells + 3) (slots + ((stringBytes (stringToUtf16 text)).size + 4 + 6)) ∧ S.heap[q]? = some ce ∧ s.vm.findClass cls = some ce.cls ∧ ce.vm = .none := by
  have howns : e.platform.frameOwnsMonitors = true := by rw [X.admits.platform]
  have hfin : e.platform.finalization = false := by rw [X.admits.platform]
  have hpl : e.platform.magicAccessors = ({} : Platform).magicAccessors := by rw [X.admits.platform]
  have a : ∀ x, x ∈ Bundle.messageArmAtoms cls names → x.holds args s none s [] = true := fun x hx => h x hx
  obtain ⟨T, Z0, L, -, Y⟩ := ThrowableC.of_atoms (args := args) howns hfin hpl (fun x hx => h x (by simp [Bundle.messageArmAtoms, hx]))
  obtain ⟨Z, M, LZ, LM, hnZ⟩ := Init0T.ofS_atoms (args := args) hpl L Y (fun x hx => h x (by simp [Bundle.messageArmAtoms, hx]))
  obtain ⟨P1, Ps, hlen, L1, hL, hP1m, hlink1, hlink⟩ := Bundle.chainS (args := args) hpl hnZ names cls hcls hnames (fun x hx => h x (by simp [Bundle.messageArmAtoms, hx]))
  obtain ⟨Zs, LZs, hn4, hfitv, hfitc⟩ := StringT.of_atoms (args := args) (fun x hx => h x (by simp [Bundle.messageArmAtoms, hx]))
  have hfound : s.vm.findClass cls = some P1.m.cls := findClass_of_methodNamed hP1m
  obtain ⟨c1, kX, hc1, hk, hord, -, -, hn6⟩ := Cond.instantiable_spec (a (.instantiable cls 6) (by simp [Bundle.messageArmAtoms]))
  cases Option.some.inj (hc1.symm.trans hfound)
  have hinit := Cond.initialized_spec hfound hk (a (.initialized cls) (by simp [Bundle.messageArmAtoms]))
  have hctor : kX.findMethod "<init>" "(Ljava/lang/String;)V" = some P1.m.idx := findMethod_of_methodNamed hP1m hk
  have hsel0 : selectMethod e.platform s.vm P1.m.cls T.fill0 = .method T.fill0 := by
    obtain ⟨c2, r2, m2, q1, q2, q3, q4, -⟩ := Cond.selects_spec (a (.selects cls Bundle.tFill0 Bundle.tFill0) (by simp [Bundle.messageArmAtoms]))
    cases Option.some.inj (q1.symm.trans hfound)
    cases Option.some.inj (q2.symm.trans (State.methodFound?_of_named Y.fill0 (by decide)))
    cases Option.some.inj (q3.symm.trans Y.fill0)
    rw [Launch.admits_selectMethod X.admits]; exact q4
  have hselF : selectMethod e.platform s.vm P1.m.cls T.fill = .method T.fill := by
    obtain ⟨c2, r2, m2, q1, q2, q3, q4, -⟩ := Cond.selects_spec (a (.selects cls Bundle.tFill Bundle.tFill) (by simp [Bundle.messageArmAtoms]))
    cases Option.some.inj (q1.symm.trans hfound)
    cases Option.some.inj (q2.symm.trans (State.methodFound?_of_named Y.fill (by decide)))
    cases Option.some.inj (q3.symm.trans Y.fill)
    rw [Launch.admits_selectMethod X.admits]; exact q4
  obtain ⟨cellS0, hcS0, hiss⟩ := Y.statics
  obtain ⟨u0, hu0⟩ := Cond.staticRefV Y.unassigned L.unassignedStatic L.statics hcS0 hiss (a (.isRef (.static Bundle.tN "UNASSIGNED_STACK" Bundle.steD)) (by simp [Bundle.messageArmAtoms]))
  obtain ⟨sen, hsen⟩ := Cond.staticRefV Y.sentinel L.sentinelStatic L.statics hcS0 hiss (a (.isRef (.static Bundle.tN "SUPPRESSED_SENTINEL" Bundle.listD)) (by simp [Bundle.messageArmAtoms]))
  obtain ⟨ci198, i198, fB, hk198, hg198, ha198, hsB, -, hnB, htB, hffB⟩ := Cond.ownField (t := .object "java/lang/Object") Y.found L.cls (by decide +kernel) (a (.fieldLink Bundle.tN 198 Bundle.tN "backtrace" "Ljava/lang/Object;") (by simp [Bundle.messageArmAtoms])) (a (.lays Bundle.tN Bundle.tN "backtrace" "Ljava/lang/Object;") (by simp [Bundle.messageArmAtoms])) e.platform hpl
  obtain ⟨cellS, hcS', heS, -, hkeep⟩ := X.same.2.2.2.2.2 T.aS cellS0 hcS0
  have hcellS : W.heap[T.aS]? = some cellS := hcS'
  have hout' : ∀ i, (⟨T.aS, i⟩ : Loc) ∉ locs := fun i hmem => by
    have := hlocs _ hmem cellS0 hcS0
    rw [hiss] at this; cases this
  have hknownS : cellS.vm ≠ .unknown := by
    rw [heS]; intro hu
    rw [show cellS0.vm = .unknown from hu] at hiss
    cases hiss
  have hvU : cellS.slots[T.fUnassigned.slot]? = some u0.v := by rw [hkeep _ (hout' _)]; exact hu0
  have hvSen : cellS.slots[T.fSentinel.slot]? = some sen.v := by rw [hkeep _ (hout' _)]; exact hsen
  obtain ⟨iM, hffM⟩ := Y.msg
  obtain ⟨tyC, dC, hdC, hdnC⟩ := Cond.laysAt hfound hk Y.cause (a (.lays cls Bundle.tN "cause" "Ljava/lang/Throwable;") (by simp [Bundle.messageArmAtoms]))
  obtain ⟨tyS, dS, hdS, hdnS⟩ := Cond.laysAt hfound hk Y.stack (a (.lays cls Bundle.tN "stackTrace" Bundle.steD) (by simp [Bundle.messageArmAtoms]))
  obtain ⟨tyP, dP, hdP, hdnP⟩ := Cond.laysAt hfound hk Y.supp (a (.lays cls Bundle.tN "suppressedExceptions" Bundle.listD) (by simp [Bundle.messageArmAtoms]))
  obtain ⟨tyM, dM, hdM, hdnM⟩ := Cond.laysAt hfound hk hffM (a (.lays cls Bundle.tN "detailMessage" "Ljava/lang/String;") (by simp [Bundle.messageArmAtoms]))
  obtain ⟨tyB, dB, hdB, hdnB⟩ := Cond.laysAt hfound hk hffB (a (.lays cls Bundle.tN "backtrace" "Ljava/lang/Object;") (by simp [Bundle.messageArmAtoms]))
  have bC := Cond.laysApart hdB hdC hdnB hdnC (by rw [hnB, Y.causeName]; decide)
  have bS := Cond.laysApart hdB hdS hdnB hdnS (by rw [hnB, Y.stackName]; decide)
  have bP := Cond.laysApart hdB hdP hdnB hdnP (by rw [hnB, Y.suppName]; decide)
  have hbk : ((preparedCellV T.toThrowableT (freshCell P1.m.cls kX) (W.heap.size + 2) u0 sen).withEntry W.cur).slots[fB.slot]? = some .null := by
    have := fresh_default (c := P1.m.cls) tyB
    rw [htB] at this
    simpa [preparedCellV, Cell.setSlot, Cell.withEntry, Array.getElem?_setIfInBounds, bC, bS, bP, bC.symm, bS.symm, bP.symm, defaultValue] using this
  have tkC := Takes.of_laid (v := .ref (W.heap.size + 2)) hk hord tyC (by rw [Y.causeType]; rfl)
  have tkS := Takes.of_laid (v := u0.v) hk hord tyS (by rw [Y.stackType]; exact fits_refV_array _ u0)
  have tkP := Takes.of_laid (v := sen.v) hk hord tyP (by rw [Y.suppType]; exact fits_refV_object _ sen)
  have tkM := Takes.of_laid (v := .ref (W.heap.size + 1)) hk hord tyM (by rw [Y.msgType]; rfl)
  have hskip : SkipFacts T e.platform s (fun u => u) u0 ((preparedCellV T.toThrowableT (freshCell P1.m.cls kX) (W.heap.size + 2) u0 sen).withEntry W.cur) := ⟨{ ci198 := ci198, i198 := i198, fBack := fB }, ⟨hk198, hg198, ha198, hsB⟩, hbk, fun _ _ => rfl⟩
  have h0 : At W g.method c below := by rw [hg]; exact X.here
  obtain ⟨hbeyond, hfreeW⟩ := X.vmMayThrow hsize (.throwNew cls (some text) none) (fun f hf => by cases hf) rfl hRlocals
  have hfr' : W.frames.length + Ps.length + 4 < (e.platform.stackLimits W.me).1 := by have := X.framesAbove hRframes; omega
  have hwd' : (stackUse (.java g :: W.frames.tail)).2 + 13 * Ps.length + 55 ≤ (e.platform.stackLimits W.me).2 := by have := X.stackAbove hsize (K := 13 * Ps.length + 55) (by omega); omega
  have hslots : W.slotsUsed + (stringBytes (stringToUtf16 text)).size + Zs.kS.instanceTypes.size + kX.instanceTypes.size ≤ e.platform.maxSlots := by
    have := X.slotsAbove hRslots
    rw [hn4, hn6]
    omega
  obtain ⟨vm', hW', st⟩ := Steps.vmThrowsMessageColdByV p (s₀ := s) (S := W) (g := g) h0 hexec T L Z LZ M LM X.warmed (t := W.cur) rfl Zs LZs P1 L1 Ps hL hlink1 hlink hsoe hoom hfound hk hinit hord hctor
    (Launch.admits_hotImplicitExceptions X.admits) hbeyond hfreeW htext hlimit hheap (X.cellsAbove hRcells) hslots (hfitv _) (hfitc _)
    (Nn := fun u => u) heapOnly_id (fun _ _ => rfl) (fun _ => rfl) (fun u x y => setCell_twice _ _ _ _) (fun _ => Nat.le_refl _) (cN := ((preparedCellV T.toThrowableT (freshCell P1.m.cls kX) (W.heap.size + 2) u0 sen).withEntry W.cur))
    hsel0 hcellS hknownS hvU tkS (fun _ hu => hu) (fun _ hu => hu) rfl rfl rfl (by simp [preparedCellV, Cell.setSlot, Cell.withEntry]) hskip (fun _ _ hA hW _ hroom _ hrest => L.nativeOff p htr hA hW hroom hrest) hselF hvSen tkC tkP tkM Y.objLocals rfl hfr' hwd'
  rw [plainBareV_eq T.toThrowableT (W.heap.size + 2) u0 sen (.ref (W.heap.size + 1)) W.cur rfl rfl] at st
  obtain ⟨-, -, w3, w4, -, -, -⟩ := withThrown_facts e.platform W Zs text P1.m.cls kX
  have X3 := ((X.pushed (bytesOf Zs.cB (stringToUtf16 text))).pushed (stringAt Zs.cS Zs.kS Zs.fv Zs.fc (stringToUtf16 text) W.heap.size)).pushed (freshCell P1.m.cls kX)
  rw [← withString_eq] at X3
  have X4 := X3.noted hW'
  have ha : (W.heap.size + 2) < ((withThrown W Zs text P1.m.cls kX).setVm vm').heap.size := by show _ < (withThrown W Zs text P1.m.cls kX).heap.size; rw [w3]; omega
  have hcell : ((withThrown W Zs text P1.m.cls kX).setVm vm').heap[(W.heap.size + 2)]? = some (freshCell P1.m.cls kX) := w4
  have X5 := ((((X4.stored hcell T.fCause.slot (.ref (W.heap.size + 2))).storedAgain ha T.fStack.slot u0.v).storedAgain ha T.fSupp.slot sen.v).storedAgain ha T.fStack.slot u0.v).storedAgain ha T.fMsg.slot (.ref (W.heap.size + 1))
  obtain ⟨g₁, hfrM⟩ := X5.frames_eq
  have hU : ((((withThrown W Zs text P1.m.cls kX).setVm vm').setCell (W.heap.size + 2) (plainBareV T.toThrowableT (freshCell P1.m.cls kX) (W.heap.size + 2) u0 sen (.ref (W.heap.size + 1)))).setTop g).pushFrame (.throwing (W.heap.size + 2)) = (((withThrown W Zs text P1.m.cls kX).setVm vm').setCell (W.heap.size + 2) (plainBareV T.toThrowableT (freshCell P1.m.cls kX) (W.heap.size + 2) u0 sen (.ref (W.heap.size + 1)))).setFrames (.throwing (W.heap.size + 2) :: .java g :: below) := by
    rw [State.pushFrame, State.frames_setTop _ hfrM, State.setTop_of_frames _ hfrM, State.setFrames_setFrames]
  have b1 : (bytesOf Zs.cB (stringToUtf16 text)).slots.size = (stringBytes (stringToUtf16 text)).size := by
    rw [(Cell.writeAll_facts _ _).2.2]; simp [bytes0]
  have b2 : (stringAt Zs.cS Zs.kS Zs.fv Zs.fc (stringToUtf16 text) W.heap.size).slots.size = 4 := by simp [string0, Cell.setSlot, hn4]
  have b3 : (freshCell P1.m.cls kX).slots.size = 6 := by simp [hn6]
  rw [b1, b2, b3] at X5
  have e9 : slots + (stringBytes (stringToUtf16 text)).size + 4 + 6 = slots + ((stringBytes (stringToUtf16 text)).size + 4 + 6) := by omega
  rw [e9] at X5
  simp only [List.append_assoc, List.cons_append, List.nil_append] at X5
  refine ⟨((withThrown W Zs text P1.m.cls kX).setVm vm').setCell (W.heap.size + 2) (plainBareV T.toThrowableT (freshCell P1.m.cls kX) (W.heap.size + 2) u0 sen (.ref (W.heap.size + 1))), W.heap.size + 2, _, fun target ht => st _ (by rw [X.tail, ← hU]; exact ht),
    X5.forget (fun y hy => ?_), heapAt_setCell_self _ ha, hfound, rfl⟩
  simp only [List.mem_cons, List.not_mem_nil, or_false] at hy
  have hge : s.heap.size ≤ W.heap.size := X.same.2.1
  rcases hy with rfl | rfl | rfl | rfl | rfl <;> exact Nat.le_trans hge (Nat.le_add_right _ 2)
set_option maxHeartbeats 1000000 in
/-- the machine throws NullPointerException, no traces kept: from its note over the frame g to 'throwing' over the same frame (follows the proof of Stand.vmThrowsNpe, Shelf42/KT2.lean; throwsNpeColdBareVAt, Shelf42/NT91.lean, called) -/
theorem vx_npeAt {p : Program} {l : Launch} {e : Env} {R : Room} {s : State} {m₀ : MethodId} {args : Array Value} {below : List Frame} {meth : Method} {c : Code} {W : State} {locs : List Loc} {cells slots : Nat}
    (X : Stand p l e R s m₀ args below meth c W locs cells slots) (hexec : p.tables.exec = Jvm.exec) (htr : e.platform.stackTraces = false) {n : Nat}
    (h : ∀ a ∈ Bundle.npeArmAtoms n, a.before args s = true)
    (hlocs : ∀ x ∈ locs, ∀ cell, s.heap[x.base]? = some cell → cell.vm.isStatics = false)
    {g : JFrame} (hg : g.method = m₀) (hsize : g.locals.size = c.maxLocals)
    (hRframes : 7 < R.frames) (hRlocals : 2 * g.monitorRoom + (g.stack.map fun v => v.category).sum + 10240 ≤ R.locals)
    (hRcells : cells + 1 ≤ R.cells) (hRslots : slots + n ≤ R.slots) (hlocks : meth.locks = false) :
    ∃ (S : State) (q : Addr) (ce : Cell), (∀ target, Steps p.tables e below ((S.setTop g).pushFrame (.throwing q)) target → Steps p.tables e below ((W.setTop g).pushFrame (.throwNew "java/lang/NullPointerException" none none)) target) ∧
      Stand p l e R s m₀ args below meth c S locs (cells + 1) (slots + n) ∧ S.heap[q]? = some ce ∧ s.vm.findClass "java/lang/NullPointerException" = some ce.cls ∧ ce.vm = .none := by
  have howns : e.platform.frameOwnsMonitors = true := by rw [X.admits.platform]
  have hfin : e.platform.finalization = false := by rw [X.admits.platform]
  have hpl : e.platform.magicAccessors = ({} : Platform).magicAccessors := by rw [X.admits.platform]
  have hpl2 : e.platform.arrayCloneIsPublic = true := by rw [X.admits.platform]
  have a' : ∀ x, x ∈ Bundle.npeArmAtoms n → x.holds args s none s [] = true := fun x hx => h x hx
  obtain ⟨T, Z, L, LZ, Y⟩ := ThrowableC.of_atoms (args := args) howns hfin hpl (fun x hx => h x (by simp [Bundle.npeArmAtoms, hx]))
  obtain ⟨N, LN, hcN, hnNF, hordN, hffS⟩ := NpeC.of_atoms (args := args) hpl hpl2 L Y (fun x hx => h x (by simp [Bundle.npeArmAtoms, hx]))
  obtain ⟨P1, L1, hP1m, hP1s⟩ := PassC.of_atoms (args := args) (s := s) hpl (X := Bundle.nN) (Y := Bundle.rN) (by decide) (by decide) LibCode.NullPointerException.Init0.at_0 LibCode.NullPointerException.Init0.at_1 LibCode.NullPointerException.Init0.at_4 (fun x hx => h x (by simp [Bundle.npeArmAtoms, hx]))
  obtain ⟨PR, LR, hPRm, hPRs⟩ := PassC.of_atoms (args := args) (s := s) hpl (X := Bundle.rN) (Y := Bundle.eN) (by decide) (by decide) LibCode.RuntimeException.Init0.at_0 LibCode.RuntimeException.Init0.at_1 LibCode.RuntimeException.Init0.at_4 (fun x hx => h x (by simp [Bundle.npeArmAtoms, hx]))
  obtain ⟨PE, LEx, hPEm, hPEs⟩ := PassC.of_atoms (args := args) (s := s) hpl (X := Bundle.eN) (Y := Bundle.tN) (by decide) (by decide) LibCode.Exception.Init0.at_0 LibCode.Exception.Init0.at_1 LibCode.Exception.Init0.at_4 (fun x hx => h x (by simp [Bundle.npeArmAtoms, hx]))
  have hfound : s.vm.findClass Bundle.nN = some P1.m.cls := findClass_of_methodNamed hP1m
  have ecls : N.cN = P1.m.cls := Option.some.inj (hcN.symm.trans hfound)
  have hk : s.vm.classes[P1.m.cls]? = some N.kN := by rw [← ecls]; exact LN.cls
  have hinit := Cond.initialized_spec hfound hk (a' (.initialized Bundle.nN) (by simp [Bundle.npeArmAtoms]))
  have hctor : N.kN.findMethod "<init>" "()V" = some P1.m.idx := findMethod_of_methodNamed hP1m hk
  obtain ⟨c1, k1, hc1, hk1, -, -, -, hn⟩ := Cond.instantiable_spec (a' (.instantiable Bundle.nN n) (by simp [Bundle.npeArmAtoms]))
  cases Option.some.inj (hc1.symm.trans hfound)
  cases Option.some.inj (hk1.symm.trans hk)
  have hfsz : (freshCell P1.m.cls N.kN).slots.size = n := by simp [hn]
  have hlink1 : P1.sup = PR.m := Option.some.inj (hP1s.symm.trans hPRm)
  have hlinkR : PR.sup = PE.m := Option.some.inj (hPRs.symm.trans hPEm)
  have hlinkE : PE.sup = Z.m T.toThrowableT := Option.some.inj (hPEs.symm.trans Y.init0)
  have hLs : ∀ P, P ∈ [PR, PE] → P.Links0 e.platform s := fun P hP => by
    simp only [List.mem_cons, List.not_mem_nil, or_false] at hP
    rcases hP with rfl | rfl
    · exact LR
    · exact LEx
  have hsel0 : selectMethod e.platform s.vm P1.m.cls T.fill0 = .method T.fill0 := by
    obtain ⟨c2, r2, m2, q1, q2, q3, q4, -⟩ := Cond.selects_spec (a' (.selects Bundle.nN Bundle.tFill0 Bundle.tFill0) (by simp [Bundle.npeArmAtoms]))
    cases Option.some.inj (q1.symm.trans hfound)
    cases Option.some.inj (q2.symm.trans (State.methodFound?_of_named Y.fill0 (by decide)))
    cases Option.some.inj (q3.symm.trans Y.fill0)
    rw [Launch.admits_selectMethod X.admits]; exact q4
  have hselF : selectMethod e.platform s.vm P1.m.cls T.fill = .method N.fill := by
    obtain ⟨c2, r2, m2, q1, q2, q3, q4, -⟩ := Cond.selects_spec (a' (.selects Bundle.nN Bundle.tFill Bundle.nFill) (by simp [Bundle.npeArmAtoms]))
    cases Option.some.inj (q1.symm.trans hfound)
    cases Option.some.inj (q2.symm.trans (State.methodFound?_of_named Y.fill (by decide)))
    cases Option.some.inj (q3.symm.trans hnNF)
    rw [Launch.admits_selectMethod X.admits]; exact q4
  obtain ⟨cellS0, hcS0, hiss⟩ := Y.statics
  obtain ⟨u0, hu0⟩ := Cond.staticRefV Y.unassigned L.unassignedStatic L.statics hcS0 hiss (a' (.isRef (.static Bundle.tN "UNASSIGNED_STACK" Bundle.steD)) (by simp [Bundle.npeArmAtoms]))
  obtain ⟨sen, hsen⟩ := Cond.staticRefV Y.sentinel L.sentinelStatic L.statics hcS0 hiss (a' (.isRef (.static Bundle.tN "SUPPRESSED_SENTINEL" Bundle.listD)) (by simp [Bundle.npeArmAtoms]))
  obtain ⟨ci198, i198, fB, hk198, hg198, ha198, hsB, -, hnB, htB, hffB⟩ := Cond.ownField (t := .object "java/lang/Object") Y.found L.cls (by decide +kernel) (a' (.fieldLink Bundle.tN 198 Bundle.tN "backtrace" Bundle.objD) (by simp [Bundle.npeArmAtoms])) (a' (.lays Bundle.tN Bundle.tN "backtrace" Bundle.objD) (by simp [Bundle.npeArmAtoms])) e.platform hpl
  obtain ⟨cellS, hcS', heS, -, hkeep⟩ := X.same.2.2.2.2.2 T.aS cellS0 hcS0
  have hcellS : W.heap[T.aS]? = some cellS := hcS'
  have hout' : ∀ i, (⟨T.aS, i⟩ : Loc) ∉ locs := fun i hmem => by
    have := hlocs _ hmem cellS0 hcS0
    rw [hiss] at this; cases this
  have hknownS : cellS.vm ≠ .unknown := by
    rw [heS]; intro hu
    rw [show cellS0.vm = .unknown from hu] at hiss
    cases hiss
  have hvU : cellS.slots[T.fUnassigned.slot]? = some u0.v := by rw [hkeep _ (hout' _)]; exact hu0
  have hvSen : cellS.slots[T.fSentinel.slot]? = some sen.v := by rw [hkeep _ (hout' _)]; exact hsen
  obtain ⟨tyC, dC, hdC, hdnC⟩ := Cond.laysAt hfound hk Y.cause (a' (.lays Bundle.nN Bundle.tN "cause" "Ljava/lang/Throwable;") (by simp [Bundle.npeArmAtoms]))
  obtain ⟨tyS, dS, hdS, hdnS⟩ := Cond.laysAt hfound hk Y.stack (a' (.lays Bundle.nN Bundle.tN "stackTrace" Bundle.steD) (by simp [Bundle.npeArmAtoms]))
  obtain ⟨tyP, dP, hdP, hdnP⟩ := Cond.laysAt hfound hk Y.supp (a' (.lays Bundle.nN Bundle.tN "suppressedExceptions" Bundle.listD) (by simp [Bundle.npeArmAtoms]))
  obtain ⟨tyX, dX, hdX, hdnX⟩ := Cond.laysAt hfound hk hffS (a' (.lays Bundle.nN Bundle.nN "extendedMessageState" "I") (by simp [Bundle.npeArmAtoms, Bundle.npeAtoms]))
  obtain ⟨hnX, htX⟩ := State.fieldFound?_type hffS (t := .int) (by decide +kernel)
  have xC := Cond.laysApart hdC hdX hdnC hdnX (by rw [hnX, Y.causeName]; decide)
  have xS := Cond.laysApart hdS hdX hdnS hdnX (by rw [hnX, Y.stackName]; decide)
  have xP := Cond.laysApart hdP hdX hdnP hdnX (by rw [hnX, Y.suppName]; decide)
  have hv0 : (freshCell P1.m.cls N.kN).slots[N.fState.slot]? = some (.int 0) := by
    have := fresh_default (c := P1.m.cls) tyX
    rw [htX] at this; exact this
  obtain ⟨tyB, dB, hdB, hdnB⟩ := Cond.laysAt hfound hk hffB (a' (.lays Bundle.nN Bundle.tN "backtrace" Bundle.objD) (by simp [Bundle.npeArmAtoms]))
  have bC := Cond.laysApart hdB hdC hdnB hdnC (by rw [hnB, Y.causeName]; decide)
  have bS := Cond.laysApart hdB hdS hdnB hdnS (by rw [hnB, Y.stackName]; decide)
  have bP := Cond.laysApart hdB hdP hdnB hdnP (by rw [hnB, Y.suppName]; decide)
  have bX := Cond.laysApart hdB hdX hdnB hdnX (by rw [hnB, hnX]; decide)
  have hbk : ((npeCell N.toNpeT (preparedCellV T.toThrowableT (freshCell P1.m.cls N.kN) W.heap.size u0 sen) W.cur).withEntry W.cur).slots[fB.slot]? = some .null := by
    have := fresh_default (c := P1.m.cls) tyB
    rw [htB] at this
    simpa [npeCell, preparedCellV, Cell.setSlot, Cell.withEntry, Array.getElem?_setIfInBounds, bC, bS, bP, bX, bC.symm, bS.symm, bP.symm, bX.symm, defaultValue] using this
  have tkC := Takes.of_laid (v := .ref W.heap.size) hk hordN tyC (by rw [Y.causeType]; rfl)
  have tkS := Takes.of_laid (v := u0.v) hk hordN tyS (by rw [Y.stackType]; exact fits_refV_array _ u0)
  have tkP := Takes.of_laid (v := sen.v) hk hordN tyP (by rw [Y.suppType]; exact fits_refV_object _ sen)
  have tkX := Takes.of_laid (v := .int 1) hk hordN tyX (by rw [htX]; rfl)
  have hskip : SkipFacts T e.platform s (fun u => u) u0 ((npeCell N.toNpeT (preparedCellV T.toThrowableT (freshCell P1.m.cls N.kN) W.heap.size u0 sen) W.cur).withEntry W.cur) := ⟨{ ci198 := ci198, i198 := i198, fBack := fB }, ⟨hk198, hg198, ha198, hsB⟩, hbk, fun _ _ => rfl⟩
  obtain ⟨vm', X3, st, -⟩ := X.throwsNpeColdBareVAt hexec hg hsize T L Z LZ N LN P1 L1 [PR, PE] hLs hlink1 ⟨hlinkR, hlinkE, trivial⟩ hfound hk hinit hordN hctor hsel0 hselF hcellS hknownS hvU hvSen
    hv0 xC xS xP tkC tkS tkP tkX Y.objLocals hskip (fun _ _ hA hW _ hroom _ hrest => L.nativeOff p htr hA hW hroom hrest) (by simpa using hRframes) hRlocals (by simp) hRcells (by rw [hn]; exact hRslots)
  have hlt : W.heap.size < ((W.pushCell (freshCell P1.m.cls N.kN)).setVm vm').heap.size := by
    show W.heap.size < (W.pushCell (freshCell P1.m.cls N.kN)).heap.size
    rw [State.heap_size_pushCell]; omega
  rw [hfsz] at X3
  obtain ⟨g₁, hfrM⟩ := X3.frames_eq
  have hU : ((((W.pushCell (freshCell P1.m.cls N.kN)).setVm vm').setCell W.heap.size (npeBareV T.toThrowableT N.toNpeT (freshCell P1.m.cls N.kN) W.heap.size u0 sen)).setTop g).pushFrame (.throwing W.heap.size) = (((W.pushCell (freshCell P1.m.cls N.kN)).setVm vm').setCell W.heap.size (npeBareV T.toThrowableT N.toNpeT (freshCell P1.m.cls N.kN) W.heap.size u0 sen)).setFrames (.throwing W.heap.size :: .java g :: below) := by
    rw [State.pushFrame, State.frames_setTop _ hfrM, State.setTop_of_frames _ hfrM, State.setFrames_setFrames]
  refine ⟨_, W.heap.size, _, fun target ht => st.trans (by rw [← hU]; exact ht), X3.forget (fun y hy => ?_), heapAt_setCell_self _ hlt, hfound, rfl⟩
  simp only [List.mem_cons, List.not_mem_nil, or_false] at hy
  have hge : s.heap.size ≤ W.heap.size := X.same.2.1
  rcases hy with rfl | rfl | rfl | rfl | rfl <;> exact hge
/-- the words of a machine's NullPointerException, but the four that speak of the heap -/
def vx_atN (n : Nat) : List Cond := (Bundle.npeArmAtoms n).filter vx_no
/-- the words of a machine's throw with a message, but the four that speak of the heap -/
def vx_atM (X : String) (names : List String) : List Cond := (Bundle.messageArmAtoms X names).filter vx_no
section
variable {p : Program} {l : Launch} {e : Env} {R : Room} {s : State} {m : MethodId} {args : Array Value} {below : List Frame} {meth : Method} {c : Code} {H : Heap} {locs : List Loc} {cells slots : Nat}
/-- a frame seen from a rebased start, seen from the first start again -/
theorem vx_back9 {T S : State} {R' : Room} {k n : Nat} (X : Stand p l e R s m args below meth c T locs cells slots) (Y : Stand p l e R' ((T.setVm s.vm).setFrames (.invoking m args :: below)) m args below meth c T [] 0 0) (Z : Stand p l e R' ((T.setVm s.vm).setFrames (.invoking m args :: below)) m args below meth c S [] k n) :
    Stand p l e R s m args below meth c S locs (cells + k) (slots + n) := by
  have hW0 : s.WarmedH ((T.setVm s.vm).setFrames (.invoking m args :: below)).vm := State.WarmedH.refl s
  refine { admits := X.admits, cas := X.cas, clock := X.clock, frames := X.frames, room := X.room, hears := X.hears, method := X.method, code := X.code, here := Z.here, tail := Z.tail, warmed := State.WarmedH.trans hW0 Z.warmed, limits := Z.limits.trans (Y.limits.symm.trans X.limits), bytes := Z.bytes.trans (Y.bytes.symm.trans X.bytes), same := ?_ }
  obtain ⟨e1, e2⟩ := Z.same
  rw [State.setFrames_setFrames] at e1
  have h2 : (T.setVm s.vm).sameButNew (S.setVm s.vm) [] k n := ⟨e1, e2⟩
  have h3 := X.same.trans h2
  rw [List.append_nil] at h3
  exact h3
/-- from the machine's note that E is thrown here with this text -/
def vx_Note (p : Program) (l : Launch) (e : Env) (R : Room) (s : State) (m : MethodId) (args : Array Value) (below : List Frame) (meth : Method) (c : Code) (H : Heap) (locs : List Loc) (cells slots : Nat) (Q : State → Prop) (g : JFrame) (E text : String) : Prop :=
  ∀ T : State, T.heap = H → Stand p l e R s m args below meth c T locs cells slots → ∃ t, Steps p.tables e below ((T.setTop g).pushFrame (.throwNew E (some text) none)) t ∧ Q t
theorem vx_vm {pc : Nat} {ls : Array Slot} {rest : List Value} {Q : State → Prop} (hexec : p.tables.exec = Jvm.exec) (hl : l.stackTraces = false) {cls text : String} {names : List String} {nb : Nat} {A : Nat → Prop}
    (hcls : Bundle.fit cls = true) (hnames : ∀ n ∈ names, Bundle.fit n = true) (hsoe : (cls == "java/lang/StackOverflowError") = false) (hoom : (cls == "java/lang/OutOfMemoryError") = false)
    (hat : ∀ w ∈ vx_atM cls names, w.before args s = true) (hgood : ∀ w ∈ vx_atM cls names, vx_ot w = true)
    (hU : vx_Zq Bundle.tN "UNASSIGNED_STACK" Bundle.steD A s s.heap) (hN : vx_Zq Bundle.tN "SUPPRESSED_SENTINEL" Bundle.listD A s s.heap) (hS : va_S A s.heap H locs) (hsize : ls.size = c.maxLocals)
    (htext : (text == notModelled) = false) (hnb : (stringBytes (stringToUtf16 text)).size ≤ nb) (hnb1 : nb ≤ 1000)
    (hRframes : names.length + 4 < R.frames) (hRlocals : (rest.map fun v => v.category).sum + 10240 ≤ R.locals) (hshort : 13 * names.length + 55 ≤ 10240) (hRcells : cells + 3 ≤ R.cells) (hRslots : slots + (nb + 10) ≤ R.slots) (hlocks : meth.locks = false)
    (k : ∀ (H1 : Heap) (q9 : Addr) (ce : Cell), H.size ≤ H1.size → (∀ q : Nat, q < H.size → H1[q]? = H[q]?) → va_S A s.heap H1 locs → H1[q9]? = some ce → ce.vm = .none → s.vm.findClass cls = some ce.cls → vx_W p l e R s m args below meth c H1 locs (cells + 3) (slots + (nb + 10)) Q (F0 m pc ls rest) q9) :
    vx_Note p l e R s m args below meth c H locs cells slots Q (F0 m pc ls rest) cls text := by
  intro T hT X
  have htr : e.platform.stackTraces = false := (show e.platform.stackTraces = l.stackTraces by rw [X.admits.platform]).trans hl
  have Y := vx_rebase X (R' := { frames := R.frames, locals := R.locals, cells := 3, slots := nb + 10 }) (Nat.le_refl _) (Nat.le_refl _) hRcells hRslots
  have hhp : ((T.setVm s.vm).setFrames (.invoking m args :: below)).heap = H := hT
  have hW0 : s.WarmedH ((T.setVm s.vm).setFrames (.invoking m args :: below)).vm := State.WarmedH.refl s
  have hat' : ∀ w ∈ vx_atM cls names, w.before args ((T.setVm s.vm).setFrames (.invoking m args :: below)) = true := fun w hw => vx_ot_at hW0 rfl (hgood w hw) (hat w hw)
  have hU' : vx_Zq Bundle.tN "UNASSIGNED_STACK" Bundle.steD A ((T.setVm s.vm).setFrames (.invoking m args :: below)) ((T.setVm s.vm).setFrames (.invoking m args :: below)).heap := by rw [hhp]; exact vx_Zq.moved hW0.alike (hU.kept hS.2.1)
  have hN' : vx_Zq Bundle.tN "SUPPRESSED_SENTINEL" Bundle.listD A ((T.setVm s.vm).setFrames (.invoking m args :: below)) ((T.setVm s.vm).setFrames (.invoking m args :: below)).heap := by rw [hhp]; exact vx_Zq.moved hW0.alike (hN.kept hS.2.1)
  obtain ⟨S, q, ce, st, Z, hce, hcl', hv⟩ := vx_vmAt Y hexec htr (cls := cls) (names := names) (text := text) hcls hnames hsoe hoom (vx_own hat' (vx_isRefq hU'.1) (vx_isRefq hN'.1) hU'.2.word hN'.2.word) (fun x hx => nomatch hx) htext
    (by rw [Launch.admits_arrayLengthLimit X.admits]; omega) (by rw [Launch.admits_maxHeapBytes X.admits]; simp only [componentBytes]; omega)
    (g := F0 m pc ls rest) rfl hsize hRframes (by show 2 * 0 + (rest.map fun v => v.category).sum + 10240 ≤ R.locals; omega) hshort (by show 0 + 3 ≤ 3; omega) (by show 0 + (_ + 4 + 6) ≤ nb + 10; omega) hlocks
  obtain ⟨f1, f2⟩ := vx_frame Z.same
  have f1' : H.size ≤ S.heap.size := by rw [← hT]; exact f1
  have f2' : ∀ q : Nat, q < H.size → S.heap[q]? = H[q]? := fun q hq => by
    rw [← hT]
    exact f2 q (by rw [← hT] at hq; exact hq) (fun z hz => nomatch hz)
  have X5 := vx_back9 X Y Z
  have X6 : Stand p l e R s m args below meth c S locs (cells + 3) (slots + (nb + 10)) := { X5 with same := X5.same.mono (by omega) (by omega) }
  obtain ⟨t, a1, b1⟩ := k S.heap q ce f1' f2' ⟨Nat.le_trans hS.1 f1', fun q h1 h2 => (f2' q (Nat.lt_of_lt_of_le h1 hS.1)).trans (hS.2.1 q h1 h2), hS.2.2⟩ hce hv hcl' S rfl X6
  exact ⟨t, st t a1, b1⟩
/-- from the machine's note that NullPointerException is thrown here -/
def vx_NoteN (p : Program) (l : Launch) (e : Env) (R : Room) (s : State) (m : MethodId) (args : Array Value) (below : List Frame) (meth : Method) (c : Code) (H : Heap) (locs : List Loc) (cells slots : Nat) (Q : State → Prop) (g : JFrame) : Prop :=
  ∀ T : State, T.heap = H → Stand p l e R s m args below meth c T locs cells slots → ∃ t, Steps p.tables e below ((T.setTop g).pushFrame (.throwNew "java/lang/NullPointerException" none none)) t ∧ Q t
theorem vx_npe {pc : Nat} {ls : Array Slot} {rest : List Value} {Q : State → Prop} (hexec : p.tables.exec = Jvm.exec) (hl : l.stackTraces = false) {nb : Nat} {A : Nat → Prop}
    (hat : ∀ w ∈ vx_atN nb, w.before args s = true) (hgood : ∀ w ∈ vx_atN nb, vx_ot w = true)
    (hU : vx_Zq Bundle.tN "UNASSIGNED_STACK" Bundle.steD A s s.heap) (hN : vx_Zq Bundle.tN "SUPPRESSED_SENTINEL" Bundle.listD A s s.heap) (hS : va_S A s.heap H locs) (hsize : ls.size = c.maxLocals)
    (hRframes : 7 < R.frames) (hRlocals : (rest.map fun v => v.category).sum + 10240 ≤ R.locals) (hRcells : cells + 1 ≤ R.cells) (hRslots : slots + nb ≤ R.slots) (hlocks : meth.locks = false)
    (k : ∀ (H1 : Heap) (q9 : Addr) (ce : Cell), H.size ≤ H1.size → (∀ q : Nat, q < H.size → H1[q]? = H[q]?) → va_S A s.heap H1 locs → H1[q9]? = some ce → ce.vm = .none → s.vm.findClass "java/lang/NullPointerException" = some ce.cls → vx_W p l e R s m args below meth c H1 locs (cells + 1) (slots + nb) Q (F0 m pc ls rest) q9) :
    vx_NoteN p l e R s m args below meth c H locs cells slots Q (F0 m pc ls rest) := by
  intro T hT X
  have htr : e.platform.stackTraces = false := (show e.platform.stackTraces = l.stackTraces by rw [X.admits.platform]).trans hl
  have Y := vx_rebase X (R' := { frames := R.frames, locals := R.locals, cells := 1, slots := nb }) (Nat.le_refl _) (Nat.le_refl _) hRcells hRslots
  have hhp : ((T.setVm s.vm).setFrames (.invoking m args :: below)).heap = H := hT
  have hW0 : s.WarmedH ((T.setVm s.vm).setFrames (.invoking m args :: below)).vm := State.WarmedH.refl s
  have hat' : ∀ w ∈ vx_atN nb, w.before args ((T.setVm s.vm).setFrames (.invoking m args :: below)) = true := fun w hw => vx_ot_at hW0 rfl (hgood w hw) (hat w hw)
  have hU' : vx_Zq Bundle.tN "UNASSIGNED_STACK" Bundle.steD A ((T.setVm s.vm).setFrames (.invoking m args :: below)) ((T.setVm s.vm).setFrames (.invoking m args :: below)).heap := by rw [hhp]; exact vx_Zq.moved hW0.alike (hU.kept hS.2.1)
  have hN' : vx_Zq Bundle.tN "SUPPRESSED_SENTINEL" Bundle.listD A ((T.setVm s.vm).setFrames (.invoking m args :: below)) ((T.setVm s.vm).setFrames (.invoking m args :: below)).heap := by rw [hhp]; exact vx_Zq.moved hW0.alike (hN.kept hS.2.1)
  obtain ⟨S, q, ce, st, Z, hce, hcl', hv⟩ := vx_npeAt Y hexec htr (n := nb) (vx_own hat' (vx_isRefq hU'.1) (vx_isRefq hN'.1) hU'.2.word hN'.2.word) (fun x hx => nomatch hx)
    (g := F0 m pc ls rest) rfl hsize hRframes (by show 2 * 0 + (rest.map fun v => v.category).sum + 10240 ≤ R.locals; omega) (by show 0 + 1 ≤ 1; omega) (by show 0 + nb ≤ nb; omega) hlocks
  obtain ⟨f1, f2⟩ := vx_frame Z.same
  have f1' : H.size ≤ S.heap.size := by rw [← hT]; exact f1
  have f2' : ∀ q : Nat, q < H.size → S.heap[q]? = H[q]? := fun q hq => by
    rw [← hT]
    exact f2 q (by rw [← hT] at hq; exact hq) (fun z hz => nomatch hz)
  have X5 := vx_back9 X Y Z
  have X6 : Stand p l e R s m args below meth c S locs (cells + 1) (slots + nb) := { X5 with same := X5.same.mono (by omega) (by omega) }
  obtain ⟨t, a1, b1⟩ := k S.heap q ce f1' f2' ⟨Nat.le_trans hS.1 f1', fun q h1 h2 => (f2' q (Nat.lt_of_lt_of_le h1 hS.1)).trans (hS.2.1 q h1 h2), hS.2.2⟩ hce hv hcl' S rfl X6
  exact ⟨t, st t a1, b1⟩
variable {Q : State → Prop} {cc : ByteArray} {pc : Nat} {ls : Array Slot} {rest : List Value}
theorem vx_idivZ (hexec : p.tables.exec = Jvm.exec) (hb : c.code = cc) {a b : Int32} (h0 : b = 0) (d : decode cc pc = .ok (.idiv, 1)) (k : vx_Note p l e R s m args below meth c H locs cells slots Q (F0 m pc ls rest) "java/lang/ArithmeticException" "/ by zero") :
    W p l e R s m args below meth c H locs cells slots Q (F0 m pc ls (.int b :: .int a :: rest)) := by
  intro T hT X
  obtain ⟨t, st, q⟩ := k T hT X
  exact ⟨t, X.idivZero hexec (g := F0 m pc ls (.int b :: .int a :: rest)) rfl (a := a) (rest := rest) (by rw [h0]) (by rw [hb]; exact d) t st, q⟩
theorem vx_iremZ (hexec : p.tables.exec = Jvm.exec) (hb : c.code = cc) {a b : Int32} (h0 : b = 0) (d : decode cc pc = .ok (.irem, 1)) (k : vx_Note p l e R s m args below meth c H locs cells slots Q (F0 m pc ls rest) "java/lang/ArithmeticException" "/ by zero") :
    W p l e R s m args below meth c H locs cells slots Q (F0 m pc ls (.int b :: .int a :: rest)) := by
  intro T hT X
  obtain ⟨t, st, q⟩ := k T hT X
  exact ⟨t, X.iremZero hexec (g := F0 m pc ls (.int b :: .int a :: rest)) rfl (a := a) (rest := rest) (by rw [h0]) (by rw [hb]; exact d) t st, q⟩
theorem vx_ldivZ (hexec : p.tables.exec = Jvm.exec) (hb : c.code = cc) {a b : Int64} (h0 : b = 0) (d : decode cc pc = .ok (.ldiv, 1)) (k : vx_Note p l e R s m args below meth c H locs cells slots Q (F0 m pc ls rest) "java/lang/ArithmeticException" "/ by zero") :
    W p l e R s m args below meth c H locs cells slots Q (F0 m pc ls (.long b :: .long a :: rest)) := by
  intro T hT X
  obtain ⟨t, st, q⟩ := k T hT X
  exact ⟨t, X.ldivZero hexec (g := F0 m pc ls (.long b :: .long a :: rest)) rfl (a := a) (rest := rest) (by rw [h0]) (by rw [hb]; exact d) t st, q⟩
theorem vx_lremZ (hexec : p.tables.exec = Jvm.exec) (hb : c.code = cc) {a b : Int64} (h0 : b = 0) (d : decode cc pc = .ok (.lrem, 1)) (k : vx_Note p l e R s m args below meth c H locs cells slots Q (F0 m pc ls rest) "java/lang/ArithmeticException" "/ by zero") :
    W p l e R s m args below meth c H locs cells slots Q (F0 m pc ls (.long b :: .long a :: rest)) := by
  intro T hT X
  obtain ⟨t, st, q⟩ := k T hT X
  exact ⟨t, X.lremZero hexec (g := F0 m pc ls (.long b :: .long a :: rest)) rfl (a := a) (rest := rest) (by rw [h0]) (by rw [hb]; exact d) t st, q⟩
theorem vx_ialdZ {D : va_G} {cl : List vw_C} {ws : va_W} {tys : List (ClassId × FieldType)} {a : Nat} (hexec : p.tables.exec = Jvm.exec) (hb : c.code = cc) (hK : va_K D cl tys s) (hP : va_P D cl ws H) (q0 t0 : Nat) {cA : ClassId} {n : Nat} {f : Nat → Int32} (ha : ws[q0]? = some (a, .inl (cA, n, .inl f))) (ht : tys[t0]? = some (cA, .int)) {i : Int32} (hout : ¬ vp_in i n) (hdg : decode cc pc = .ok (.iaload, 1))
    (k : ∀ tx : String, tx = (toString "Index " ++ toString i ++ toString " out of bounds for length " ++ toString n : String) → vx_Note p l e R s m args below meth c H locs cells slots Q (F0 m pc ls rest) "java/lang/ArrayIndexOutOfBoundsException" tx) : W p l e R s m args below meth c H locs cells slots Q (F0 m pc ls (.int i :: .ref a :: rest)) := by
  intro T hT X
  obtain ⟨t, st, q⟩ := k _ rfl T hT X
  refine ⟨t, ?_, q⟩
  have h1 := X.ialoadOut hexec (by rw [hT]; exact hP q0 _ ha) ((hK.2 t0 _ ht).1 n (fun j => .int (f j))) (j := i) (by show (i < 0 ∨ (arrV _ _ _).slots.size ≤ _); rw [arrV_size]; exact Classical.byContradiction hout) (g := F0 m pc ls (.int i :: .ref a :: rest)) rfl (rest := rest) rfl (by rw [hb]; exact hdg) t
  simp only [arrV_size] at h1
  exact h1 st
theorem vx_iastZ {D : va_G} {cl : List vw_C} {ws : va_W} {tys : List (ClassId × FieldType)} {a : Nat} (hexec : p.tables.exec = Jvm.exec) (hb : c.code = cc) (hK : va_K D cl tys s) (hP : va_P D cl ws H) (q0 t0 : Nat) {cA : ClassId} {n : Nat} {f : Nat → Int32} (ha : ws[q0]? = some (a, .inl (cA, n, .inl f))) (ht : tys[t0]? = some (cA, .int)) {i : Int32} {x : Int32} (hout : ¬ vp_in i n) (hdg : decode cc pc = .ok (.iastore, 1))
    (k : ∀ tx : String, tx = (toString "Index " ++ toString i ++ toString " out of bounds for length " ++ toString n : String) → vx_Note p l e R s m args below meth c H locs cells slots Q (F0 m pc ls rest) "java/lang/ArrayIndexOutOfBoundsException" tx) : W p l e R s m args below meth c H locs cells slots Q (F0 m pc ls (.int x :: .int i :: .ref a :: rest)) := by
  intro T hT X
  obtain ⟨t, st, q⟩ := k _ rfl T hT X
  refine ⟨t, ?_, q⟩
  have h1 := X.iastoreOut hexec (by rw [hT]; exact hP q0 _ ha) ((hK.2 t0 _ ht).1 n (fun j => .int (f j))) (j := i) (by show (i < 0 ∨ (arrV _ _ _).slots.size ≤ _); rw [arrV_size]; exact Classical.byContradiction hout) (g := F0 m pc ls (.int x :: .int i :: .ref a :: rest)) rfl (rest := rest) rfl (by rw [hb]; exact hdg) t
  simp only [arrV_size] at h1
  exact h1 st
theorem vx_baldZ {D : va_G} {cl : List vw_C} {ws : va_W} {tys : List (ClassId × FieldType)} {a : Nat} (hexec : p.tables.exec = Jvm.exec) (hb : c.code = cc) (hK : va_K D cl tys s) (hP : va_P D cl ws H) (q0 t0 : Nat) {cA : ClassId} {n : Nat} {f : Nat → Int32} (ha : ws[q0]? = some (a, .inl (cA, n, .inl f))) (ht : tys[t0]? = some (cA, .byte)) {i : Int32} (hout : ¬ vp_in i n) (hdg : decode cc pc = .ok (.baload, 1))
    (k : ∀ tx : String, tx = (toString "Index " ++ toString i ++ toString " out of bounds for length " ++ toString n : String) → vx_Note p l e R s m args below meth c H locs cells slots Q (F0 m pc ls rest) "java/lang/ArrayIndexOutOfBoundsException" tx) : W p l e R s m args below meth c H locs cells slots Q (F0 m pc ls (.int i :: .ref a :: rest)) := by
  intro T hT X
  obtain ⟨t, st, q⟩ := k _ rfl T hT X
  refine ⟨t, ?_, q⟩
  have h1 := X.baloadOut hexec (by rw [hT]; exact hP q0 _ ha) ((hK.2 t0 _ ht).1 n (fun j => .int (f j))) (j := i) (by show (i < 0 ∨ (arrV _ _ _).slots.size ≤ _); rw [arrV_size]; exact Classical.byContradiction hout) (g := F0 m pc ls (.int i :: .ref a :: rest)) rfl (rest := rest) rfl (by rw [hb]; exact hdg) t
  simp only [arrV_size] at h1
  exact h1 st
theorem vx_bastZ {D : va_G} {cl : List vw_C} {ws : va_W} {tys : List (ClassId × FieldType)} {a : Nat} (hexec : p.tables.exec = Jvm.exec) (hb : c.code = cc) (hK : va_K D cl tys s) (hP : va_P D cl ws H) (q0 t0 : Nat) {cA : ClassId} {n : Nat} {f : Nat → Int32} (ha : ws[q0]? = some (a, .inl (cA, n, .inl f))) (ht : tys[t0]? = some (cA, .byte)) {i : Int32} {x : Int32} (hout : ¬ vp_in i n) (hdg : decode cc pc = .ok (.bastore, 1))
    (k : ∀ tx : String, tx = (toString "Index " ++ toString i ++ toString " out of bounds for length " ++ toString n : String) → vx_Note p l e R s m args below meth c H locs cells slots Q (F0 m pc ls rest) "java/lang/ArrayIndexOutOfBoundsException" tx) : W p l e R s m args below meth c H locs cells slots Q (F0 m pc ls (.int x :: .int i :: .ref a :: rest)) := by
  intro T hT X
  obtain ⟨t, st, q⟩ := k _ rfl T hT X
  refine ⟨t, ?_, q⟩
  have h1 := X.bastoreOut hexec (by rw [hT]; exact hP q0 _ ha) ((hK.2 t0 _ ht).1 n (fun j => .int (f j))) (j := i) (by show (i < 0 ∨ (arrV _ _ _).slots.size ≤ _); rw [arrV_size]; exact Classical.byContradiction hout) (g := F0 m pc ls (.int x :: .int i :: .ref a :: rest)) rfl (rest := rest) rfl (by rw [hb]; exact hdg) t
  simp only [arrV_size] at h1
  exact h1 st
theorem vx_zaldZ {D : va_G} {cl : List vw_C} {ws : va_W} {tys : List (ClassId × FieldType)} {a : Nat} (hexec : p.tables.exec = Jvm.exec) (hb : c.code = cc) (hK : va_K D cl tys s) (hP : va_P D cl ws H) (q0 t0 : Nat) {cA : ClassId} {n : Nat} {f : Nat → Int32} (ha : ws[q0]? = some (a, .inl (cA, n, .inl f))) (ht : tys[t0]? = some (cA, .boolean)) {i : Int32} (hout : ¬ vp_in i n) (hdg : decode cc pc = .ok (.baload, 1))
    (k : ∀ tx : String, tx = (toString "Index " ++ toString i ++ toString " out of bounds for length " ++ toString n : String) → vx_Note p l e R s m args below meth c H locs cells slots Q (F0 m pc ls rest) "java/lang/ArrayIndexOutOfBoundsException" tx) : W p l e R s m args below meth c H locs cells slots Q (F0 m pc ls (.int i :: .ref a :: rest)) := by
  intro T hT X
  obtain ⟨t, st, q⟩ := k _ rfl T hT X
  refine ⟨t, ?_, q⟩
  have h1 := X.baloadOut hexec (by rw [hT]; exact hP q0 _ ha) ((hK.2 t0 _ ht).1 n (fun j => .int (f j))) (j := i) (by show (i < 0 ∨ (arrV _ _ _).slots.size ≤ _); rw [arrV_size]; exact Classical.byContradiction hout) (g := F0 m pc ls (.int i :: .ref a :: rest)) rfl (rest := rest) rfl (by rw [hb]; exact hdg) t
  simp only [arrV_size] at h1
  exact h1 st
theorem vx_zastZ {D : va_G} {cl : List vw_C} {ws : va_W} {tys : List (ClassId × FieldType)} {a : Nat} (hexec : p.tables.exec = Jvm.exec) (hb : c.code = cc) (hK : va_K D cl tys s) (hP : va_P D cl ws H) (q0 t0 : Nat) {cA : ClassId} {n : Nat} {f : Nat → Int32} (ha : ws[q0]? = some (a, .inl (cA, n, .inl f))) (ht : tys[t0]? = some (cA, .boolean)) {i : Int32} {x : Int32} (hout : ¬ vp_in i n) (hdg : decode cc pc = .ok (.bastore, 1))
    (k : ∀ tx : String, tx = (toString "Index " ++ toString i ++ toString " out of bounds for length " ++ toString n : String) → vx_Note p l e R s m args below meth c H locs cells slots Q (F0 m pc ls rest) "java/lang/ArrayIndexOutOfBoundsException" tx) : W p l e R s m args below meth c H locs cells slots Q (F0 m pc ls (.int x :: .int i :: .ref a :: rest)) := by
  intro T hT X
  obtain ⟨t, st, q⟩ := k _ rfl T hT X
  refine ⟨t, ?_, q⟩
  have h1 := X.bastoreOut hexec (by rw [hT]; exact hP q0 _ ha) ((hK.2 t0 _ ht).1 n (fun j => .int (f j))) (j := i) (by show (i < 0 ∨ (arrV _ _ _).slots.size ≤ _); rw [arrV_size]; exact Classical.byContradiction hout) (g := F0 m pc ls (.int x :: .int i :: .ref a :: rest)) rfl (rest := rest) rfl (by rw [hb]; exact hdg) t
  simp only [arrV_size] at h1
  exact h1 st
theorem vx_caldZ {D : va_G} {cl : List vw_C} {ws : va_W} {tys : List (ClassId × FieldType)} {a : Nat} (hexec : p.tables.exec = Jvm.exec) (hb : c.code = cc) (hK : va_K D cl tys s) (hP : va_P D cl ws H) (q0 t0 : Nat) {cA : ClassId} {n : Nat} {f : Nat → Int32} (ha : ws[q0]? = some (a, .inl (cA, n, .inl f))) (ht : tys[t0]? = some (cA, .char)) {i : Int32} (hout : ¬ vp_in i n) (hdg : decode cc pc = .ok (.caload, 1))
    (k : ∀ tx : String, tx = (toString "Index " ++ toString i ++ toString " out of bounds for length " ++ toString n : String) → vx_Note p l e R s m args below meth c H locs cells slots Q (F0 m pc ls rest) "java/lang/ArrayIndexOutOfBoundsException" tx) : W p l e R s m args below meth c H locs cells slots Q (F0 m pc ls (.int i :: .ref a :: rest)) := by
  intro T hT X
  obtain ⟨t, st, q⟩ := k _ rfl T hT X
  refine ⟨t, ?_, q⟩
  have h1 := X.caloadOut hexec (by rw [hT]; exact hP q0 _ ha) ((hK.2 t0 _ ht).1 n (fun j => .int (f j))) (j := i) (by show (i < 0 ∨ (arrV _ _ _).slots.size ≤ _); rw [arrV_size]; exact Classical.byContradiction hout) (g := F0 m pc ls (.int i :: .ref a :: rest)) rfl (rest := rest) rfl (by rw [hb]; exact hdg) t
  simp only [arrV_size] at h1
  exact h1 st
theorem vx_castZ {D : va_G} {cl : List vw_C} {ws : va_W} {tys : List (ClassId × FieldType)} {a : Nat} (hexec : p.tables.exec = Jvm.exec) (hb : c.code = cc) (hK : va_K D cl tys s) (hP : va_P D cl ws H) (q0 t0 : Nat) {cA : ClassId} {n : Nat} {f : Nat → Int32} (ha : ws[q0]? = some (a, .inl (cA, n, .inl f))) (ht : tys[t0]? = some (cA, .char)) {i : Int32} {x : Int32} (hout : ¬ vp_in i n) (hdg : decode cc pc = .ok (.castore, 1))
    (k : ∀ tx : String, tx = (toString "Index " ++ toString i ++ toString " out of bounds for length " ++ toString n : String) → vx_Note p l e R s m args below meth c H locs cells slots Q (F0 m pc ls rest) "java/lang/ArrayIndexOutOfBoundsException" tx) : W p l e R s m args below meth c H locs cells slots Q (F0 m pc ls (.int x :: .int i :: .ref a :: rest)) := by
  intro T hT X
  obtain ⟨t, st, q⟩ := k _ rfl T hT X
  refine ⟨t, ?_, q⟩
  have h1 := X.castoreOut hexec (by rw [hT]; exact hP q0 _ ha) ((hK.2 t0 _ ht).1 n (fun j => .int (f j))) (j := i) (by show (i < 0 ∨ (arrV _ _ _).slots.size ≤ _); rw [arrV_size]; exact Classical.byContradiction hout) (g := F0 m pc ls (.int x :: .int i :: .ref a :: rest)) rfl (rest := rest) rfl (by rw [hb]; exact hdg) t
  simp only [arrV_size] at h1
  exact h1 st
theorem vx_saldZ {D : va_G} {cl : List vw_C} {ws : va_W} {tys : List (ClassId × FieldType)} {a : Nat} (hexec : p.tables.exec = Jvm.exec) (hb : c.code = cc) (hK : va_K D cl tys s) (hP : va_P D cl ws H) (q0 t0 : Nat) {cA : ClassId} {n : Nat} {f : Nat → Int32} (ha : ws[q0]? = some (a, .inl (cA, n, .inl f))) (ht : tys[t0]? = some (cA, .short)) {i : Int32} (hout : ¬ vp_in i n) (hdg : decode cc pc = .ok (.saload, 1))
    (k : ∀ tx : String, tx = (toString "Index " ++ toString i ++ toString " out of bounds for length " ++ toString n : String) → vx_Note p l e R s m args below meth c H locs cells slots Q (F0 m pc ls rest) "java/lang/ArrayIndexOutOfBoundsException" tx) : W p l e R s m args below meth c H locs cells slots Q (F0 m pc ls (.int i :: .ref a :: rest)) := by
  intro T hT X
  obtain ⟨t, st, q⟩ := k _ rfl T hT X
  refine ⟨t, ?_, q⟩
  have h1 := X.saloadOut hexec (by rw [hT]; exact hP q0 _ ha) ((hK.2 t0 _ ht).1 n (fun j => .int (f j))) (j := i) (by show (i < 0 ∨ (arrV _ _ _).slots.size ≤ _); rw [arrV_size]; exact Classical.byContradiction hout) (g := F0 m pc ls (.int i :: .ref a :: rest)) rfl (rest := rest) rfl (by rw [hb]; exact hdg) t
  simp only [arrV_size] at h1
  exact h1 st
theorem vx_sastZ {D : va_G} {cl : List vw_C} {ws : va_W} {tys : List (ClassId × FieldType)} {a : Nat} (hexec : p.tables.exec = Jvm.exec) (hb : c.code = cc) (hK : va_K D cl tys s) (hP : va_P D cl ws H) (q0 t0 : Nat) {cA : ClassId} {n : Nat} {f : Nat → Int32} (ha : ws[q0]? = some (a, .inl (cA, n, .inl f))) (ht : tys[t0]? = some (cA, .short)) {i : Int32} {x : Int32} (hout : ¬ vp_in i n) (hdg : decode cc pc = .ok (.sastore, 1))
    (k : ∀ tx : String, tx = (toString "Index " ++ toString i ++ toString " out of bounds for length " ++ toString n : String) → vx_Note p l e R s m args below meth c H locs cells slots Q (F0 m pc ls rest) "java/lang/ArrayIndexOutOfBoundsException" tx) : W p l e R s m args below meth c H locs cells slots Q (F0 m pc ls (.int x :: .int i :: .ref a :: rest)) := by
  intro T hT X
  obtain ⟨t, st, q⟩ := k _ rfl T hT X
  refine ⟨t, ?_, q⟩
  have h1 := X.sastoreOut hexec (by rw [hT]; exact hP q0 _ ha) ((hK.2 t0 _ ht).1 n (fun j => .int (f j))) (j := i) (by show (i < 0 ∨ (arrV _ _ _).slots.size ≤ _); rw [arrV_size]; exact Classical.byContradiction hout) (g := F0 m pc ls (.int x :: .int i :: .ref a :: rest)) rfl (rest := rest) rfl (by rw [hb]; exact hdg) t
  simp only [arrV_size] at h1
  exact h1 st
theorem vx_laldZ {D : va_G} {cl : List vw_C} {ws : va_W} {tys : List (ClassId × FieldType)} {a : Nat} (hexec : p.tables.exec = Jvm.exec) (hb : c.code = cc) (hK : va_K D cl tys s) (hP : va_P D cl ws H) (q0 t0 : Nat) {cA : ClassId} {n : Nat} {f : Nat → Int64} (ha : ws[q0]? = some (a, .inl (cA, n, .inr (.inl f)))) (ht : tys[t0]? = some (cA, .long)) {i : Int32} (hout : ¬ vp_in i n) (hdg : decode cc pc = .ok (.laload, 1))
    (k : ∀ tx : String, tx = (toString "Index " ++ toString i ++ toString " out of bounds for length " ++ toString n : String) → vx_Note p l e R s m args below meth c H locs cells slots Q (F0 m pc ls rest) "java/lang/ArrayIndexOutOfBoundsException" tx) : W p l e R s m args below meth c H locs cells slots Q (F0 m pc ls (.int i :: .ref a :: rest)) := by
  intro T hT X
  obtain ⟨t, st, q⟩ := k _ rfl T hT X
  refine ⟨t, ?_, q⟩
  have h1 := X.laloadOut hexec (by rw [hT]; exact hP q0 _ ha) ((hK.2 t0 _ ht).1 n (fun j => .long (f j))) (j := i) (by show (i < 0 ∨ (arrV _ _ _).slots.size ≤ _); rw [arrV_size]; exact Classical.byContradiction hout) (g := F0 m pc ls (.int i :: .ref a :: rest)) rfl (rest := rest) rfl (by rw [hb]; exact hdg) t
  simp only [arrV_size] at h1
  exact h1 st
theorem vx_lastZ {D : va_G} {cl : List vw_C} {ws : va_W} {tys : List (ClassId × FieldType)} {a : Nat} (hexec : p.tables.exec = Jvm.exec) (hb : c.code = cc) (hK : va_K D cl tys s) (hP : va_P D cl ws H) (q0 t0 : Nat) {cA : ClassId} {n : Nat} {f : Nat → Int64} (ha : ws[q0]? = some (a, .inl (cA, n, .inr (.inl f)))) (ht : tys[t0]? = some (cA, .long)) {i : Int32} {x : Int64} (hout : ¬ vp_in i n) (hdg : decode cc pc = .ok (.lastore, 1))
    (k : ∀ tx : String, tx = (toString "Index " ++ toString i ++ toString " out of bounds for length " ++ toString n : String) → vx_Note p l e R s m args below meth c H locs cells slots Q (F0 m pc ls rest) "java/lang/ArrayIndexOutOfBoundsException" tx) : W p l e R s m args below meth c H locs cells slots Q (F0 m pc ls (.long x :: .int i :: .ref a :: rest)) := by
  intro T hT X
  obtain ⟨t, st, q⟩ := k _ rfl T hT X
  refine ⟨t, ?_, q⟩
  have h1 := X.lastoreOut hexec (by rw [hT]; exact hP q0 _ ha) ((hK.2 t0 _ ht).1 n (fun j => .long (f j))) (j := i) (by show (i < 0 ∨ (arrV _ _ _).slots.size ≤ _); rw [arrV_size]; exact Classical.byContradiction hout) (g := F0 m pc ls (.long x :: .int i :: .ref a :: rest)) rfl (rest := rest) rfl (by rw [hb]; exact hdg) t
  simp only [arrV_size] at h1
  exact h1 st
theorem vx_faldZ {D : va_G} {cl : List vw_C} {ws : va_W} {tys : List (ClassId × FieldType)} {a : Nat} (hexec : p.tables.exec = Jvm.exec) (hb : c.code = cc) (hK : va_K D cl tys s) (hP : va_P D cl ws H) (q0 t0 : Nat) {cA : ClassId} {n : Nat} {f : Nat → UInt32} (ha : ws[q0]? = some (a, .inl (cA, n, .inr (.inr (.inl f))))) (ht : tys[t0]? = some (cA, .float)) {i : Int32} (hout : ¬ vp_in i n) (hdg : decode cc pc = .ok (.faload, 1))
    (k : ∀ tx : String, tx = (toString "Index " ++ toString i ++ toString " out of bounds for length " ++ toString n : String) → vx_Note p l e R s m args below meth c H locs cells slots Q (F0 m pc ls rest) "java/lang/ArrayIndexOutOfBoundsException" tx) : W p l e R s m args below meth c H locs cells slots Q (F0 m pc ls (.int i :: .ref a :: rest)) := by
  intro T hT X
  obtain ⟨t, st, q⟩ := k _ rfl T hT X
  refine ⟨t, ?_, q⟩
  have h1 := X.faloadOut hexec (by rw [hT]; exact hP q0 _ ha) ((hK.2 t0 _ ht).1 n (fun j => .float (f j))) (j := i) (by show (i < 0 ∨ (arrV _ _ _).slots.size ≤ _); rw [arrV_size]; exact Classical.byContradiction hout) (g := F0 m pc ls (.int i :: .ref a :: rest)) rfl (rest := rest) rfl (by rw [hb]; exact hdg) t
  simp only [arrV_size] at h1
  exact h1 st
theorem vx_fastZ {D : va_G} {cl : List vw_C} {ws : va_W} {tys : List (ClassId × FieldType)} {a : Nat} (hexec : p.tables.exec = Jvm.exec) (hb : c.code = cc) (hK : va_K D cl tys s) (hP : va_P D cl ws H) (q0 t0 : Nat) {cA : ClassId} {n : Nat} {f : Nat → UInt32} (ha : ws[q0]? = some (a, .inl (cA, n, .inr (.inr (.inl f))))) (ht : tys[t0]? = some (cA, .float)) {i : Int32} {x : UInt32} (hout : ¬ vp_in i n) (hdg : decode cc pc = .ok (.fastore, 1))
    (k : ∀ tx : String, tx = (toString "Index " ++ toString i ++ toString " out of bounds for length " ++ toString n : String) → vx_Note p l e R s m args below meth c H locs cells slots Q (F0 m pc ls rest) "java/lang/ArrayIndexOutOfBoundsException" tx) : W p l e R s m args below meth c H locs cells slots Q (F0 m pc ls (.float x :: .int i :: .ref a :: rest)) := by
  intro T hT X
  obtain ⟨t, st, q⟩ := k _ rfl T hT X
  refine ⟨t, ?_, q⟩
  have h1 := X.fastoreOut hexec (by rw [hT]; exact hP q0 _ ha) ((hK.2 t0 _ ht).1 n (fun j => .float (f j))) (j := i) (by show (i < 0 ∨ (arrV _ _ _).slots.size ≤ _); rw [arrV_size]; exact Classical.byContradiction hout) (g := F0 m pc ls (.float x :: .int i :: .ref a :: rest)) rfl (rest := rest) rfl (by rw [hb]; exact hdg) t
  simp only [arrV_size] at h1
  exact h1 st
theorem vx_daldZ {D : va_G} {cl : List vw_C} {ws : va_W} {tys : List (ClassId × FieldType)} {a : Nat} (hexec : p.tables.exec = Jvm.exec) (hb : c.code = cc) (hK : va_K D cl tys s) (hP : va_P D cl ws H) (q0 t0 : Nat) {cA : ClassId} {n : Nat} {f : Nat → UInt64} (ha : ws[q0]? = some (a, .inl (cA, n, .inr (.inr (.inr (.inl f)))))) (ht : tys[t0]? = some (cA, .double)) {i : Int32} (hout : ¬ vp_in i n) (hdg : decode cc pc = .ok (.daload, 1))
    (k : ∀ tx : String, tx = (toString "Index " ++ toString i ++ toString " out of bounds for length " ++ toString n : String) → vx_Note p l e R s m args below meth c H locs cells slots Q (F0 m pc ls rest) "java/lang/ArrayIndexOutOfBoundsException" tx) : W p l e R s m args below meth c H locs cells slots Q (F0 m pc ls (.int i :: .ref a :: rest)) := by
  intro T hT X
  obtain ⟨t, st, q⟩ := k _ rfl T hT X
  refine ⟨t, ?_, q⟩
  have h1 := X.daloadOut hexec (by rw [hT]; exact hP q0 _ ha) ((hK.2 t0 _ ht).1 n (fun j => .double (f j))) (j := i) (by show (i < 0 ∨ (arrV _ _ _).slots.size ≤ _); rw [arrV_size]; exact Classical.byContradiction hout) (g := F0 m pc ls (.int i :: .ref a :: rest)) rfl (rest := rest) rfl (by rw [hb]; exact hdg) t
  simp only [arrV_size] at h1
  exact h1 st
theorem vx_dastZ {D : va_G} {cl : List vw_C} {ws : va_W} {tys : List (ClassId × FieldType)} {a : Nat} (hexec : p.tables.exec = Jvm.exec) (hb : c.code = cc) (hK : va_K D cl tys s) (hP : va_P D cl ws H) (q0 t0 : Nat) {cA : ClassId} {n : Nat} {f : Nat → UInt64} (ha : ws[q0]? = some (a, .inl (cA, n, .inr (.inr (.inr (.inl f)))))) (ht : tys[t0]? = some (cA, .double)) {i : Int32} {x : UInt64} (hout : ¬ vp_in i n) (hdg : decode cc pc = .ok (.dastore, 1))
    (k : ∀ tx : String, tx = (toString "Index " ++ toString i ++ toString " out of bounds for length " ++ toString n : String) → vx_Note p l e R s m args below meth c H locs cells slots Q (F0 m pc ls rest) "java/lang/ArrayIndexOutOfBoundsException" tx) : W p l e R s m args below meth c H locs cells slots Q (F0 m pc ls (.double x :: .int i :: .ref a :: rest)) := by
  intro T hT X
  obtain ⟨t, st, q⟩ := k _ rfl T hT X
  refine ⟨t, ?_, q⟩
  have h1 := X.dastoreOut hexec (by rw [hT]; exact hP q0 _ ha) ((hK.2 t0 _ ht).1 n (fun j => .double (f j))) (j := i) (by show (i < 0 ∨ (arrV _ _ _).slots.size ≤ _); rw [arrV_size]; exact Classical.byContradiction hout) (g := F0 m pc ls (.double x :: .int i :: .ref a :: rest)) rfl (rest := rest) rfl (by rw [hb]; exact hdg) t
  simp only [arrV_size] at h1
  exact h1 st
theorem vx_arraylengthN (hexec : p.tables.exec = Jvm.exec) (hb : c.code = cc) (hdg : decode cc pc = .ok (.arraylength, 1)) (k : vx_NoteN p l e R s m args below meth c H locs cells slots Q (F0 m pc ls rest)) : W p l e R s m args below meth c H locs cells slots Q (F0 m pc ls (.null :: rest)) := by
  intro T hT X
  obtain ⟨t, st, q⟩ := k T hT X
  exact ⟨t, X.arraylengthNull hexec (g := F0 m pc ls (.null :: rest)) rfl (rest := rest) rfl (by rw [hb]; exact hdg) t st, q⟩
theorem vx_ialoadN (hexec : p.tables.exec = Jvm.exec) (hb : c.code = cc) {i : Int32} (hdg : decode cc pc = .ok (.iaload, 1)) (k : vx_NoteN p l e R s m args below meth c H locs cells slots Q (F0 m pc ls rest)) : W p l e R s m args below meth c H locs cells slots Q (F0 m pc ls (.int i :: .null :: rest)) := by
  intro T hT X
  obtain ⟨t, st, q⟩ := k T hT X
  exact ⟨t, X.ialoadNull hexec (g := F0 m pc ls (.int i :: .null :: rest)) rfl (rest := rest) rfl (by rw [hb]; exact hdg) t st, q⟩
theorem vx_laloadN (hexec : p.tables.exec = Jvm.exec) (hb : c.code = cc) {i : Int32} (hdg : decode cc pc = .ok (.laload, 1)) (k : vx_NoteN p l e R s m args below meth c H locs cells slots Q (F0 m pc ls rest)) : W p l e R s m args below meth c H locs cells slots Q (F0 m pc ls (.int i :: .null :: rest)) := by
  intro T hT X
  obtain ⟨t, st, q⟩ := k T hT X
  exact ⟨t, X.laloadNull hexec (g := F0 m pc ls (.int i :: .null :: rest)) rfl (rest := rest) rfl (by rw [hb]; exact hdg) t st, q⟩
theorem vx_faloadN (hexec : p.tables.exec = Jvm.exec) (hb : c.code = cc) {i : Int32} (hdg : decode cc pc = .ok (.faload, 1)) (k : vx_NoteN p l e R s m args below meth c H locs cells slots Q (F0 m pc ls rest)) : W p l e R s m args below meth c H locs cells slots Q (F0 m pc ls (.int i :: .null :: rest)) := by
  intro T hT X
  obtain ⟨t, st, q⟩ := k T hT X
  exact ⟨t, X.faloadNull hexec (g := F0 m pc ls (.int i :: .null :: rest)) rfl (rest := rest) rfl (by rw [hb]; exact hdg) t st, q⟩
theorem vx_daloadN (hexec : p.tables.exec = Jvm.exec) (hb : c.code = cc) {i : Int32} (hdg : decode cc pc = .ok (.daload, 1)) (k : vx_NoteN p l e R s m args below meth c H locs cells slots Q (F0 m pc ls rest)) : W p l e R s m args below meth c H locs cells slots Q (F0 m pc ls (.int i :: .null :: rest)) := by
  intro T hT X
  obtain ⟨t, st, q⟩ := k T hT X
  exact ⟨t, X.daloadNull hexec (g := F0 m pc ls (.int i :: .null :: rest)) rfl (rest := rest) rfl (by rw [hb]; exact hdg) t st, q⟩
theorem vx_aaloadN (hexec : p.tables.exec = Jvm.exec) (hb : c.code = cc) {i : Int32} (hdg : decode cc pc = .ok (.aaload, 1)) (k : vx_NoteN p l e R s m args below meth c H locs cells slots Q (F0 m pc ls rest)) : W p l e R s m args below meth c H locs cells slots Q (F0 m pc ls (.int i :: .null :: rest)) := by
  intro T hT X
  obtain ⟨t, st, q⟩ := k T hT X
  exact ⟨t, X.aaloadNull hexec (g := F0 m pc ls (.int i :: .null :: rest)) rfl (rest := rest) rfl (by rw [hb]; exact hdg) t st, q⟩
theorem vx_baloadN (hexec : p.tables.exec = Jvm.exec) (hb : c.code = cc) {i : Int32} (hdg : decode cc pc = .ok (.baload, 1)) (k : vx_NoteN p l e R s m args below meth c H locs cells slots Q (F0 m pc ls rest)) : W p l e R s m args below meth c H locs cells slots Q (F0 m pc ls (.int i :: .null :: rest)) := by
  intro T hT X
  obtain ⟨t, st, q⟩ := k T hT X
  exact ⟨t, X.baloadNull hexec (g := F0 m pc ls (.int i :: .null :: rest)) rfl (rest := rest) rfl (by rw [hb]; exact hdg) t st, q⟩
theorem vx_caloadN (hexec : p.tables.exec = Jvm.exec) (hb : c.code = cc) {i : Int32} (hdg : decode cc pc = .ok (.caload, 1)) (k : vx_NoteN p l e R s m args below meth c H locs cells slots Q (F0 m pc ls rest)) : W p l e R s m args below meth c H locs cells slots Q (F0 m pc ls (.int i :: .null :: rest)) := by
  intro T hT X
  obtain ⟨t, st, q⟩ := k T hT X
  exact ⟨t, X.caloadNull hexec (g := F0 m pc ls (.int i :: .null :: rest)) rfl (rest := rest) rfl (by rw [hb]; exact hdg) t st, q⟩
theorem vx_saloadN (hexec : p.tables.exec = Jvm.exec) (hb : c.code = cc) {i : Int32} (hdg : decode cc pc = .ok (.saload, 1)) (k : vx_NoteN p l e R s m args below meth c H locs cells slots Q (F0 m pc ls rest)) : W p l e R s m args below meth c H locs cells slots Q (F0 m pc ls (.int i :: .null :: rest)) := by
  intro T hT X
  obtain ⟨t, st, q⟩ := k T hT X
  exact ⟨t, X.saloadNull hexec (g := F0 m pc ls (.int i :: .null :: rest)) rfl (rest := rest) rfl (by rw [hb]; exact hdg) t st, q⟩
theorem vx_iastoreN (hexec : p.tables.exec = Jvm.exec) (hb : c.code = cc) {x : Int32} {i : Int32} (hdg : decode cc pc = .ok (.iastore, 1)) (k : vx_NoteN p l e R s m args below meth c H locs cells slots Q (F0 m pc ls rest)) : W p l e R s m args below meth c H locs cells slots Q (F0 m pc ls (.int x :: .int i :: .null :: rest)) := by
  intro T hT X
  obtain ⟨t, st, q⟩ := k T hT X
  exact ⟨t, X.iastoreNull hexec (g := F0 m pc ls (.int x :: .int i :: .null :: rest)) rfl (rest := rest) rfl (by rw [hb]; exact hdg) t st, q⟩
theorem vx_lastoreN (hexec : p.tables.exec = Jvm.exec) (hb : c.code = cc) {x : Int64} {i : Int32} (hdg : decode cc pc = .ok (.lastore, 1)) (k : vx_NoteN p l e R s m args below meth c H locs cells slots Q (F0 m pc ls rest)) : W p l e R s m args below meth c H locs cells slots Q (F0 m pc ls (.long x :: .int i :: .null :: rest)) := by
  intro T hT X
  obtain ⟨t, st, q⟩ := k T hT X
  exact ⟨t, X.lastoreNull hexec (g := F0 m pc ls (.long x :: .int i :: .null :: rest)) rfl (rest := rest) rfl (by rw [hb]; exact hdg) t st, q⟩
theorem vx_fastoreN (hexec : p.tables.exec = Jvm.exec) (hb : c.code = cc) {x : UInt32} {i : Int32} (hdg : decode cc pc = .ok (.fastore, 1)) (k : vx_NoteN p l e R s m args below meth c H locs cells slots Q (F0 m pc ls rest)) : W p l e R s m args below meth c H locs cells slots Q (F0 m pc ls (.float x :: .int i :: .null :: rest)) := by
  intro T hT X
  obtain ⟨t, st, q⟩ := k T hT X
  exact ⟨t, X.fastoreNull hexec (g := F0 m pc ls (.float x :: .int i :: .null :: rest)) rfl (rest := rest) rfl (by rw [hb]; exact hdg) t st, q⟩
theorem vx_dastoreN (hexec : p.tables.exec = Jvm.exec) (hb : c.code = cc) {x : UInt64} {i : Int32} (hdg : decode cc pc = .ok (.dastore, 1)) (k : vx_NoteN p l e R s m args below meth c H locs cells slots Q (F0 m pc ls rest)) : W p l e R s m args below meth c H locs cells slots Q (F0 m pc ls (.double x :: .int i :: .null :: rest)) := by
  intro T hT X
  obtain ⟨t, st, q⟩ := k T hT X
  exact ⟨t, X.dastoreNull hexec (g := F0 m pc ls (.double x :: .int i :: .null :: rest)) rfl (rest := rest) rfl (by rw [hb]; exact hdg) t st, q⟩
theorem vx_bastoreN (hexec : p.tables.exec = Jvm.exec) (hb : c.code = cc) {x : Int32} {i : Int32} (hdg : decode cc pc = .ok (.bastore, 1)) (k : vx_NoteN p l e R s m args below meth c H locs cells slots Q (F0 m pc ls rest)) : W p l e R s m args below meth c H locs cells slots Q (F0 m pc ls (.int x :: .int i :: .null :: rest)) := by
  intro T hT X
  obtain ⟨t, st, q⟩ := k T hT X
  exact ⟨t, X.bastoreNull hexec (g := F0 m pc ls (.int x :: .int i :: .null :: rest)) rfl (rest := rest) rfl (by rw [hb]; exact hdg) t st, q⟩
theorem vx_castoreN (hexec : p.tables.exec = Jvm.exec) (hb : c.code = cc) {x : Int32} {i : Int32} (hdg : decode cc pc = .ok (.castore, 1)) (k : vx_NoteN p l e R s m args below meth c H locs cells slots Q (F0 m pc ls rest)) : W p l e R s m args below meth c H locs cells slots Q (F0 m pc ls (.int x :: .int i :: .null :: rest)) := by
  intro T hT X
  obtain ⟨t, st, q⟩ := k T hT X
  exact ⟨t, X.castoreNull hexec (g := F0 m pc ls (.int x :: .int i :: .null :: rest)) rfl (rest := rest) rfl (by rw [hb]; exact hdg) t st, q⟩
theorem vx_sastoreN (hexec : p.tables.exec = Jvm.exec) (hb : c.code = cc) {x : Int32} {i : Int32} (hdg : decode cc pc = .ok (.sastore, 1)) (k : vx_NoteN p l e R s m args below meth c H locs cells slots Q (F0 m pc ls rest)) : W p l e R s m args below meth c H locs cells slots Q (F0 m pc ls (.int x :: .int i :: .null :: rest)) := by
  intro T hT X
  obtain ⟨t, st, q⟩ := k T hT X
  exact ⟨t, X.sastoreNull hexec (g := F0 m pc ls (.int x :: .int i :: .null :: rest)) rfl (rest := rest) rfl (by rw [hb]; exact hdg) t st, q⟩
theorem vx_invokeN {own C : String} {index maxL : Nat} {y : MethodName} {bytes : ByteArray} {ret : Option FieldType} (hexec : p.tables.exec = Jvm.exec) (hb : c.code = cc) (hown : s.vm.findClass own = some m.cls) (hlink : (Cond.methodLink own index y).before args s = true) (hinst : (Cond.instanceMethod y).before args s = true) (hcode : (Cond.code y bytes maxL ret).before args s = true) (hsel : (Cond.selects C y y).before args s = true)
    (hx : y.cls ≠ "java/lang/invoke/MethodHandle" ∧ y.cls ≠ "java/lang/invoke/VarHandle") {As : List Value} (hlen : (parseMethodDescriptor y.desc).map (fun d => d.parameters.length) = some As.length) (hdg : decode cc pc = .ok (.invokevirtual index, 3))
    (k : vx_NoteN p l e R s m args below meth c H locs cells slots Q (F0 m pc ls rest)) {st0 : List Value} (hst : st0 = As.reverse ++ .null :: rest) : W p l e R s m args below meth c H locs cells slots Q (F0 m pc ls st0) := by
  intro T hT X
  obtain ⟨r0, r, hn, hrm, hstR, hsigR⟩ := va_Decl.of hinst hcode
  obtain ⟨c2, r2, m2, q1, q2, q3, q4, kP, hkP, hkPi⟩ := Cond.selects_spec hsel
  cases hn.symm.trans q3
  have hl9 : As.length = r.sig.parameters.length := by
    rw [hsigR] at hlen
    exact (Option.some.inj hlen).symm
  obtain ⟨vm', X1, st1⟩ := X.invokevirtualNull hexec hown hlink hn hrm hstR hkP hkPi hx (g := F0 m pc ls st0) rfl (argsL := As) (rest := rest) hl9 hst (by rw [hb]; exact hdg)
  obtain ⟨t, st, q⟩ := k (T.setVm vm') hT X1
  exact ⟨t, st1 t st, q⟩
theorem vx_newarrayZ {atype : ArrayType} (hexec : p.tables.exec = Jvm.exec) (hb : c.code = cc) {n : Int32} (h0 : n < 0) (hdg : decode cc pc = .ok (.newarray atype, 2)) (k : ∀ tx : String, tx = toString n → vx_Note p l e R s m args below meth c H locs cells slots Q (F0 m pc ls rest) "java/lang/NegativeArraySizeException" tx) : W p l e R s m args below meth c H locs cells slots Q (F0 m pc ls (.int n :: rest)) := by
  intro T hT X
  obtain ⟨t, st, q⟩ := k _ rfl T hT X
  exact ⟨t, X.newarrayNegative hexec (g := F0 m pc ls (.int n :: rest)) rfl h0 (rest := rest) rfl (by rw [hb]; exact hdg) t st, q⟩
end
end VXM
/-! ===== END ===== -/
end
section
/-! ===== BEGIN printed: names, fields, word lists, decode rows ===== -/
def RX0 : String := "CostStudio$Approvals"
def TX0 : u_T := fun k => match k with
  | 0 => ("CostStudio$Approvals", "states", "[C", true)
  | 1 => ("CostStudio$Approvals", "keptNumbers", "[I", true)
  | _ => ("CostStudio$Approvals", "tolerances", "[I", true)
def tyX0 : Nat → FieldType := fun k => match k with
  | 0 => .array .char
  | 1 => .array .int
  | _ => .array .int
abbrev wsX00 : List Cond := u_ws RX0 TX0 3
theorem nmX0 : ∀ a, a < 3 → ∀ b, b < 3 → a ≠ b → (TX0 a).2.1 ≠ (TX0 b).2.1 := by decide +kernel
theorem tyX0_ok : ∀ k, k < 3 → parseFieldDescriptor (TX0 k).2.2.1 = some (tyX0 k) := by decide +kernel
abbrev cX0_init : ByteArray := prog_2_method_1_code
def yX0_init : MethodName := ⟨RX0, "<init>", "()V"⟩
abbrev cX0_keep : ByteArray := prog_2_method_2_code
def yX0_keep : MethodName := ⟨RX0, "keep", "(III)V"⟩
abbrev cX0_reopenIfDrifted : ByteArray := prog_2_method_3_code
def yX0_reopenIfDrifted : MethodName := ⟨RX0, "reopenIfDrifted", "(II)Z"⟩
abbrev cX0_isDrifted : ByteArray := prog_2_method_4_code
def yX0_isDrifted : MethodName := ⟨RX0, "isDrifted", "(II)Z"⟩
abbrev cX0_countIn : ByteArray := prog_2_method_5_code
def yX0_countIn : MethodName := ⟨RX0, "countIn", "(C)I"⟩
abbrev cX0_sumOfTolerances : ByteArray := prog_2_method_6_code
def yX0_sumOfTolerances : MethodName := ⟨RX0, "sumOfTolerances", "()I"⟩
def RX1 : String := "CostStudio$Lines"
def TX1 : u_T := fun k => match k with
  | 0 => ("CostStudio$Lines", "kinds", "[C", true)
  | 1 => ("CostStudio$Lines", "ones", "[I", true)
  | 2 => ("CostStudio$Lines", "others", "[I", true)
  | 3 => ("CostStudio$Lines", "actuals", "[I", true)
  | 4 => ("CostStudio$Lines", "needed", "[Z", true)
  | 5 => ("CostStudio$Lines", "numbers", "[I", true)
  | _ => ("CostStudio$Lines", "count", "I", false)
def tyX1 : Nat → FieldType := fun k => match k with
  | 0 => .array .char
  | 1 => .array .int
  | 2 => .array .int
  | 3 => .array .int
  | 4 => .array .boolean
  | 5 => .array .int
  | _ => .int
abbrev wsX10 : List Cond := u_ws RX1 TX1 7
theorem nmX1 : ∀ a, a < 7 → ∀ b, b < 7 → a ≠ b → (TX1 a).2.1 ≠ (TX1 b).2.1 := by decide +kernel
theorem tyX1_ok : ∀ k, k < 7 → parseFieldDescriptor (TX1 k).2.2.1 = some (tyX1 k) := by decide +kernel
abbrev cX1_init : ByteArray := prog_3_method_1_code
def yX1_init : MethodName := ⟨RX1, "<init>", "()V"⟩
abbrev cX1_add : ByteArray := prog_3_method_2_code
def yX1_add : MethodName := ⟨RX1, "add", "(CII)I"⟩
abbrev cX1_markNeeded : ByteArray := prog_3_method_3_code
def yX1_markNeeded : MethodName := ⟨RX1, "markNeeded", "(II)V"⟩
abbrev cX1_findNeeded : ByteArray := prog_3_method_4_code
def yX1_findNeeded : MethodName := ⟨RX1, "findNeeded", "(II[I)I"⟩
abbrev cX1_findAll : ByteArray := prog_3_method_5_code
def yX1_findAll : MethodName := ⟨RX1, "findAll", "(I[I)V"⟩
abbrev cX1_found : ByteArray := prog_3_method_6_code
def yX1_found : MethodName := ⟨RX1, "found", "(II[I)I"⟩
abbrev cX1_combined : ByteArray := prog_3_method_7_code
def yX1_combined : MethodName := ⟨RX1, "combined", "(CII)I"⟩
def RX2 : String := "CostStudio$Scenarios"
def TX2 : u_T := fun k => match k with
  | 0 => ("CostStudio$Scenarios", "parents", "[I", true)
  | 1 => ("CostStudio$Scenarios", "ownDifferences", "[I", true)
  | 2 => ("CostStudio$Scenarios", "added", "[I", true)
  | 3 => ("CostStudio$Scenarios", "count", "I", false)
  | _ => ("CostStudio$Scenarios", "differenceCount", "I", false)
def tyX2 : Nat → FieldType := fun k => match k with
  | 0 => .array .int
  | 1 => .array .int
  | 2 => .array .int
  | 3 => .int
  | _ => .int
abbrev wsX20 : List Cond := u_ws RX2 TX2 5
theorem nmX2 : ∀ a, a < 5 → ∀ b, b < 5 → a ≠ b → (TX2 a).2.1 ≠ (TX2 b).2.1 := by decide +kernel
theorem tyX2_ok : ∀ k, k < 5 → parseFieldDescriptor (TX2 k).2.2.1 = some (tyX2 k) := by decide +kernel
abbrev cX2_init : ByteArray := prog_4_method_1_code
def yX2_init : MethodName := ⟨RX2, "<init>", "()V"⟩
abbrev cX2_add : ByteArray := prog_4_method_2_code
def yX2_add : MethodName := ⟨RX2, "add", "(I)I"⟩
abbrev cX2_addDifference : ByteArray := prog_4_method_3_code
def yX2_addDifference : MethodName := ⟨RX2, "addDifference", "(IIII)I"⟩
abbrev cX2_addedTo : ByteArray := prog_4_method_4_code
def yX2_addedTo : MethodName := ⟨RX2, "addedTo", "(III)I"⟩
abbrev cX2_place : ByteArray := prog_4_method_5_code
def yX2_place : MethodName := ⟨RX2, "place", "(III)I"⟩
def RX3 : String := "CostStudio"
def TX3 : u_T := fun k => match k with
  | 0 => ("CostStudio", "driverValues", "[I", true)
  | 1 => ("CostStudio", "scenarios", "LCostStudio$Scenarios;", true)
  | 2 => ("CostStudio", "lines", "LCostStudio$Lines;", true)
  | 3 => ("CostStudio", "approvals", "LCostStudio$Approvals;", true)
  | 4 => ("CostStudio", "inputs", "[I", true)
  | 5 => ("CostStudio", "driverCount", "I", false)
  | _ => ("CostStudio", "presentMonth", "I", false)
def tyX3 : Nat → FieldType := fun k => match k with
  | 0 => .array .int
  | 1 => .object "CostStudio$Scenarios"
  | 2 => .object "CostStudio$Lines"
  | 3 => .object "CostStudio$Approvals"
  | 4 => .array .int
  | 5 => .int
  | _ => .int
abbrev wsX30 : List Cond := u_ws RX3 TX3 7
theorem nmX3 : ∀ a, a < 7 → ∀ b, b < 7 → a ≠ b → (TX3 a).2.1 ≠ (TX3 b).2.1 := by decide +kernel
theorem tyX3_ok : ∀ k, k < 7 → parseFieldDescriptor (TX3 k).2.2.1 = some (tyX3 k) := by decide +kernel
abbrev cX3_init : ByteArray := prog_1_method_1_code
def yX3_init : MethodName := ⟨RX3, "<init>", "()V"⟩
abbrev cX3_addDriver : ByteArray := prog_1_method_2_code
def yX3_addDriver : MethodName := ⟨RX3, "addDriver", "(I)I"⟩
abbrev cX3_setDriver : ByteArray := prog_1_method_3_code
def yX3_setDriver : MethodName := ⟨RX3, "setDriver", "(II)I"⟩
abbrev cX3_driver : ByteArray := prog_1_method_4_code
def yX3_driver : MethodName := ⟨RX3, "driver", "(III)I"⟩
abbrev cX3_addLine : ByteArray := prog_1_method_5_code
def yX3_addLine : MethodName := ⟨RX3, "addLine", "(CII)I"⟩
abbrev cX3_addScenario : ByteArray := prog_1_method_6_code
def yX3_addScenario : MethodName := ⟨RX3, "addScenario", "(I)I"⟩
abbrev cX3_differ : ByteArray := prog_1_method_7_code
def yX3_differ : MethodName := ⟨RX3, "differ", "(IIII)I"⟩
abbrev cX3_number : ByteArray := prog_1_method_8_code
def yX3_number : MethodName := ⟨RX3, "number", "(III)I"⟩
abbrev cX3_numberByHand : ByteArray := prog_1_method_9_code
def yX3_numberByHand : MethodName := ⟨RX3, "numberByHand", "(III)I"⟩
abbrev cX3_year : ByteArray := prog_1_method_10_code
def yX3_year : MethodName := ⟨RX3, "year", "(II)J"⟩
abbrev cX3_effect : ByteArray := prog_1_method_11_code
def yX3_effect : MethodName := ⟨RX3, "effect", "(IIII)I"⟩
abbrev cX3_seek : ByteArray := prog_1_method_12_code
def yX3_seek : MethodName := ⟨RX3, "seek", "(IIII)I"⟩
abbrev cX3_actual : ByteArray := prog_1_method_13_code
def yX3_actual : MethodName := ⟨RX3, "actual", "(III)I"⟩
abbrev cX3_takeActual : ByteArray := prog_1_method_14_code
def yX3_takeActual : MethodName := ⟨RX3, "takeActual", "(II)I"⟩
abbrev cX3_pass : ByteArray := prog_1_method_15_code
def yX3_pass : MethodName := ⟨RX3, "pass", "()I"⟩
abbrev cX3_month : ByteArray := prog_1_method_16_code
def yX3_month : MethodName := ⟨RX3, "month", "()I"⟩
abbrev cX3_approve : ByteArray := prog_1_method_17_code
def yX3_approve : MethodName := ⟨RX3, "approve", "(III)I"⟩
abbrev cX3_state : ByteArray := prog_1_method_18_code
def yX3_state : MethodName := ⟨RX3, "state", "(II)C"⟩
abbrev cX3_drift : ByteArray := prog_1_method_19_code
def yX3_drift : MethodName := ⟨RX3, "drift", "(II)I"⟩
abbrev cX3_open : ByteArray := prog_1_method_20_code
def yX3_open : MethodName := ⟨RX3, "open", "()I"⟩
abbrev cX3_approvedShare : ByteArray := prog_1_method_21_code
def yX3_approvedShare : MethodName := ⟨RX3, "approvedShare", "()F"⟩
abbrev cX3_meanTolerance : ByteArray := prog_1_method_22_code
def yX3_meanTolerance : MethodName := ⟨RX3, "meanTolerance", "()D"⟩
abbrev cX3_requireDriver : ByteArray := prog_1_method_23_code
def yX3_requireDriver : MethodName := ⟨RX3, "requireDriver", "(I)V"⟩
abbrev cX3_requireScenario : ByteArray := prog_1_method_24_code
def yX3_requireScenario : MethodName := ⟨RX3, "requireScenario", "(I)V"⟩
abbrev cX3_requireLine : ByteArray := prog_1_method_25_code
def yX3_requireLine : MethodName := ⟨RX3, "requireLine", "(I)V"⟩
abbrev cX3_requireMonth : ByteArray := prog_1_method_26_code
def yX3_requireMonth : MethodName := ⟨RX3, "requireMonth", "(I)V"⟩
abbrev cX3_requireDriverValue : ByteArray := prog_1_method_27_code
def yX3_requireDriverValue : MethodName := ⟨RX3, "requireDriverValue", "(I)V"⟩
abbrev cX3_required : ByteArray := prog_1_method_28_code
def yX3_required : MethodName := ⟨RX3, "required", "(I)I"⟩
abbrev cX3_cell : ByteArray := prog_1_method_29_code
def yX3_cell : MethodName := ⟨RX3, "cell", "(II)I"⟩
abbrev cX3_valueIn : ByteArray := prog_1_method_30_code
def yX3_valueIn : MethodName := ⟨RX3, "valueIn", "(III)I"⟩
abbrev cX3_fillInputs : ByteArray := prog_1_method_31_code
def yX3_fillInputs : MethodName := ⟨RX3, "fillInputs", "(III)V"⟩
abbrev cX3_numberIn : ByteArray := prog_1_method_32_code
def yX3_numberIn : MethodName := ⟨RX3, "numberIn", "(IIII)I"⟩
abbrev cX3_reopenDrifted : ByteArray := prog_1_method_33_code
def yX3_reopenDrifted : MethodName := ⟨RX3, "reopenDrifted", "()I"⟩
def RX4 : String := "CostStudioModel"
def TX4 : u_T := fun k => match k with
  | 0 => ("CostStudioModel", "values", "[I", true)
  | 1 => ("CostStudioModel", "kindsOf", "[I", true)
  | 2 => ("CostStudioModel", "ones", "[I", true)
  | 3 => ("CostStudioModel", "others", "[I", true)
  | 4 => ("CostStudioModel", "parents", "[I", true)
  | 5 => ("CostStudioModel", "scenarioOf", "[I", true)
  | 6 => ("CostStudioModel", "driverOf", "[I", true)
  | 7 => ("CostStudioModel", "fromOf", "[I", true)
  | 8 => ("CostStudioModel", "numberOf", "[I", true)
  | 9 => ("CostStudioModel", "actuals", "[I", true)
  | 10 => ("CostStudioModel", "kept", "[I", true)
  | 11 => ("CostStudioModel", "tolerances", "[I", true)
  | 12 => ("CostStudioModel", "hasActual", "[Z", true)
  | 13 => ("CostStudioModel", "isFound", "[Z", true)
  | 14 => ("CostStudioModel", "approvals", "[C", true)
  | 15 => ("CostStudioModel", "found", "[J", true)
  | 16 => ("CostStudioModel", "thrown", "I", false)
  | 17 => ("CostStudioModel", "drivers", "I", false)
  | 18 => ("CostStudioModel", "lines", "I", false)
  | 19 => ("CostStudioModel", "scenarios", "I", false)
  | 20 => ("CostStudioModel", "differences", "I", false)
  | _ => ("CostStudioModel", "month", "I", false)
def tyX4 : Nat → FieldType := fun k => match k with
  | 0 => .array .int
  | 1 => .array .int
  | 2 => .array .int
  | 3 => .array .int
  | 4 => .array .int
  | 5 => .array .int
  | 6 => .array .int
  | 7 => .array .int
  | 8 => .array .int
  | 9 => .array .int
  | 10 => .array .int
  | 11 => .array .int
  | 12 => .array .boolean
  | 13 => .array .boolean
  | 14 => .array .char
  | 15 => .array .long
  | 16 => .int
  | 17 => .int
  | 18 => .int
  | 19 => .int
  | 20 => .int
  | _ => .int
abbrev wsX40 : List Cond := u_ws RX4 TX4 22
theorem nmX4 : ∀ a, a < 22 → ∀ b, b < 22 → a ≠ b → (TX4 a).2.1 ≠ (TX4 b).2.1 := by decide +kernel
theorem tyX4_ok : ∀ k, k < 22 → parseFieldDescriptor (TX4 k).2.2.1 = some (tyX4 k) := by decide +kernel
abbrev cX4_init : ByteArray := prog_6_method_1_code
def yX4_init : MethodName := ⟨RX4, "<init>", "()V"⟩
abbrev cX4_thrown : ByteArray := prog_6_method_2_code
def yX4_thrown : MethodName := ⟨RX4, "thrown", "()I"⟩
abbrev cX4_in : ByteArray := prog_6_method_3_code
def yX4_in : MethodName := ⟨RX4, "in", "(III)Z"⟩
abbrev cX4_checked : ByteArray := prog_6_method_4_code
def yX4_checked : MethodName := ⟨RX4, "checked", "(Z)I"⟩
abbrev cX4_isDriver : ByteArray := prog_6_method_5_code
def yX4_isDriver : MethodName := ⟨RX4, "isDriver", "(I)Z"⟩
abbrev cX4_isLine : ByteArray := prog_6_method_6_code
def yX4_isLine : MethodName := ⟨RX4, "isLine", "(I)Z"⟩
abbrev cX4_isScenario : ByteArray := prog_6_method_7_code
def yX4_isScenario : MethodName := ⟨RX4, "isScenario", "(I)Z"⟩
abbrev cX4_isMonth : ByteArray := prog_6_method_8_code
def yX4_isMonth : MethodName := ⟨RX4, "isMonth", "(I)Z"⟩
abbrev cX4_at : ByteArray := prog_6_method_9_code
def yX4_at : MethodName := ⟨RX4, "at", "(II)I"⟩
abbrev cX4_isUnder : ByteArray := prog_6_method_10_code
def yX4_isUnder : MethodName := ⟨RX4, "isUnder", "(II)Z"⟩
abbrev cX4_valueIn : ByteArray := prog_6_method_11_code
def yX4_valueIn : MethodName := ⟨RX4, "valueIn", "(IIII)I"⟩
abbrev cX4_byKind : ByteArray := prog_6_method_12_code
def yX4_byKind : MethodName := ⟨RX4, "byKind", "(IIII)J"⟩
abbrev cX4_finds : ByteArray := prog_6_method_13_code
def yX4_finds : MethodName := ⟨RX4, "finds", "(IIII)Z"⟩
abbrev cX4_looks : ByteArray := prog_6_method_14_code
def yX4_looks : MethodName := ⟨RX4, "looks", "()I"⟩
abbrev cX4_addDriver : ByteArray := prog_6_method_15_code
def yX4_addDriver : MethodName := ⟨RX4, "addDriver", "(I)I"⟩
abbrev cX4_setDriver : ByteArray := prog_6_method_16_code
def yX4_setDriver : MethodName := ⟨RX4, "setDriver", "(II)I"⟩
abbrev cX4_driver : ByteArray := prog_6_method_17_code
def yX4_driver : MethodName := ⟨RX4, "driver", "(III)I"⟩
abbrev cX4_addLine : ByteArray := prog_6_method_18_code
def yX4_addLine : MethodName := ⟨RX4, "addLine", "(CII)I"⟩
abbrev cX4_addScenario : ByteArray := prog_6_method_19_code
def yX4_addScenario : MethodName := ⟨RX4, "addScenario", "(I)I"⟩
abbrev cX4_differ : ByteArray := prog_6_method_20_code
def yX4_differ : MethodName := ⟨RX4, "differ", "(IIII)I"⟩
abbrev cX4_number : ByteArray := prog_6_method_21_code
def yX4_number : MethodName := ⟨RX4, "number", "(III)I"⟩
abbrev cX4_numberByHand : ByteArray := prog_6_method_22_code
def yX4_numberByHand : MethodName := ⟨RX4, "numberByHand", "(III)I"⟩
abbrev cX4_year : ByteArray := prog_6_method_23_code
def yX4_year : MethodName := ⟨RX4, "year", "(II)J"⟩
abbrev cX4_effect : ByteArray := prog_6_method_24_code
def yX4_effect : MethodName := ⟨RX4, "effect", "(IIII)I"⟩
abbrev cX4_seek : ByteArray := prog_6_method_25_code
def yX4_seek : MethodName := ⟨RX4, "seek", "(IIII)I"⟩
abbrev cX4_actual : ByteArray := prog_6_method_26_code
def yX4_actual : MethodName := ⟨RX4, "actual", "(III)I"⟩
abbrev cX4_takeActual : ByteArray := prog_6_method_27_code
def yX4_takeActual : MethodName := ⟨RX4, "takeActual", "(II)I"⟩
abbrev cX4_pass : ByteArray := prog_6_method_28_code
def yX4_pass : MethodName := ⟨RX4, "pass", "()I"⟩
abbrev cX4_month : ByteArray := prog_6_method_29_code
def yX4_month : MethodName := ⟨RX4, "month", "()I"⟩
abbrev cX4_approve : ByteArray := prog_6_method_30_code
def yX4_approve : MethodName := ⟨RX4, "approve", "(III)I"⟩
abbrev cX4_state : ByteArray := prog_6_method_31_code
def yX4_state : MethodName := ⟨RX4, "state", "(II)C"⟩
abbrev cX4_drift : ByteArray := prog_6_method_32_code
def yX4_drift : MethodName := ⟨RX4, "drift", "(II)I"⟩
abbrev cX4_many : ByteArray := prog_6_method_33_code
def yX4_many : MethodName := ⟨RX4, "many", "(C)I"⟩
abbrev cX4_open : ByteArray := prog_6_method_34_code
def yX4_open : MethodName := ⟨RX4, "open", "()I"⟩
abbrev cX4_approvedShare : ByteArray := prog_6_method_35_code
def yX4_approvedShare : MethodName := ⟨RX4, "approvedShare", "()F"⟩
abbrev cX4_meanTolerance : ByteArray := prog_6_method_36_code
def yX4_meanTolerance : MethodName := ⟨RX4, "meanTolerance", "()D"⟩
def RJx145de : String := "java/io/Serializable"
def TJx145de : u_T := fun k => match k with
  | _ => ("", "", "", false)
def tyJx145de : Nat → FieldType := fun k => match k with
  | _ => .int
abbrev wsJx145de0 : List Cond := u_ws RJx145de TJx145de 0
theorem nmJx145de : ∀ a, a < 0 → ∀ b, b < 0 → a ≠ b → (TJx145de a).2.1 ≠ (TJx145de b).2.1 := by decide +kernel
theorem tyJx145de_ok : ∀ k, k < 0 → parseFieldDescriptor (TJx145de k).2.2.1 = some (tyJx145de k) := by decide +kernel
def RJx00060 : String := "java/lang/ArrayIndexOutOfBoundsException"
def TJx00060 : u_T := fun k => match k with
  | 0 => ("java/lang/Throwable", "backtrace", "Ljava/lang/Object;", false)
  | 1 => ("java/lang/Throwable", "detailMessage", "Ljava/lang/String;", false)
  | 2 => ("java/lang/Throwable", "cause", "Ljava/lang/Throwable;", false)
  | 3 => ("java/lang/Throwable", "stackTrace", "[Ljava/lang/StackTraceElement;", false)
  | 4 => ("java/lang/Throwable", "depth", "I", false)
  | _ => ("java/lang/Throwable", "suppressedExceptions", "Ljava/util/List;", false)
def tyJx00060 : Nat → FieldType := fun k => match k with
  | 0 => .object "java/lang/Object"
  | 1 => .object "java/lang/String"
  | 2 => .object "java/lang/Throwable"
  | 3 => .array (.object "java/lang/StackTraceElement")
  | 4 => .int
  | _ => .object "java/util/List"
abbrev wsJx000600 : List Cond := u_ws RJx00060 TJx00060 6
theorem nmJx00060 : ∀ a, a < 6 → ∀ b, b < 6 → a ≠ b → (TJx00060 a).2.1 ≠ (TJx00060 b).2.1 := by decide +kernel
theorem tyJx00060_ok : ∀ k, k < 6 → parseFieldDescriptor (TJx00060 k).2.2.1 = some (tyJx00060 k) := by decide +kernel
abbrev cJx00060_init_a7421 : ByteArray := prog_9_method_2_code
def yJx00060_init_a7421 : MethodName := ⟨RJx00060, "<init>", "(Ljava/lang/String;)V"⟩
def RJ9 : String := "java/lang/Math"
def TJ9 : u_T := fun k => match k with
  | _ => ("", "", "", false)
def tyJ9 : Nat → FieldType := fun k => match k with
  | _ => .int
abbrev wsJ90 : List Cond := u_ws RJ9 TJ9 0
theorem nmJ9 : ∀ a, a < 0 → ∀ b, b < 0 → a ≠ b → (TJ9 a).2.1 ≠ (TJ9 b).2.1 := by decide +kernel
theorem tyJ9_ok : ∀ k, k < 0 → parseFieldDescriptor (TJ9 k).2.2.1 = some (tyJ9 k) := by decide +kernel
abbrev cJ9_abs_0f7a4 : ByteArray := prog_14_method_59_code
def yJ9_abs_0f7a4 : MethodName := ⟨RJ9, "abs", "(I)I"⟩
def RJ0 : String := "java/lang/String"
def TJ0 : u_T := fun k => match k with
  | 0 => ("java/lang/String", "value", "[B", true)
  | _ => ("java/lang/String", "coder", "B", true)
def tyJ0 : Nat → FieldType := fun k => match k with
  | 0 => .array .byte
  | _ => .byte
abbrev wsJ00 : List Cond := u_ws RJ0 TJ0 2
theorem nmJ0 : ∀ a, a < 2 → ∀ b, b < 2 → a ≠ b → (TJ0 a).2.1 ≠ (TJ0 b).2.1 := by decide +kernel
theorem tyJ0_ok : ∀ k, k < 2 → parseFieldDescriptor (TJ0 k).2.2.1 = some (tyJ0 k) := by decide +kernel
def RL : String := "CostStudioLaw"
abbrev cL_addDriver : ByteArray := method_3_code
def yL_addDriver : MethodName := ⟨RL, "addDriver", "(LCostStudio;I[J)I"⟩
abbrev cL_setDriver : ByteArray := method_4_code
def yL_setDriver : MethodName := ⟨RL, "setDriver", "(LCostStudio;II[J)I"⟩
abbrev cL_driver : ByteArray := method_5_code
def yL_driver : MethodName := ⟨RL, "driver", "(LCostStudio;III[J)I"⟩
abbrev cL_addLine : ByteArray := method_6_code
def yL_addLine : MethodName := ⟨RL, "addLine", "(LCostStudio;CII[J)I"⟩
abbrev cL_addScenario : ByteArray := method_7_code
def yL_addScenario : MethodName := ⟨RL, "addScenario", "(LCostStudio;I[J)I"⟩
abbrev cL_differ : ByteArray := method_8_code
def yL_differ : MethodName := ⟨RL, "differ", "(LCostStudio;IIII[J)I"⟩
abbrev cL_number : ByteArray := method_9_code
def yL_number : MethodName := ⟨RL, "number", "(LCostStudio;III[J)I"⟩
abbrev cL_numberByHand : ByteArray := method_10_code
def yL_numberByHand : MethodName := ⟨RL, "numberByHand", "(LCostStudio;III[J)I"⟩
abbrev cL_year : ByteArray := method_11_code
def yL_year : MethodName := ⟨RL, "year", "(LCostStudio;II[J)I"⟩
abbrev cL_effect : ByteArray := method_12_code
def yL_effect : MethodName := ⟨RL, "effect", "(LCostStudio;IIII[J)I"⟩
abbrev cL_seek : ByteArray := method_13_code
def yL_seek : MethodName := ⟨RL, "seek", "(LCostStudio;IIII[J)I"⟩
abbrev cL_actual : ByteArray := method_14_code
def yL_actual : MethodName := ⟨RL, "actual", "(LCostStudio;III[J)I"⟩
abbrev cL_takeActual : ByteArray := method_15_code
def yL_takeActual : MethodName := ⟨RL, "takeActual", "(LCostStudio;II[J)I"⟩
abbrev cL_pass : ByteArray := method_16_code
def yL_pass : MethodName := ⟨RL, "pass", "(LCostStudio;[J)I"⟩
abbrev cL_approve : ByteArray := method_17_code
def yL_approve : MethodName := ⟨RL, "approve", "(LCostStudio;III[J)I"⟩
abbrev cL_state : ByteArray := method_18_code
def yL_state : MethodName := ⟨RL, "state", "(LCostStudio;II[J)I"⟩
abbrev cL_drift : ByteArray := method_19_code
def yL_drift : MethodName := ⟨RL, "drift", "(LCostStudio;II[J)I"⟩
abbrev cL_approvedShare : ByteArray := method_20_code
def yL_approvedShare : MethodName := ⟨RL, "approvedShare", "(LCostStudio;[D)I"⟩
abbrev cL_meanTolerance : ByteArray := method_21_code
def yL_meanTolerance : MethodName := ⟨RL, "meanTolerance", "(LCostStudio;[D)I"⟩
abbrev cL_law : ByteArray := code
def yL_law : MethodName := ⟨RL, "law", "([I)Z"⟩
def wsX0_init : List Cond := .code yX0_init cX0_init 2 none :: ([.methodLink RX0 3 objectInit, .instanceMethod objectInit, .code objectInit ⟨#[0xb1]⟩ 1 none, .arrayClass .char, .fieldLink RX0 9 "CostStudio$Approvals" "states" "[C", .arrayClass .int, .fieldLink RX0 15 "CostStudio$Approvals" "keptNumbers" "[I", .fieldLink RX0 19 "CostStudio$Approvals" "tolerances" "[I"] ++ wsX00 ++ (vx_atM "java/lang/ArrayIndexOutOfBoundsException" ["java/lang/IndexOutOfBoundsException", "java/lang/RuntimeException", "java/lang/Exception"]).filter goodWord)
def wsX0_keep : List Cond := .code yX0_keep cX0_keep 4 none :: ([.fieldLink RX0 9 "CostStudio$Approvals" "states" "[C", .fieldLink RX0 15 "CostStudio$Approvals" "keptNumbers" "[I", .fieldLink RX0 19 "CostStudio$Approvals" "tolerances" "[I"] ++ wsX00 ++ (vx_atM "java/lang/ArrayIndexOutOfBoundsException" ["java/lang/IndexOutOfBoundsException", "java/lang/RuntimeException", "java/lang/Exception"]).filter goodWord)
def wsX0_isDrifted : List Cond := .code yX0_isDrifted cX0_isDrifted 3 (some .boolean) :: ([.constant RX0 26 (-1000000000), .fieldLink RX0 15 "CostStudio$Approvals" "keptNumbers" "[I", .methodLink RX0 27 Lib.Math.abs.name, .static Lib.Math.abs.name, .initialized "java/lang/Math", .code Lib.Math.abs.name Lib.Math.abs.code 1 (some .int), .fieldLink RX0 19 "CostStudio$Approvals" "tolerances" "[I"] ++ wsX00 ++ (vx_atM "java/lang/ArrayIndexOutOfBoundsException" ["java/lang/IndexOutOfBoundsException", "java/lang/RuntimeException", "java/lang/Exception"]).filter goodWord)
def wsX0_reopenIfDrifted : List Cond := .code yX0_reopenIfDrifted cX0_reopenIfDrifted 3 (some .boolean) :: ([.fieldLink RX0 9 "CostStudio$Approvals" "states" "[C", .methodLink RX0 22 yX0_isDrifted, .instanceMethod yX0_isDrifted, .selects RX0 yX0_isDrifted yX0_isDrifted, .initialized RX0, .code yX0_isDrifted cX0_isDrifted 3 (some .boolean), .constant RX0 26 (-1000000000), .fieldLink RX0 15 "CostStudio$Approvals" "keptNumbers" "[I", .methodLink RX0 27 Lib.Math.abs.name, .static Lib.Math.abs.name, .initialized "java/lang/Math", .code Lib.Math.abs.name Lib.Math.abs.code 1 (some .int), .fieldLink RX0 19 "CostStudio$Approvals" "tolerances" "[I"] ++ wsX00 ++ (vx_atM "java/lang/ArrayIndexOutOfBoundsException" ["java/lang/IndexOutOfBoundsException", "java/lang/RuntimeException", "java/lang/Exception"]).filter goodWord)
def wsX0_countIn : List Cond := .code yX0_countIn cX0_countIn 4 (some .int) :: ([.fieldLink RX0 9 "CostStudio$Approvals" "states" "[C"] ++ wsX00 ++ (vx_atM "java/lang/ArrayIndexOutOfBoundsException" ["java/lang/IndexOutOfBoundsException", "java/lang/RuntimeException", "java/lang/Exception"]).filter goodWord)
def wsX0_sumOfTolerances : List Cond := .code yX0_sumOfTolerances cX0_sumOfTolerances 3 (some .int) :: ([.fieldLink RX0 19 "CostStudio$Approvals" "tolerances" "[I"] ++ wsX00 ++ (vx_atM "java/lang/ArrayIndexOutOfBoundsException" ["java/lang/IndexOutOfBoundsException", "java/lang/RuntimeException", "java/lang/Exception"]).filter goodWord)
def wsX1_init : List Cond := .code yX1_init cX1_init 2 none :: ([.methodLink RX1 3 objectInit, .instanceMethod objectInit, .code objectInit ⟨#[0xb1]⟩ 1 none, .arrayClass .char, .fieldLink RX1 9 "CostStudio$Lines" "kinds" "[C", .arrayClass .int, .fieldLink RX1 15 "CostStudio$Lines" "ones" "[I", .fieldLink RX1 19 "CostStudio$Lines" "others" "[I", .fieldLink RX1 22 "CostStudio$Lines" "actuals" "[I", .arrayClass .boolean, .fieldLink RX1 25 "CostStudio$Lines" "needed" "[Z", .fieldLink RX1 29 "CostStudio$Lines" "numbers" "[I", .constant RX1 32 (-1000000000)] ++ wsX10 ++ (vx_atM "java/lang/ArrayIndexOutOfBoundsException" ["java/lang/IndexOutOfBoundsException", "java/lang/RuntimeException", "java/lang/Exception"]).filter goodWord)
def wsX1_add : List Cond := .code yX1_add cX1_add 4 (some .int) :: ([.fieldLink RX1 9 "CostStudio$Lines" "kinds" "[C", .fieldLink RX1 33 "CostStudio$Lines" "count" "I", .fieldLink RX1 15 "CostStudio$Lines" "ones" "[I", .fieldLink RX1 19 "CostStudio$Lines" "others" "[I"] ++ wsX10 ++ (vx_atM "java/lang/ArrayIndexOutOfBoundsException" ["java/lang/IndexOutOfBoundsException", "java/lang/RuntimeException", "java/lang/Exception"]).filter goodWord)
def wsX3_cell : List Cond := .code yX3_cell cX3_cell 2 (some .int) :: ([])
def wsX1_markNeeded : List Cond := .code yX1_markNeeded cX1_markNeeded 4 none :: ([.fieldLink RX1 25 "CostStudio$Lines" "needed" "[Z", .fieldLink RX1 9 "CostStudio$Lines" "kinds" "[C", .fieldLink RX1 22 "CostStudio$Lines" "actuals" "[I", .constant RX1 32 (-1000000000), .fieldLink RX1 15 "CostStudio$Lines" "ones" "[I", .fieldLink RX1 19 "CostStudio$Lines" "others" "[I", .static yX3_cell, .initialized RX3, .code yX3_cell cX3_cell 2 (some .int)] ++ wsX10 ++ (vx_atM "java/lang/ArrayIndexOutOfBoundsException" ["java/lang/IndexOutOfBoundsException", "java/lang/RuntimeException", "java/lang/Exception"]).filter goodWord)
def wsX1_combined : List Cond := .code yX1_combined cX1_combined 5 (some .int) :: ([.constant RX1 32 (-1000000000), .constantLong RX1 49 (100), .constantLong RX1 51 (-99999999), .constantLong RX1 53 (99999999)])
def wsX1_found : List Cond := .code yX1_found cX1_found 5 (some .int) :: ([.fieldLink RX1 22 "CostStudio$Lines" "actuals" "[I", .constant RX1 32 (-1000000000), .fieldLink RX1 9 "CostStudio$Lines" "kinds" "[C", .fieldLink RX1 15 "CostStudio$Lines" "ones" "[I", .fieldLink RX1 29 "CostStudio$Lines" "numbers" "[I", .fieldLink RX1 19 "CostStudio$Lines" "others" "[I", .static yX3_cell, .initialized RX3, .code yX3_cell cX3_cell 2 (some .int), .methodLink RX1 45 yX1_combined, .static yX1_combined, .initialized RX1, .code yX1_combined cX1_combined 5 (some .int), .constantLong RX1 49 (100), .constantLong RX1 51 (-99999999), .constantLong RX1 53 (99999999)] ++ wsX10 ++ (vx_atM "java/lang/ArrayIndexOutOfBoundsException" ["java/lang/IndexOutOfBoundsException", "java/lang/RuntimeException", "java/lang/Exception"]).filter goodWord)
def wsX1_findNeeded : List Cond := .code yX1_findNeeded cX1_findNeeded 5 (some .int) :: ([.fieldLink RX1 25 "CostStudio$Lines" "needed" "[Z", .fieldLink RX1 29 "CostStudio$Lines" "numbers" "[I", .methodLink RX1 41 yX1_found, .instanceMethod yX1_found, .selects RX1 yX1_found yX1_found, .initialized RX1, .code yX1_found cX1_found 5 (some .int), .fieldLink RX1 22 "CostStudio$Lines" "actuals" "[I", .constant RX1 32 (-1000000000), .fieldLink RX1 9 "CostStudio$Lines" "kinds" "[C", .fieldLink RX1 15 "CostStudio$Lines" "ones" "[I", .fieldLink RX1 19 "CostStudio$Lines" "others" "[I", .static yX3_cell, .initialized RX3, .code yX3_cell cX3_cell 2 (some .int), .methodLink RX1 45 yX1_combined, .static yX1_combined, .code yX1_combined cX1_combined 5 (some .int), .constantLong RX1 49 (100), .constantLong RX1 51 (-99999999), .constantLong RX1 53 (99999999)] ++ wsX10 ++ (vx_atM "java/lang/ArrayIndexOutOfBoundsException" ["java/lang/IndexOutOfBoundsException", "java/lang/RuntimeException", "java/lang/Exception"]).filter goodWord)
def wsX1_findAll : List Cond := .code yX1_findAll cX1_findAll 4 none :: ([.fieldLink RX1 33 "CostStudio$Lines" "count" "I", .fieldLink RX1 29 "CostStudio$Lines" "numbers" "[I", .methodLink RX1 41 yX1_found, .instanceMethod yX1_found, .selects RX1 yX1_found yX1_found, .initialized RX1, .code yX1_found cX1_found 5 (some .int), .fieldLink RX1 22 "CostStudio$Lines" "actuals" "[I", .constant RX1 32 (-1000000000), .fieldLink RX1 9 "CostStudio$Lines" "kinds" "[C", .fieldLink RX1 15 "CostStudio$Lines" "ones" "[I", .fieldLink RX1 19 "CostStudio$Lines" "others" "[I", .static yX3_cell, .initialized RX3, .code yX3_cell cX3_cell 2 (some .int), .methodLink RX1 45 yX1_combined, .static yX1_combined, .code yX1_combined cX1_combined 5 (some .int), .constantLong RX1 49 (100), .constantLong RX1 51 (-99999999), .constantLong RX1 53 (99999999)] ++ wsX10 ++ (vx_atM "java/lang/ArrayIndexOutOfBoundsException" ["java/lang/IndexOutOfBoundsException", "java/lang/RuntimeException", "java/lang/Exception"]).filter goodWord)
def wsX2_init : List Cond := .code yX2_init cX2_init 1 none :: ([.methodLink RX2 3 objectInit, .instanceMethod objectInit, .code objectInit ⟨#[0xb1]⟩ 1 none, .arrayClass .int, .fieldLink RX2 9 "CostStudio$Scenarios" "parents" "[I", .fieldLink RX2 15 "CostStudio$Scenarios" "ownDifferences" "[I", .fieldLink RX2 18 "CostStudio$Scenarios" "added" "[I", .fieldLink RX2 21 "CostStudio$Scenarios" "count" "I"] ++ wsX20)
def wsX2_add : List Cond := .code yX2_add cX2_add 2 (some .int) :: ([.fieldLink RX2 9 "CostStudio$Scenarios" "parents" "[I", .fieldLink RX2 21 "CostStudio$Scenarios" "count" "I"] ++ wsX20 ++ (vx_atM "java/lang/ArrayIndexOutOfBoundsException" ["java/lang/IndexOutOfBoundsException", "java/lang/RuntimeException", "java/lang/Exception"]).filter goodWord)
def wsX2_place : List Cond := .code yX2_place cX2_place 3 (some .int) :: ([])
def wsX2_addDifference : List Cond := .code yX2_addDifference cX2_addDifference 6 (some .int) :: ([.fieldLink RX2 18 "CostStudio$Scenarios" "added" "[I", .fieldLink RX2 29 "CostStudio$Scenarios" "differenceCount" "I", .fieldLink RX2 15 "CostStudio$Scenarios" "ownDifferences" "[I", .methodLink RX2 25 yX2_place, .static yX2_place, .initialized RX2, .code yX2_place cX2_place 3 (some .int)] ++ wsX20 ++ (vx_atM "java/lang/ArrayIndexOutOfBoundsException" ["java/lang/IndexOutOfBoundsException", "java/lang/RuntimeException", "java/lang/Exception"]).filter goodWord)
def wsX2_addedTo : List Cond := .code yX2_addedTo cX2_addedTo 7 (some .int) :: ([.fieldLink RX2 18 "CostStudio$Scenarios" "added" "[I", .fieldLink RX2 9 "CostStudio$Scenarios" "parents" "[I", .methodLink RX2 25 yX2_place, .static yX2_place, .initialized RX2, .code yX2_place cX2_place 3 (some .int)] ++ wsX20 ++ (vx_atM "java/lang/ArrayIndexOutOfBoundsException" ["java/lang/IndexOutOfBoundsException", "java/lang/RuntimeException", "java/lang/Exception"]).filter goodWord)
def wsX3_init_r1 : List Cond := [Cond.methodLink RX3 3 objectInit, Cond.instanceMethod objectInit, Cond.code objectInit ⟨#[0xb1]⟩ 1 none, Cond.arrayClass .int, Cond.fieldLink RX3 9 "CostStudio" "driverValues" "[I", Cond.classLink RX3 13 RX2, Cond.instantiable RX2 5, Cond.initialized RX2, Cond.fieldLink RX3 16 "CostStudio" "scenarios" "LCostStudio$Scenarios;", Cond.classLink RX3 20 RX1, Cond.instantiable RX1 7, Cond.initialized RX1, Cond.fieldLink RX3 23 "CostStudio" "lines" "LCostStudio$Lines;", Cond.classLink RX3 27 RX0, Cond.instantiable RX0 3, Cond.initialized RX0, Cond.fieldLink RX3 30 "CostStudio" "approvals" "LCostStudio$Approvals;", Cond.fieldLink RX3 34 "CostStudio" "inputs" "[I", Cond.instanceMethod yX2_init, Cond.code yX2_init cX2_init 1 none, Cond.methodLink RX2 3 objectInit, Cond.fieldLink RX2 9 "CostStudio$Scenarios" "parents" "[I", Cond.fieldLink RX2 15 "CostStudio$Scenarios" "ownDifferences" "[I", Cond.fieldLink RX2 18 "CostStudio$Scenarios" "added" "[I"]
def wsX3_init_r2 : List Cond := [Cond.fieldLink RX2 21 "CostStudio$Scenarios" "count" "I", Cond.instanceMethod yX1_init, Cond.code yX1_init cX1_init 2 none, Cond.methodLink RX1 3 objectInit, Cond.arrayClass .char, Cond.fieldLink RX1 9 "CostStudio$Lines" "kinds" "[C", Cond.fieldLink RX1 15 "CostStudio$Lines" "ones" "[I", Cond.fieldLink RX1 19 "CostStudio$Lines" "others" "[I", Cond.fieldLink RX1 22 "CostStudio$Lines" "actuals" "[I", Cond.arrayClass .boolean, Cond.fieldLink RX1 25 "CostStudio$Lines" "needed" "[Z", Cond.fieldLink RX1 29 "CostStudio$Lines" "numbers" "[I", Cond.constant RX1 32 (-1000000000), Cond.instanceMethod yX0_init, Cond.code yX0_init cX0_init 2 none, Cond.methodLink RX0 3 objectInit, Cond.fieldLink RX0 9 "CostStudio$Approvals" "states" "[C", Cond.fieldLink RX0 15 "CostStudio$Approvals" "keptNumbers" "[I", Cond.fieldLink RX0 19 "CostStudio$Approvals" "tolerances" "[I"]
def wsX3_init : List Cond := .code yX3_init cX3_init 1 none :: ((wsX3_init_r1 ++ wsX3_init_r2) ++ wsX30 ++ wsX20 ++ wsX10 ++ wsX00 ++ (vx_atM "java/lang/ArrayIndexOutOfBoundsException" ["java/lang/IndexOutOfBoundsException", "java/lang/RuntimeException", "java/lang/Exception"]).filter goodWord)
def wsX3_requireDriverValue : List Cond := .code yX3_requireDriverValue cX3_requireDriverValue 1 none :: ([.classLink RX3 65 "java/lang/IllegalArgumentException", .initialized "java/lang/IllegalArgumentException"] ++ (vx_at0 RX3 67 "java/lang/IllegalArgumentException" ["java/lang/RuntimeException", "java/lang/Exception"]).filter goodWord)
def wsX3_addDriver : List Cond := .code yX3_addDriver cX3_addDriver 2 (some .int) :: ([.classLink RX3 45 "java/lang/IllegalStateException", .initialized "java/lang/IllegalStateException", .fieldLink RX3 41 "CostStudio" "driverCount" "I", .fieldLink RX3 9 "CostStudio" "driverValues" "[I", .methodLink RX3 37 yX3_requireDriverValue, .static yX3_requireDriverValue, .initialized RX3, .code yX3_requireDriverValue cX3_requireDriverValue 1 none, .classLink RX3 65 "java/lang/IllegalArgumentException", .initialized "java/lang/IllegalArgumentException"] ++ wsX30 ++ (vx_at0 RX3 47 "java/lang/IllegalStateException" ["java/lang/RuntimeException", "java/lang/Exception"]).filter goodWord ++ (vx_atM "java/lang/ArrayIndexOutOfBoundsException" ["java/lang/IndexOutOfBoundsException", "java/lang/RuntimeException", "java/lang/Exception"]).filter goodWord ++ (vx_at0 RX3 67 "java/lang/IllegalArgumentException" ["java/lang/RuntimeException", "java/lang/Exception"]).filter goodWord)
def wsX3_requireDriver : List Cond := .code yX3_requireDriver cX3_requireDriver 2 none :: ([.classLink RX3 153 "java/lang/IndexOutOfBoundsException", .initialized "java/lang/IndexOutOfBoundsException", .fieldLink RX3 41 "CostStudio" "driverCount" "I"] ++ wsX30 ++ (vx_at0 RX3 155 "java/lang/IndexOutOfBoundsException" ["java/lang/RuntimeException", "java/lang/Exception"]).filter goodWord)
def wsX3_valueIn : List Cond := .code yX3_valueIn cX3_valueIn 4 (some .int) :: ([.fieldLink RX3 9 "CostStudio" "driverValues" "[I", .fieldLink RX3 16 "CostStudio" "scenarios" "LCostStudio$Scenarios;", .instanceMethod yX2_addedTo, .initialized RX2, .selects RX2 yX2_addedTo yX2_addedTo, .code yX2_addedTo cX2_addedTo 7 (some .int), .fieldLink RX2 18 "CostStudio$Scenarios" "added" "[I", .fieldLink RX2 9 "CostStudio$Scenarios" "parents" "[I", .methodLink RX2 25 yX2_place, .static yX2_place, .code yX2_place cX2_place 3 (some .int)] ++ wsX30 ++ wsX20 ++ (vx_atM "java/lang/ArrayIndexOutOfBoundsException" ["java/lang/IndexOutOfBoundsException", "java/lang/RuntimeException", "java/lang/Exception"]).filter goodWord)
def wsX3_fillInputs : List Cond := .code yX3_fillInputs cX3_fillInputs 5 none :: ([.fieldLink RX3 41 "CostStudio" "driverCount" "I", .fieldLink RX3 34 "CostStudio" "inputs" "[I", .fieldLink RX3 9 "CostStudio" "driverValues" "[I", .methodLink RX3 61 yX3_valueIn, .instanceMethod yX3_valueIn, .selects RX3 yX3_valueIn yX3_valueIn, .initialized RX3, .code yX3_valueIn cX3_valueIn 4 (some .int), .fieldLink RX3 16 "CostStudio" "scenarios" "LCostStudio$Scenarios;", .instanceMethod yX2_addedTo, .initialized RX2, .selects RX2 yX2_addedTo yX2_addedTo, .code yX2_addedTo cX2_addedTo 7 (some .int), .fieldLink RX2 18 "CostStudio$Scenarios" "added" "[I", .fieldLink RX2 9 "CostStudio$Scenarios" "parents" "[I", .methodLink RX2 25 yX2_place, .static yX2_place, .code yX2_place cX2_place 3 (some .int)] ++ wsX30 ++ wsX20 ++ (vx_atM "java/lang/ArrayIndexOutOfBoundsException" ["java/lang/IndexOutOfBoundsException", "java/lang/RuntimeException", "java/lang/Exception"]).filter goodWord)
def wsX3_reopenDrifted_r1 : List Cond := [Cond.fieldLink RX3 23 "CostStudio" "lines" "LCostStudio$Lines;", Cond.fieldLink RX3 34 "CostStudio" "inputs" "[I", Cond.fieldLink RX3 30 "CostStudio" "approvals" "LCostStudio$Approvals;", Cond.methodLink RX3 98 yX3_fillInputs, Cond.instanceMethod yX3_fillInputs, Cond.selects RX3 yX3_fillInputs yX3_fillInputs, Cond.initialized RX3, Cond.code yX3_fillInputs cX3_fillInputs 5 none, Cond.fieldLink RX3 41 "CostStudio" "driverCount" "I", Cond.fieldLink RX3 9 "CostStudio" "driverValues" "[I", Cond.methodLink RX3 61 yX3_valueIn, Cond.instanceMethod yX3_valueIn, Cond.selects RX3 yX3_valueIn yX3_valueIn, Cond.code yX3_valueIn cX3_valueIn 4 (some .int), Cond.fieldLink RX3 16 "CostStudio" "scenarios" "LCostStudio$Scenarios;", Cond.instanceMethod yX2_addedTo, Cond.initialized RX2, Cond.selects RX2 yX2_addedTo yX2_addedTo, Cond.code yX2_addedTo cX2_addedTo 7 (some .int), Cond.fieldLink RX2 18 "CostStudio$Scenarios" "added" "[I", Cond.fieldLink RX2 9 "CostStudio$Scenarios" "parents" "[I", Cond.methodLink RX2 25 yX2_place, Cond.static yX2_place, Cond.code yX2_place cX2_place 3 (some .int)]
def wsX3_reopenDrifted_r2 : List Cond := [Cond.instanceMethod yX1_findAll, Cond.initialized RX1, Cond.selects RX1 yX1_findAll yX1_findAll, Cond.code yX1_findAll cX1_findAll 4 none, Cond.fieldLink RX1 33 "CostStudio$Lines" "count" "I", Cond.fieldLink RX1 29 "CostStudio$Lines" "numbers" "[I", Cond.methodLink RX1 41 yX1_found, Cond.instanceMethod yX1_found, Cond.selects RX1 yX1_found yX1_found, Cond.code yX1_found cX1_found 5 (some .int), Cond.fieldLink RX1 22 "CostStudio$Lines" "actuals" "[I", Cond.constant RX1 32 (-1000000000), Cond.fieldLink RX1 9 "CostStudio$Lines" "kinds" "[C", Cond.fieldLink RX1 15 "CostStudio$Lines" "ones" "[I", Cond.fieldLink RX1 19 "CostStudio$Lines" "others" "[I", Cond.static yX3_cell, Cond.code yX3_cell cX3_cell 2 (some .int), Cond.methodLink RX1 45 yX1_combined, Cond.static yX1_combined, Cond.code yX1_combined cX1_combined 5 (some .int), Cond.constantLong RX1 49 (100), Cond.constantLong RX1 51 (-99999999), Cond.constantLong RX1 53 (99999999), Cond.methodLink RX3 129 yX3_cell]
def wsX3_reopenDrifted_r3 : List Cond := [Cond.instanceMethod yX0_reopenIfDrifted, Cond.initialized RX0, Cond.selects RX0 yX0_reopenIfDrifted yX0_reopenIfDrifted, Cond.code yX0_reopenIfDrifted cX0_reopenIfDrifted 3 (some .boolean), Cond.fieldLink RX0 9 "CostStudio$Approvals" "states" "[C", Cond.methodLink RX0 22 yX0_isDrifted, Cond.instanceMethod yX0_isDrifted, Cond.selects RX0 yX0_isDrifted yX0_isDrifted, Cond.code yX0_isDrifted cX0_isDrifted 3 (some .boolean), Cond.constant RX0 26 (-1000000000), Cond.fieldLink RX0 15 "CostStudio$Approvals" "keptNumbers" "[I", Cond.methodLink RX0 27 Lib.Math.abs.name, Cond.static Lib.Math.abs.name, Cond.initialized "java/lang/Math", Cond.code Lib.Math.abs.name Lib.Math.abs.code 1 (some .int), Cond.fieldLink RX0 19 "CostStudio$Approvals" "tolerances" "[I"]
def wsX3_reopenDrifted : List Cond := .code yX3_reopenDrifted cX3_reopenDrifted 4 (some .int) :: ((wsX3_reopenDrifted_r1 ++ (wsX3_reopenDrifted_r2 ++ wsX3_reopenDrifted_r3)) ++ wsX30 ++ wsX10 ++ wsX20 ++ wsX00 ++ (vx_atM "java/lang/ArrayIndexOutOfBoundsException" ["java/lang/IndexOutOfBoundsException", "java/lang/RuntimeException", "java/lang/Exception"]).filter goodWord)
def wsX3_setDriver_r1 : List Cond := [Cond.fieldLink RX3 9 "CostStudio" "driverValues" "[I", Cond.methodLink RX3 48 yX3_requireDriver, Cond.instanceMethod yX3_requireDriver, Cond.selects RX3 yX3_requireDriver yX3_requireDriver, Cond.initialized RX3, Cond.code yX3_requireDriver cX3_requireDriver 2 none, Cond.classLink RX3 153 "java/lang/IndexOutOfBoundsException", Cond.initialized "java/lang/IndexOutOfBoundsException", Cond.fieldLink RX3 41 "CostStudio" "driverCount" "I", Cond.methodLink RX3 37 yX3_requireDriverValue, Cond.static yX3_requireDriverValue, Cond.code yX3_requireDriverValue cX3_requireDriverValue 1 none, Cond.classLink RX3 65 "java/lang/IllegalArgumentException", Cond.initialized "java/lang/IllegalArgumentException", Cond.methodLink RX3 51 yX3_reopenDrifted, Cond.instanceMethod yX3_reopenDrifted, Cond.selects RX3 yX3_reopenDrifted yX3_reopenDrifted, Cond.code yX3_reopenDrifted cX3_reopenDrifted 4 (some .int), Cond.fieldLink RX3 23 "CostStudio" "lines" "LCostStudio$Lines;", Cond.fieldLink RX3 34 "CostStudio" "inputs" "[I", Cond.fieldLink RX3 30 "CostStudio" "approvals" "LCostStudio$Approvals;", Cond.methodLink RX3 98 yX3_fillInputs, Cond.instanceMethod yX3_fillInputs, Cond.selects RX3 yX3_fillInputs yX3_fillInputs]
def wsX3_setDriver_r2 : List Cond := [Cond.code yX3_fillInputs cX3_fillInputs 5 none, Cond.methodLink RX3 61 yX3_valueIn, Cond.instanceMethod yX3_valueIn, Cond.selects RX3 yX3_valueIn yX3_valueIn, Cond.code yX3_valueIn cX3_valueIn 4 (some .int), Cond.fieldLink RX3 16 "CostStudio" "scenarios" "LCostStudio$Scenarios;", Cond.instanceMethod yX2_addedTo, Cond.initialized RX2, Cond.selects RX2 yX2_addedTo yX2_addedTo, Cond.code yX2_addedTo cX2_addedTo 7 (some .int), Cond.fieldLink RX2 18 "CostStudio$Scenarios" "added" "[I", Cond.fieldLink RX2 9 "CostStudio$Scenarios" "parents" "[I", Cond.methodLink RX2 25 yX2_place, Cond.static yX2_place, Cond.code yX2_place cX2_place 3 (some .int), Cond.instanceMethod yX1_findAll, Cond.initialized RX1, Cond.selects RX1 yX1_findAll yX1_findAll, Cond.code yX1_findAll cX1_findAll 4 none, Cond.fieldLink RX1 33 "CostStudio$Lines" "count" "I", Cond.fieldLink RX1 29 "CostStudio$Lines" "numbers" "[I", Cond.methodLink RX1 41 yX1_found, Cond.instanceMethod yX1_found, Cond.selects RX1 yX1_found yX1_found]
def wsX3_setDriver_r3 : List Cond := [Cond.code yX1_found cX1_found 5 (some .int), Cond.fieldLink RX1 22 "CostStudio$Lines" "actuals" "[I", Cond.constant RX1 32 (-1000000000), Cond.fieldLink RX1 9 "CostStudio$Lines" "kinds" "[C", Cond.fieldLink RX1 15 "CostStudio$Lines" "ones" "[I", Cond.fieldLink RX1 19 "CostStudio$Lines" "others" "[I", Cond.static yX3_cell, Cond.code yX3_cell cX3_cell 2 (some .int), Cond.methodLink RX1 45 yX1_combined, Cond.static yX1_combined, Cond.code yX1_combined cX1_combined 5 (some .int), Cond.constantLong RX1 49 (100), Cond.constantLong RX1 51 (-99999999), Cond.constantLong RX1 53 (99999999), Cond.methodLink RX3 129 yX3_cell, Cond.instanceMethod yX0_reopenIfDrifted, Cond.initialized RX0, Cond.selects RX0 yX0_reopenIfDrifted yX0_reopenIfDrifted, Cond.code yX0_reopenIfDrifted cX0_reopenIfDrifted 3 (some .boolean), Cond.fieldLink RX0 9 "CostStudio$Approvals" "states" "[C", Cond.methodLink RX0 22 yX0_isDrifted, Cond.instanceMethod yX0_isDrifted, Cond.selects RX0 yX0_isDrifted yX0_isDrifted, Cond.code yX0_isDrifted cX0_isDrifted 3 (some .boolean)]
def wsX3_setDriver_r4 : List Cond := [Cond.constant RX0 26 (-1000000000), Cond.fieldLink RX0 15 "CostStudio$Approvals" "keptNumbers" "[I", Cond.methodLink RX0 27 Lib.Math.abs.name, Cond.static Lib.Math.abs.name, Cond.initialized "java/lang/Math", Cond.code Lib.Math.abs.name Lib.Math.abs.code 1 (some .int), Cond.fieldLink RX0 19 "CostStudio$Approvals" "tolerances" "[I"]
def wsX3_setDriver : List Cond := .code yX3_setDriver cX3_setDriver 3 (some .int) :: ((wsX3_setDriver_r1 ++ (wsX3_setDriver_r2 ++ (wsX3_setDriver_r3 ++ wsX3_setDriver_r4))) ++ wsX30 ++ wsX10 ++ wsX20 ++ wsX00 ++ (vx_atM "java/lang/ArrayIndexOutOfBoundsException" ["java/lang/IndexOutOfBoundsException", "java/lang/RuntimeException", "java/lang/Exception"]).filter goodWord ++ (vx_at0 RX3 155 "java/lang/IndexOutOfBoundsException" ["java/lang/RuntimeException", "java/lang/Exception"]).filter goodWord ++ (vx_at0 RX3 67 "java/lang/IllegalArgumentException" ["java/lang/RuntimeException", "java/lang/Exception"]).filter goodWord)
def wsX3_requireScenario : List Cond := .code yX3_requireScenario cX3_requireScenario 2 none :: ([.classLink RX3 153 "java/lang/IndexOutOfBoundsException", .initialized "java/lang/IndexOutOfBoundsException", .fieldLink RX3 16 "CostStudio" "scenarios" "LCostStudio$Scenarios;"] ++ wsX30 ++ wsX20 ++ (vx_at0 RX3 155 "java/lang/IndexOutOfBoundsException" ["java/lang/RuntimeException", "java/lang/Exception"]).filter goodWord)
def wsX3_requireMonth : List Cond := .code yX3_requireMonth cX3_requireMonth 1 none :: ([.classLink RX3 153 "java/lang/IndexOutOfBoundsException", .initialized "java/lang/IndexOutOfBoundsException"] ++ (vx_at0 RX3 155 "java/lang/IndexOutOfBoundsException" ["java/lang/RuntimeException", "java/lang/Exception"]).filter goodWord)
def wsX3_driver_r1 : List Cond := [Cond.methodLink RX3 55 yX3_requireScenario, Cond.instanceMethod yX3_requireScenario, Cond.selects RX3 yX3_requireScenario yX3_requireScenario, Cond.initialized RX3, Cond.code yX3_requireScenario cX3_requireScenario 2 none, Cond.classLink RX3 153 "java/lang/IndexOutOfBoundsException", Cond.initialized "java/lang/IndexOutOfBoundsException", Cond.fieldLink RX3 16 "CostStudio" "scenarios" "LCostStudio$Scenarios;", Cond.methodLink RX3 48 yX3_requireDriver, Cond.instanceMethod yX3_requireDriver, Cond.selects RX3 yX3_requireDriver yX3_requireDriver, Cond.code yX3_requireDriver cX3_requireDriver 2 none, Cond.fieldLink RX3 41 "CostStudio" "driverCount" "I", Cond.methodLink RX3 58 yX3_requireMonth, Cond.static yX3_requireMonth, Cond.code yX3_requireMonth cX3_requireMonth 1 none, Cond.methodLink RX3 61 yX3_valueIn, Cond.instanceMethod yX3_valueIn, Cond.selects RX3 yX3_valueIn yX3_valueIn, Cond.code yX3_valueIn cX3_valueIn 4 (some .int), Cond.fieldLink RX3 9 "CostStudio" "driverValues" "[I", Cond.instanceMethod yX2_addedTo, Cond.initialized RX2, Cond.selects RX2 yX2_addedTo yX2_addedTo]
def wsX3_driver_r2 : List Cond := [Cond.code yX2_addedTo cX2_addedTo 7 (some .int), Cond.fieldLink RX2 18 "CostStudio$Scenarios" "added" "[I", Cond.fieldLink RX2 9 "CostStudio$Scenarios" "parents" "[I", Cond.methodLink RX2 25 yX2_place, Cond.static yX2_place, Cond.code yX2_place cX2_place 3 (some .int)]
def wsX3_driver : List Cond := .code yX3_driver cX3_driver 4 (some .int) :: ((wsX3_driver_r1 ++ wsX3_driver_r2) ++ wsX30 ++ wsX20 ++ (vx_at0 RX3 155 "java/lang/IndexOutOfBoundsException" ["java/lang/RuntimeException", "java/lang/Exception"]).filter goodWord ++ (vx_atM "java/lang/ArrayIndexOutOfBoundsException" ["java/lang/IndexOutOfBoundsException", "java/lang/RuntimeException", "java/lang/Exception"]).filter goodWord)
def wsX3_requireLine : List Cond := .code yX3_requireLine cX3_requireLine 2 none :: ([.classLink RX3 153 "java/lang/IndexOutOfBoundsException", .initialized "java/lang/IndexOutOfBoundsException", .fieldLink RX3 23 "CostStudio" "lines" "LCostStudio$Lines;"] ++ wsX30 ++ wsX10 ++ (vx_at0 RX3 155 "java/lang/IndexOutOfBoundsException" ["java/lang/RuntimeException", "java/lang/Exception"]).filter goodWord)
def wsX3_addLine_r1 : List Cond := [Cond.classLink RX3 65 "java/lang/IllegalArgumentException", Cond.initialized "java/lang/IllegalArgumentException", Cond.classLink RX3 45 "java/lang/IllegalStateException", Cond.initialized "java/lang/IllegalStateException", Cond.fieldLink RX3 23 "CostStudio" "lines" "LCostStudio$Lines;", Cond.methodLink RX3 48 yX3_requireDriver, Cond.instanceMethod yX3_requireDriver, Cond.selects RX3 yX3_requireDriver yX3_requireDriver, Cond.initialized RX3, Cond.code yX3_requireDriver cX3_requireDriver 2 none, Cond.classLink RX3 153 "java/lang/IndexOutOfBoundsException", Cond.initialized "java/lang/IndexOutOfBoundsException", Cond.fieldLink RX3 41 "CostStudio" "driverCount" "I", Cond.methodLink RX3 68 yX3_requireLine, Cond.instanceMethod yX3_requireLine, Cond.selects RX3 yX3_requireLine yX3_requireLine, Cond.code yX3_requireLine cX3_requireLine 2 none, Cond.instanceMethod yX1_add, Cond.initialized RX1, Cond.selects RX1 yX1_add yX1_add, Cond.code yX1_add cX1_add 4 (some .int), Cond.fieldLink RX1 9 "CostStudio$Lines" "kinds" "[C", Cond.fieldLink RX1 33 "CostStudio$Lines" "count" "I", Cond.fieldLink RX1 15 "CostStudio$Lines" "ones" "[I"]
def wsX3_addLine_r2 : List Cond := [Cond.fieldLink RX1 19 "CostStudio$Lines" "others" "[I"]
def wsX3_addLine : List Cond := .code yX3_addLine cX3_addLine 4 (some .int) :: ((wsX3_addLine_r1 ++ wsX3_addLine_r2) ++ wsX30 ++ wsX10 ++ (vx_at0 RX3 67 "java/lang/IllegalArgumentException" ["java/lang/RuntimeException", "java/lang/Exception"]).filter goodWord ++ (vx_at0 RX3 47 "java/lang/IllegalStateException" ["java/lang/RuntimeException", "java/lang/Exception"]).filter goodWord ++ (vx_at0 RX3 155 "java/lang/IndexOutOfBoundsException" ["java/lang/RuntimeException", "java/lang/Exception"]).filter goodWord ++ (vx_atM "java/lang/ArrayIndexOutOfBoundsException" ["java/lang/IndexOutOfBoundsException", "java/lang/RuntimeException", "java/lang/Exception"]).filter goodWord)
def wsX3_addScenario : List Cond := .code yX3_addScenario cX3_addScenario 2 (some .int) :: ([.classLink RX3 45 "java/lang/IllegalStateException", .initialized "java/lang/IllegalStateException", .fieldLink RX3 16 "CostStudio" "scenarios" "LCostStudio$Scenarios;", .methodLink RX3 55 yX3_requireScenario, .instanceMethod yX3_requireScenario, .selects RX3 yX3_requireScenario yX3_requireScenario, .initialized RX3, .code yX3_requireScenario cX3_requireScenario 2 none, .classLink RX3 153 "java/lang/IndexOutOfBoundsException", .initialized "java/lang/IndexOutOfBoundsException", .instanceMethod yX2_add, .initialized RX2, .selects RX2 yX2_add yX2_add, .code yX2_add cX2_add 2 (some .int), .fieldLink RX2 9 "CostStudio$Scenarios" "parents" "[I", .fieldLink RX2 21 "CostStudio$Scenarios" "count" "I"] ++ wsX30 ++ wsX20 ++ (vx_at0 RX3 47 "java/lang/IllegalStateException" ["java/lang/RuntimeException", "java/lang/Exception"]).filter goodWord ++ (vx_at0 RX3 155 "java/lang/IndexOutOfBoundsException" ["java/lang/RuntimeException", "java/lang/Exception"]).filter goodWord ++ (vx_atM "java/lang/ArrayIndexOutOfBoundsException" ["java/lang/IndexOutOfBoundsException", "java/lang/RuntimeException", "java/lang/Exception"]).filter goodWord)
def wsX3_differ_r1 : List Cond := [Cond.classLink RX3 65 "java/lang/IllegalArgumentException", Cond.initialized "java/lang/IllegalArgumentException", Cond.classLink RX3 82 "java/lang/UnsupportedOperationException", Cond.initialized "java/lang/UnsupportedOperationException", Cond.classLink RX3 45 "java/lang/IllegalStateException", Cond.initialized "java/lang/IllegalStateException", Cond.fieldLink RX3 16 "CostStudio" "scenarios" "LCostStudio$Scenarios;", Cond.methodLink RX3 55 yX3_requireScenario, Cond.instanceMethod yX3_requireScenario, Cond.selects RX3 yX3_requireScenario yX3_requireScenario, Cond.initialized RX3, Cond.code yX3_requireScenario cX3_requireScenario 2 none, Cond.classLink RX3 153 "java/lang/IndexOutOfBoundsException", Cond.initialized "java/lang/IndexOutOfBoundsException", Cond.methodLink RX3 48 yX3_requireDriver, Cond.instanceMethod yX3_requireDriver, Cond.selects RX3 yX3_requireDriver yX3_requireDriver, Cond.code yX3_requireDriver cX3_requireDriver 2 none, Cond.fieldLink RX3 41 "CostStudio" "driverCount" "I", Cond.methodLink RX3 58 yX3_requireMonth, Cond.static yX3_requireMonth, Cond.code yX3_requireMonth cX3_requireMonth 1 none, Cond.instanceMethod yX2_addDifference, Cond.initialized RX2]
def wsX3_differ_r2 : List Cond := [Cond.selects RX2 yX2_addDifference yX2_addDifference, Cond.code yX2_addDifference cX2_addDifference 6 (some .int), Cond.fieldLink RX2 18 "CostStudio$Scenarios" "added" "[I", Cond.fieldLink RX2 29 "CostStudio$Scenarios" "differenceCount" "I", Cond.fieldLink RX2 15 "CostStudio$Scenarios" "ownDifferences" "[I", Cond.methodLink RX2 25 yX2_place, Cond.static yX2_place, Cond.code yX2_place cX2_place 3 (some .int)]
def wsX3_differ : List Cond := .code yX3_differ cX3_differ 5 (some .int) :: ((wsX3_differ_r1 ++ wsX3_differ_r2) ++ wsX30 ++ wsX20 ++ (vx_at0 RX3 67 "java/lang/IllegalArgumentException" ["java/lang/RuntimeException", "java/lang/Exception"]).filter goodWord ++ (vx_at0 RX3 84 "java/lang/UnsupportedOperationException" ["java/lang/RuntimeException", "java/lang/Exception"]).filter goodWord ++ (vx_at0 RX3 47 "java/lang/IllegalStateException" ["java/lang/RuntimeException", "java/lang/Exception"]).filter goodWord ++ (vx_at0 RX3 155 "java/lang/IndexOutOfBoundsException" ["java/lang/RuntimeException", "java/lang/Exception"]).filter goodWord ++ (vx_atM "java/lang/ArrayIndexOutOfBoundsException" ["java/lang/IndexOutOfBoundsException", "java/lang/RuntimeException", "java/lang/Exception"]).filter goodWord)
def wsX3_numberIn_r1 : List Cond := [Cond.fieldLink RX3 23 "CostStudio" "lines" "LCostStudio$Lines;", Cond.fieldLink RX3 34 "CostStudio" "inputs" "[I", Cond.methodLink RX3 98 yX3_fillInputs, Cond.instanceMethod yX3_fillInputs, Cond.selects RX3 yX3_fillInputs yX3_fillInputs, Cond.initialized RX3, Cond.code yX3_fillInputs cX3_fillInputs 5 none, Cond.fieldLink RX3 41 "CostStudio" "driverCount" "I", Cond.fieldLink RX3 9 "CostStudio" "driverValues" "[I", Cond.methodLink RX3 61 yX3_valueIn, Cond.instanceMethod yX3_valueIn, Cond.selects RX3 yX3_valueIn yX3_valueIn, Cond.code yX3_valueIn cX3_valueIn 4 (some .int), Cond.fieldLink RX3 16 "CostStudio" "scenarios" "LCostStudio$Scenarios;", Cond.instanceMethod yX2_addedTo, Cond.initialized RX2, Cond.selects RX2 yX2_addedTo yX2_addedTo, Cond.code yX2_addedTo cX2_addedTo 7 (some .int), Cond.fieldLink RX2 18 "CostStudio$Scenarios" "added" "[I", Cond.fieldLink RX2 9 "CostStudio$Scenarios" "parents" "[I", Cond.methodLink RX2 25 yX2_place, Cond.static yX2_place, Cond.code yX2_place cX2_place 3 (some .int), Cond.instanceMethod yX1_markNeeded]
def wsX3_numberIn_r2 : List Cond := [Cond.initialized RX1, Cond.selects RX1 yX1_markNeeded yX1_markNeeded, Cond.code yX1_markNeeded cX1_markNeeded 4 none, Cond.fieldLink RX1 25 "CostStudio$Lines" "needed" "[Z", Cond.fieldLink RX1 9 "CostStudio$Lines" "kinds" "[C", Cond.fieldLink RX1 22 "CostStudio$Lines" "actuals" "[I", Cond.constant RX1 32 (-1000000000), Cond.fieldLink RX1 15 "CostStudio$Lines" "ones" "[I", Cond.fieldLink RX1 19 "CostStudio$Lines" "others" "[I", Cond.static yX3_cell, Cond.code yX3_cell cX3_cell 2 (some .int), Cond.instanceMethod yX1_findNeeded, Cond.selects RX1 yX1_findNeeded yX1_findNeeded, Cond.code yX1_findNeeded cX1_findNeeded 5 (some .int), Cond.fieldLink RX1 29 "CostStudio$Lines" "numbers" "[I", Cond.methodLink RX1 41 yX1_found, Cond.instanceMethod yX1_found, Cond.selects RX1 yX1_found yX1_found, Cond.code yX1_found cX1_found 5 (some .int), Cond.methodLink RX1 45 yX1_combined, Cond.static yX1_combined, Cond.code yX1_combined cX1_combined 5 (some .int), Cond.constantLong RX1 49 (100), Cond.constantLong RX1 51 (-99999999)]
def wsX3_numberIn_r3 : List Cond := [Cond.constantLong RX1 53 (99999999)]
def wsX3_numberIn : List Cond := .code yX3_numberIn cX3_numberIn 5 (some .int) :: ((wsX3_numberIn_r1 ++ (wsX3_numberIn_r2 ++ wsX3_numberIn_r3)) ++ wsX30 ++ wsX20 ++ wsX10 ++ (vx_atM "java/lang/ArrayIndexOutOfBoundsException" ["java/lang/IndexOutOfBoundsException", "java/lang/RuntimeException", "java/lang/Exception"]).filter goodWord)
def wsX3_required : List Cond := .code yX3_required cX3_required 1 (some .int) :: ([.classLink RX3 82 "java/lang/UnsupportedOperationException", .initialized "java/lang/UnsupportedOperationException", .constant RX3 117 (-1000000000)] ++ (vx_at0 RX3 84 "java/lang/UnsupportedOperationException" ["java/lang/RuntimeException", "java/lang/Exception"]).filter goodWord)
def wsX3_number_r1 : List Cond := [Cond.methodLink RX3 55 yX3_requireScenario, Cond.instanceMethod yX3_requireScenario, Cond.selects RX3 yX3_requireScenario yX3_requireScenario, Cond.initialized RX3, Cond.code yX3_requireScenario cX3_requireScenario 2 none, Cond.classLink RX3 153 "java/lang/IndexOutOfBoundsException", Cond.initialized "java/lang/IndexOutOfBoundsException", Cond.fieldLink RX3 16 "CostStudio" "scenarios" "LCostStudio$Scenarios;", Cond.methodLink RX3 68 yX3_requireLine, Cond.instanceMethod yX3_requireLine, Cond.selects RX3 yX3_requireLine yX3_requireLine, Cond.code yX3_requireLine cX3_requireLine 2 none, Cond.fieldLink RX3 23 "CostStudio" "lines" "LCostStudio$Lines;", Cond.methodLink RX3 58 yX3_requireMonth, Cond.static yX3_requireMonth, Cond.code yX3_requireMonth cX3_requireMonth 1 none, Cond.methodLink RX3 92 yX3_numberIn, Cond.instanceMethod yX3_numberIn, Cond.selects RX3 yX3_numberIn yX3_numberIn, Cond.code yX3_numberIn cX3_numberIn 5 (some .int), Cond.fieldLink RX3 34 "CostStudio" "inputs" "[I", Cond.methodLink RX3 98 yX3_fillInputs, Cond.instanceMethod yX3_fillInputs, Cond.selects RX3 yX3_fillInputs yX3_fillInputs]
def wsX3_number_r2 : List Cond := [Cond.code yX3_fillInputs cX3_fillInputs 5 none, Cond.fieldLink RX3 41 "CostStudio" "driverCount" "I", Cond.fieldLink RX3 9 "CostStudio" "driverValues" "[I", Cond.methodLink RX3 61 yX3_valueIn, Cond.instanceMethod yX3_valueIn, Cond.selects RX3 yX3_valueIn yX3_valueIn, Cond.code yX3_valueIn cX3_valueIn 4 (some .int), Cond.instanceMethod yX2_addedTo, Cond.initialized RX2, Cond.selects RX2 yX2_addedTo yX2_addedTo, Cond.code yX2_addedTo cX2_addedTo 7 (some .int), Cond.fieldLink RX2 18 "CostStudio$Scenarios" "added" "[I", Cond.fieldLink RX2 9 "CostStudio$Scenarios" "parents" "[I", Cond.methodLink RX2 25 yX2_place, Cond.static yX2_place, Cond.code yX2_place cX2_place 3 (some .int), Cond.instanceMethod yX1_markNeeded, Cond.initialized RX1, Cond.selects RX1 yX1_markNeeded yX1_markNeeded, Cond.code yX1_markNeeded cX1_markNeeded 4 none, Cond.fieldLink RX1 25 "CostStudio$Lines" "needed" "[Z", Cond.fieldLink RX1 9 "CostStudio$Lines" "kinds" "[C", Cond.fieldLink RX1 22 "CostStudio$Lines" "actuals" "[I", Cond.constant RX1 32 (-1000000000)]
def wsX3_number_r3 : List Cond := [Cond.fieldLink RX1 15 "CostStudio$Lines" "ones" "[I", Cond.fieldLink RX1 19 "CostStudio$Lines" "others" "[I", Cond.static yX3_cell, Cond.code yX3_cell cX3_cell 2 (some .int), Cond.instanceMethod yX1_findNeeded, Cond.selects RX1 yX1_findNeeded yX1_findNeeded, Cond.code yX1_findNeeded cX1_findNeeded 5 (some .int), Cond.fieldLink RX1 29 "CostStudio$Lines" "numbers" "[I", Cond.methodLink RX1 41 yX1_found, Cond.instanceMethod yX1_found, Cond.selects RX1 yX1_found yX1_found, Cond.code yX1_found cX1_found 5 (some .int), Cond.methodLink RX1 45 yX1_combined, Cond.static yX1_combined, Cond.code yX1_combined cX1_combined 5 (some .int), Cond.constantLong RX1 49 (100), Cond.constantLong RX1 51 (-99999999), Cond.constantLong RX1 53 (99999999), Cond.methodLink RX3 95 yX3_required, Cond.static yX3_required, Cond.code yX3_required cX3_required 1 (some .int), Cond.classLink RX3 82 "java/lang/UnsupportedOperationException", Cond.initialized "java/lang/UnsupportedOperationException", Cond.constant RX3 117 (-1000000000)]
def wsX3_number : List Cond := .code yX3_number cX3_number 4 (some .int) :: ((wsX3_number_r1 ++ (wsX3_number_r2 ++ wsX3_number_r3)) ++ wsX30 ++ wsX20 ++ wsX10 ++ (vx_at0 RX3 155 "java/lang/IndexOutOfBoundsException" ["java/lang/RuntimeException", "java/lang/Exception"]).filter goodWord ++ (vx_atM "java/lang/ArrayIndexOutOfBoundsException" ["java/lang/IndexOutOfBoundsException", "java/lang/RuntimeException", "java/lang/Exception"]).filter goodWord ++ (vx_at0 RX3 84 "java/lang/UnsupportedOperationException" ["java/lang/RuntimeException", "java/lang/Exception"]).filter goodWord)
def wsX3_numberByHand_r1 : List Cond := [Cond.fieldLink RX3 23 "CostStudio" "lines" "LCostStudio$Lines;", Cond.fieldLink RX3 34 "CostStudio" "inputs" "[I", Cond.methodLink RX3 55 yX3_requireScenario, Cond.instanceMethod yX3_requireScenario, Cond.selects RX3 yX3_requireScenario yX3_requireScenario, Cond.initialized RX3, Cond.code yX3_requireScenario cX3_requireScenario 2 none, Cond.classLink RX3 153 "java/lang/IndexOutOfBoundsException", Cond.initialized "java/lang/IndexOutOfBoundsException", Cond.fieldLink RX3 16 "CostStudio" "scenarios" "LCostStudio$Scenarios;", Cond.methodLink RX3 68 yX3_requireLine, Cond.instanceMethod yX3_requireLine, Cond.selects RX3 yX3_requireLine yX3_requireLine, Cond.code yX3_requireLine cX3_requireLine 2 none, Cond.methodLink RX3 58 yX3_requireMonth, Cond.static yX3_requireMonth, Cond.code yX3_requireMonth cX3_requireMonth 1 none, Cond.methodLink RX3 98 yX3_fillInputs, Cond.instanceMethod yX3_fillInputs, Cond.selects RX3 yX3_fillInputs yX3_fillInputs, Cond.code yX3_fillInputs cX3_fillInputs 5 none, Cond.fieldLink RX3 41 "CostStudio" "driverCount" "I", Cond.fieldLink RX3 9 "CostStudio" "driverValues" "[I", Cond.methodLink RX3 61 yX3_valueIn]
def wsX3_numberByHand_r2 : List Cond := [Cond.instanceMethod yX3_valueIn, Cond.selects RX3 yX3_valueIn yX3_valueIn, Cond.code yX3_valueIn cX3_valueIn 4 (some .int), Cond.instanceMethod yX2_addedTo, Cond.initialized RX2, Cond.selects RX2 yX2_addedTo yX2_addedTo, Cond.code yX2_addedTo cX2_addedTo 7 (some .int), Cond.fieldLink RX2 18 "CostStudio$Scenarios" "added" "[I", Cond.fieldLink RX2 9 "CostStudio$Scenarios" "parents" "[I", Cond.methodLink RX2 25 yX2_place, Cond.static yX2_place, Cond.code yX2_place cX2_place 3 (some .int), Cond.instanceMethod yX1_findAll, Cond.initialized RX1, Cond.selects RX1 yX1_findAll yX1_findAll, Cond.code yX1_findAll cX1_findAll 4 none, Cond.fieldLink RX1 33 "CostStudio$Lines" "count" "I", Cond.fieldLink RX1 29 "CostStudio$Lines" "numbers" "[I", Cond.methodLink RX1 41 yX1_found, Cond.instanceMethod yX1_found, Cond.selects RX1 yX1_found yX1_found, Cond.code yX1_found cX1_found 5 (some .int), Cond.fieldLink RX1 22 "CostStudio$Lines" "actuals" "[I", Cond.constant RX1 32 (-1000000000)]
def wsX3_numberByHand_r3 : List Cond := [Cond.fieldLink RX1 9 "CostStudio$Lines" "kinds" "[C", Cond.fieldLink RX1 15 "CostStudio$Lines" "ones" "[I", Cond.fieldLink RX1 19 "CostStudio$Lines" "others" "[I", Cond.static yX3_cell, Cond.code yX3_cell cX3_cell 2 (some .int), Cond.methodLink RX1 45 yX1_combined, Cond.static yX1_combined, Cond.code yX1_combined cX1_combined 5 (some .int), Cond.constantLong RX1 49 (100), Cond.constantLong RX1 51 (-99999999), Cond.constantLong RX1 53 (99999999), Cond.methodLink RX3 95 yX3_required, Cond.static yX3_required, Cond.code yX3_required cX3_required 1 (some .int), Cond.classLink RX3 82 "java/lang/UnsupportedOperationException", Cond.initialized "java/lang/UnsupportedOperationException", Cond.constant RX3 117 (-1000000000)]
def wsX3_numberByHand : List Cond := .code yX3_numberByHand cX3_numberByHand 4 (some .int) :: ((wsX3_numberByHand_r1 ++ (wsX3_numberByHand_r2 ++ wsX3_numberByHand_r3)) ++ wsX30 ++ wsX10 ++ wsX20 ++ (vx_atM "java/lang/ArrayIndexOutOfBoundsException" ["java/lang/IndexOutOfBoundsException", "java/lang/RuntimeException", "java/lang/Exception"]).filter goodWord ++ (vx_at0 RX3 155 "java/lang/IndexOutOfBoundsException" ["java/lang/RuntimeException", "java/lang/Exception"]).filter goodWord ++ (vx_at0 RX3 84 "java/lang/UnsupportedOperationException" ["java/lang/RuntimeException", "java/lang/Exception"]).filter goodWord)
def wsX3_year_r1 : List Cond := [Cond.methodLink RX3 55 yX3_requireScenario, Cond.instanceMethod yX3_requireScenario, Cond.selects RX3 yX3_requireScenario yX3_requireScenario, Cond.initialized RX3, Cond.code yX3_requireScenario cX3_requireScenario 2 none, Cond.classLink RX3 153 "java/lang/IndexOutOfBoundsException", Cond.initialized "java/lang/IndexOutOfBoundsException", Cond.fieldLink RX3 16 "CostStudio" "scenarios" "LCostStudio$Scenarios;", Cond.methodLink RX3 68 yX3_requireLine, Cond.instanceMethod yX3_requireLine, Cond.selects RX3 yX3_requireLine yX3_requireLine, Cond.code yX3_requireLine cX3_requireLine 2 none, Cond.fieldLink RX3 23 "CostStudio" "lines" "LCostStudio$Lines;", Cond.methodLink RX3 92 yX3_numberIn, Cond.instanceMethod yX3_numberIn, Cond.selects RX3 yX3_numberIn yX3_numberIn, Cond.code yX3_numberIn cX3_numberIn 5 (some .int), Cond.fieldLink RX3 34 "CostStudio" "inputs" "[I", Cond.methodLink RX3 98 yX3_fillInputs, Cond.instanceMethod yX3_fillInputs, Cond.selects RX3 yX3_fillInputs yX3_fillInputs, Cond.code yX3_fillInputs cX3_fillInputs 5 none, Cond.fieldLink RX3 41 "CostStudio" "driverCount" "I", Cond.fieldLink RX3 9 "CostStudio" "driverValues" "[I"]
def wsX3_year_r2 : List Cond := [Cond.methodLink RX3 61 yX3_valueIn, Cond.instanceMethod yX3_valueIn, Cond.selects RX3 yX3_valueIn yX3_valueIn, Cond.code yX3_valueIn cX3_valueIn 4 (some .int), Cond.instanceMethod yX2_addedTo, Cond.initialized RX2, Cond.selects RX2 yX2_addedTo yX2_addedTo, Cond.code yX2_addedTo cX2_addedTo 7 (some .int), Cond.fieldLink RX2 18 "CostStudio$Scenarios" "added" "[I", Cond.fieldLink RX2 9 "CostStudio$Scenarios" "parents" "[I", Cond.methodLink RX2 25 yX2_place, Cond.static yX2_place, Cond.code yX2_place cX2_place 3 (some .int), Cond.instanceMethod yX1_markNeeded, Cond.initialized RX1, Cond.selects RX1 yX1_markNeeded yX1_markNeeded, Cond.code yX1_markNeeded cX1_markNeeded 4 none, Cond.fieldLink RX1 25 "CostStudio$Lines" "needed" "[Z", Cond.fieldLink RX1 9 "CostStudio$Lines" "kinds" "[C", Cond.fieldLink RX1 22 "CostStudio$Lines" "actuals" "[I", Cond.constant RX1 32 (-1000000000), Cond.fieldLink RX1 15 "CostStudio$Lines" "ones" "[I", Cond.fieldLink RX1 19 "CostStudio$Lines" "others" "[I", Cond.static yX3_cell]
def wsX3_year_r3 : List Cond := [Cond.code yX3_cell cX3_cell 2 (some .int), Cond.instanceMethod yX1_findNeeded, Cond.selects RX1 yX1_findNeeded yX1_findNeeded, Cond.code yX1_findNeeded cX1_findNeeded 5 (some .int), Cond.fieldLink RX1 29 "CostStudio$Lines" "numbers" "[I", Cond.methodLink RX1 41 yX1_found, Cond.instanceMethod yX1_found, Cond.selects RX1 yX1_found yX1_found, Cond.code yX1_found cX1_found 5 (some .int), Cond.methodLink RX1 45 yX1_combined, Cond.static yX1_combined, Cond.code yX1_combined cX1_combined 5 (some .int), Cond.constantLong RX1 49 (100), Cond.constantLong RX1 51 (-99999999), Cond.constantLong RX1 53 (99999999), Cond.methodLink RX3 95 yX3_required, Cond.static yX3_required, Cond.code yX3_required cX3_required 1 (some .int), Cond.classLink RX3 82 "java/lang/UnsupportedOperationException", Cond.initialized "java/lang/UnsupportedOperationException", Cond.constant RX3 117 (-1000000000)]
def wsX3_year : List Cond := .code yX3_year cX3_year 6 (some .long) :: ((wsX3_year_r1 ++ (wsX3_year_r2 ++ wsX3_year_r3)) ++ wsX30 ++ wsX20 ++ wsX10 ++ (vx_at0 RX3 155 "java/lang/IndexOutOfBoundsException" ["java/lang/RuntimeException", "java/lang/Exception"]).filter goodWord ++ (vx_atM "java/lang/ArrayIndexOutOfBoundsException" ["java/lang/IndexOutOfBoundsException", "java/lang/RuntimeException", "java/lang/Exception"]).filter goodWord ++ (vx_at0 RX3 84 "java/lang/UnsupportedOperationException" ["java/lang/RuntimeException", "java/lang/Exception"]).filter goodWord)
def wsX3_effect_r1 : List Cond := [Cond.methodLink RX3 55 yX3_requireScenario, Cond.instanceMethod yX3_requireScenario, Cond.selects RX3 yX3_requireScenario yX3_requireScenario, Cond.initialized RX3, Cond.code yX3_requireScenario cX3_requireScenario 2 none, Cond.classLink RX3 153 "java/lang/IndexOutOfBoundsException", Cond.initialized "java/lang/IndexOutOfBoundsException", Cond.fieldLink RX3 16 "CostStudio" "scenarios" "LCostStudio$Scenarios;", Cond.methodLink RX3 48 yX3_requireDriver, Cond.instanceMethod yX3_requireDriver, Cond.selects RX3 yX3_requireDriver yX3_requireDriver, Cond.code yX3_requireDriver cX3_requireDriver 2 none, Cond.fieldLink RX3 41 "CostStudio" "driverCount" "I", Cond.methodLink RX3 68 yX3_requireLine, Cond.instanceMethod yX3_requireLine, Cond.selects RX3 yX3_requireLine yX3_requireLine, Cond.code yX3_requireLine cX3_requireLine 2 none, Cond.fieldLink RX3 23 "CostStudio" "lines" "LCostStudio$Lines;", Cond.methodLink RX3 58 yX3_requireMonth, Cond.static yX3_requireMonth, Cond.code yX3_requireMonth cX3_requireMonth 1 none, Cond.methodLink RX3 92 yX3_numberIn, Cond.instanceMethod yX3_numberIn, Cond.selects RX3 yX3_numberIn yX3_numberIn]
def wsX3_effect_r2 : List Cond := [Cond.code yX3_numberIn cX3_numberIn 5 (some .int), Cond.fieldLink RX3 34 "CostStudio" "inputs" "[I", Cond.methodLink RX3 98 yX3_fillInputs, Cond.instanceMethod yX3_fillInputs, Cond.selects RX3 yX3_fillInputs yX3_fillInputs, Cond.code yX3_fillInputs cX3_fillInputs 5 none, Cond.fieldLink RX3 9 "CostStudio" "driverValues" "[I", Cond.methodLink RX3 61 yX3_valueIn, Cond.instanceMethod yX3_valueIn, Cond.selects RX3 yX3_valueIn yX3_valueIn, Cond.code yX3_valueIn cX3_valueIn 4 (some .int), Cond.instanceMethod yX2_addedTo, Cond.initialized RX2, Cond.selects RX2 yX2_addedTo yX2_addedTo, Cond.code yX2_addedTo cX2_addedTo 7 (some .int), Cond.fieldLink RX2 18 "CostStudio$Scenarios" "added" "[I", Cond.fieldLink RX2 9 "CostStudio$Scenarios" "parents" "[I", Cond.methodLink RX2 25 yX2_place, Cond.static yX2_place, Cond.code yX2_place cX2_place 3 (some .int), Cond.instanceMethod yX1_markNeeded, Cond.initialized RX1, Cond.selects RX1 yX1_markNeeded yX1_markNeeded, Cond.code yX1_markNeeded cX1_markNeeded 4 none]
def wsX3_effect_r3 : List Cond := [Cond.fieldLink RX1 25 "CostStudio$Lines" "needed" "[Z", Cond.fieldLink RX1 9 "CostStudio$Lines" "kinds" "[C", Cond.fieldLink RX1 22 "CostStudio$Lines" "actuals" "[I", Cond.constant RX1 32 (-1000000000), Cond.fieldLink RX1 15 "CostStudio$Lines" "ones" "[I", Cond.fieldLink RX1 19 "CostStudio$Lines" "others" "[I", Cond.static yX3_cell, Cond.code yX3_cell cX3_cell 2 (some .int), Cond.instanceMethod yX1_findNeeded, Cond.selects RX1 yX1_findNeeded yX1_findNeeded, Cond.code yX1_findNeeded cX1_findNeeded 5 (some .int), Cond.fieldLink RX1 29 "CostStudio$Lines" "numbers" "[I", Cond.methodLink RX1 41 yX1_found, Cond.instanceMethod yX1_found, Cond.selects RX1 yX1_found yX1_found, Cond.code yX1_found cX1_found 5 (some .int), Cond.methodLink RX1 45 yX1_combined, Cond.static yX1_combined, Cond.code yX1_combined cX1_combined 5 (some .int), Cond.constantLong RX1 49 (100), Cond.constantLong RX1 51 (-99999999), Cond.constantLong RX1 53 (99999999), Cond.methodLink RX3 95 yX3_required, Cond.static yX3_required]
def wsX3_effect_r4 : List Cond := [Cond.code yX3_required cX3_required 1 (some .int), Cond.classLink RX3 82 "java/lang/UnsupportedOperationException", Cond.initialized "java/lang/UnsupportedOperationException", Cond.constant RX3 117 (-1000000000)]
def wsX3_effect : List Cond := .code yX3_effect cX3_effect 7 (some .int) :: ((wsX3_effect_r1 ++ (wsX3_effect_r2 ++ (wsX3_effect_r3 ++ wsX3_effect_r4))) ++ wsX30 ++ wsX20 ++ wsX10 ++ (vx_at0 RX3 155 "java/lang/IndexOutOfBoundsException" ["java/lang/RuntimeException", "java/lang/Exception"]).filter goodWord ++ (vx_atM "java/lang/ArrayIndexOutOfBoundsException" ["java/lang/IndexOutOfBoundsException", "java/lang/RuntimeException", "java/lang/Exception"]).filter goodWord ++ (vx_at0 RX3 84 "java/lang/UnsupportedOperationException" ["java/lang/RuntimeException", "java/lang/Exception"]).filter goodWord)
def wsX3_seek_r1 : List Cond := [Cond.classLink RX3 118 "java/util/NoSuchElementException", Cond.initialized "java/util/NoSuchElementException", Cond.fieldLink RX3 23 "CostStudio" "lines" "LCostStudio$Lines;", Cond.fieldLink RX3 34 "CostStudio" "inputs" "[I", Cond.constant RX3 117 (-1000000000), Cond.methodLink RX3 48 yX3_requireDriver, Cond.instanceMethod yX3_requireDriver, Cond.selects RX3 yX3_requireDriver yX3_requireDriver, Cond.initialized RX3, Cond.code yX3_requireDriver cX3_requireDriver 2 none, Cond.classLink RX3 153 "java/lang/IndexOutOfBoundsException", Cond.initialized "java/lang/IndexOutOfBoundsException", Cond.fieldLink RX3 41 "CostStudio" "driverCount" "I", Cond.methodLink RX3 68 yX3_requireLine, Cond.instanceMethod yX3_requireLine, Cond.selects RX3 yX3_requireLine yX3_requireLine, Cond.code yX3_requireLine cX3_requireLine 2 none, Cond.methodLink RX3 58 yX3_requireMonth, Cond.static yX3_requireMonth, Cond.code yX3_requireMonth cX3_requireMonth 1 none, Cond.methodLink RX3 98 yX3_fillInputs, Cond.instanceMethod yX3_fillInputs, Cond.selects RX3 yX3_fillInputs yX3_fillInputs, Cond.code yX3_fillInputs cX3_fillInputs 5 none]
def wsX3_seek_r2 : List Cond := [Cond.fieldLink RX3 9 "CostStudio" "driverValues" "[I", Cond.methodLink RX3 61 yX3_valueIn, Cond.instanceMethod yX3_valueIn, Cond.selects RX3 yX3_valueIn yX3_valueIn, Cond.code yX3_valueIn cX3_valueIn 4 (some .int), Cond.fieldLink RX3 16 "CostStudio" "scenarios" "LCostStudio$Scenarios;", Cond.instanceMethod yX2_addedTo, Cond.initialized RX2, Cond.selects RX2 yX2_addedTo yX2_addedTo, Cond.code yX2_addedTo cX2_addedTo 7 (some .int), Cond.fieldLink RX2 18 "CostStudio$Scenarios" "added" "[I", Cond.fieldLink RX2 9 "CostStudio$Scenarios" "parents" "[I", Cond.methodLink RX2 25 yX2_place, Cond.static yX2_place, Cond.code yX2_place cX2_place 3 (some .int), Cond.instanceMethod yX1_markNeeded, Cond.initialized RX1, Cond.selects RX1 yX1_markNeeded yX1_markNeeded, Cond.code yX1_markNeeded cX1_markNeeded 4 none, Cond.fieldLink RX1 25 "CostStudio$Lines" "needed" "[Z", Cond.fieldLink RX1 9 "CostStudio$Lines" "kinds" "[C", Cond.fieldLink RX1 22 "CostStudio$Lines" "actuals" "[I", Cond.constant RX1 32 (-1000000000), Cond.fieldLink RX1 15 "CostStudio$Lines" "ones" "[I"]
def wsX3_seek_r3 : List Cond := [Cond.fieldLink RX1 19 "CostStudio$Lines" "others" "[I", Cond.static yX3_cell, Cond.code yX3_cell cX3_cell 2 (some .int), Cond.instanceMethod yX1_findNeeded, Cond.selects RX1 yX1_findNeeded yX1_findNeeded, Cond.code yX1_findNeeded cX1_findNeeded 5 (some .int), Cond.fieldLink RX1 29 "CostStudio$Lines" "numbers" "[I", Cond.methodLink RX1 41 yX1_found, Cond.instanceMethod yX1_found, Cond.selects RX1 yX1_found yX1_found, Cond.code yX1_found cX1_found 5 (some .int), Cond.methodLink RX1 45 yX1_combined, Cond.static yX1_combined, Cond.code yX1_combined cX1_combined 5 (some .int), Cond.constantLong RX1 49 (100), Cond.constantLong RX1 51 (-99999999), Cond.constantLong RX1 53 (99999999)]
def wsX3_seek : List Cond := .code yX3_seek cX3_seek 7 (some .int) :: ((wsX3_seek_r1 ++ (wsX3_seek_r2 ++ wsX3_seek_r3)) ++ wsX30 ++ wsX10 ++ wsX20 ++ (vx_atM "java/lang/ArrayIndexOutOfBoundsException" ["java/lang/IndexOutOfBoundsException", "java/lang/RuntimeException", "java/lang/Exception"]).filter goodWord ++ (vx_at0 RX3 120 "java/util/NoSuchElementException" ["java/lang/RuntimeException", "java/lang/Exception"]).filter goodWord ++ (vx_at0 RX3 155 "java/lang/IndexOutOfBoundsException" ["java/lang/RuntimeException", "java/lang/Exception"]).filter goodWord)
def wsX3_actual_r1 : List Cond := [Cond.classLink RX3 65 "java/lang/IllegalArgumentException", Cond.initialized "java/lang/IllegalArgumentException", Cond.fieldLink RX3 121 "CostStudio" "presentMonth" "I", Cond.constant RX3 124 (-9999999), Cond.constant RX3 125 (9999999), Cond.fieldLink RX3 23 "CostStudio" "lines" "LCostStudio$Lines;", Cond.methodLink RX3 68 yX3_requireLine, Cond.instanceMethod yX3_requireLine, Cond.selects RX3 yX3_requireLine yX3_requireLine, Cond.initialized RX3, Cond.code yX3_requireLine cX3_requireLine 2 none, Cond.classLink RX3 153 "java/lang/IndexOutOfBoundsException", Cond.initialized "java/lang/IndexOutOfBoundsException", Cond.methodLink RX3 58 yX3_requireMonth, Cond.static yX3_requireMonth, Cond.code yX3_requireMonth cX3_requireMonth 1 none, Cond.methodLink RX3 129 yX3_cell, Cond.static yX3_cell, Cond.code yX3_cell cX3_cell 2 (some .int), Cond.methodLink RX3 51 yX3_reopenDrifted, Cond.instanceMethod yX3_reopenDrifted, Cond.selects RX3 yX3_reopenDrifted yX3_reopenDrifted, Cond.code yX3_reopenDrifted cX3_reopenDrifted 4 (some .int), Cond.fieldLink RX3 34 "CostStudio" "inputs" "[I"]
def wsX3_actual_r2 : List Cond := [Cond.fieldLink RX3 30 "CostStudio" "approvals" "LCostStudio$Approvals;", Cond.methodLink RX3 98 yX3_fillInputs, Cond.instanceMethod yX3_fillInputs, Cond.selects RX3 yX3_fillInputs yX3_fillInputs, Cond.code yX3_fillInputs cX3_fillInputs 5 none, Cond.fieldLink RX3 41 "CostStudio" "driverCount" "I", Cond.fieldLink RX3 9 "CostStudio" "driverValues" "[I", Cond.methodLink RX3 61 yX3_valueIn, Cond.instanceMethod yX3_valueIn, Cond.selects RX3 yX3_valueIn yX3_valueIn, Cond.code yX3_valueIn cX3_valueIn 4 (some .int), Cond.fieldLink RX3 16 "CostStudio" "scenarios" "LCostStudio$Scenarios;", Cond.instanceMethod yX2_addedTo, Cond.initialized RX2, Cond.selects RX2 yX2_addedTo yX2_addedTo, Cond.code yX2_addedTo cX2_addedTo 7 (some .int), Cond.fieldLink RX2 18 "CostStudio$Scenarios" "added" "[I", Cond.fieldLink RX2 9 "CostStudio$Scenarios" "parents" "[I", Cond.methodLink RX2 25 yX2_place, Cond.static yX2_place, Cond.code yX2_place cX2_place 3 (some .int), Cond.instanceMethod yX1_findAll, Cond.initialized RX1, Cond.selects RX1 yX1_findAll yX1_findAll]
def wsX3_actual_r3 : List Cond := [Cond.code yX1_findAll cX1_findAll 4 none, Cond.fieldLink RX1 33 "CostStudio$Lines" "count" "I", Cond.fieldLink RX1 29 "CostStudio$Lines" "numbers" "[I", Cond.methodLink RX1 41 yX1_found, Cond.instanceMethod yX1_found, Cond.selects RX1 yX1_found yX1_found, Cond.code yX1_found cX1_found 5 (some .int), Cond.fieldLink RX1 22 "CostStudio$Lines" "actuals" "[I", Cond.constant RX1 32 (-1000000000), Cond.fieldLink RX1 9 "CostStudio$Lines" "kinds" "[C", Cond.fieldLink RX1 15 "CostStudio$Lines" "ones" "[I", Cond.fieldLink RX1 19 "CostStudio$Lines" "others" "[I", Cond.methodLink RX1 45 yX1_combined, Cond.static yX1_combined, Cond.code yX1_combined cX1_combined 5 (some .int), Cond.constantLong RX1 49 (100), Cond.constantLong RX1 51 (-99999999), Cond.constantLong RX1 53 (99999999), Cond.instanceMethod yX0_reopenIfDrifted, Cond.initialized RX0, Cond.selects RX0 yX0_reopenIfDrifted yX0_reopenIfDrifted, Cond.code yX0_reopenIfDrifted cX0_reopenIfDrifted 3 (some .boolean), Cond.fieldLink RX0 9 "CostStudio$Approvals" "states" "[C", Cond.methodLink RX0 22 yX0_isDrifted]
def wsX3_actual_r4 : List Cond := [Cond.instanceMethod yX0_isDrifted, Cond.selects RX0 yX0_isDrifted yX0_isDrifted, Cond.code yX0_isDrifted cX0_isDrifted 3 (some .boolean), Cond.constant RX0 26 (-1000000000), Cond.fieldLink RX0 15 "CostStudio$Approvals" "keptNumbers" "[I", Cond.methodLink RX0 27 Lib.Math.abs.name, Cond.static Lib.Math.abs.name, Cond.initialized "java/lang/Math", Cond.code Lib.Math.abs.name Lib.Math.abs.code 1 (some .int), Cond.fieldLink RX0 19 "CostStudio$Approvals" "tolerances" "[I"]
def wsX3_actual : List Cond := .code yX3_actual cX3_actual 4 (some .int) :: ((wsX3_actual_r1 ++ (wsX3_actual_r2 ++ (wsX3_actual_r3 ++ wsX3_actual_r4))) ++ wsX30 ++ wsX10 ++ wsX20 ++ wsX00 ++ (vx_at0 RX3 67 "java/lang/IllegalArgumentException" ["java/lang/RuntimeException", "java/lang/Exception"]).filter goodWord ++ (vx_atM "java/lang/ArrayIndexOutOfBoundsException" ["java/lang/IndexOutOfBoundsException", "java/lang/RuntimeException", "java/lang/Exception"]).filter goodWord ++ (vx_at0 RX3 155 "java/lang/IndexOutOfBoundsException" ["java/lang/RuntimeException", "java/lang/Exception"]).filter goodWord)
def wsX3_takeActual_r1 : List Cond := [Cond.classLink RX3 118 "java/util/NoSuchElementException", Cond.initialized "java/util/NoSuchElementException", Cond.fieldLink RX3 23 "CostStudio" "lines" "LCostStudio$Lines;", Cond.constant RX3 117 (-1000000000), Cond.methodLink RX3 68 yX3_requireLine, Cond.instanceMethod yX3_requireLine, Cond.selects RX3 yX3_requireLine yX3_requireLine, Cond.initialized RX3, Cond.code yX3_requireLine cX3_requireLine 2 none, Cond.classLink RX3 153 "java/lang/IndexOutOfBoundsException", Cond.initialized "java/lang/IndexOutOfBoundsException", Cond.methodLink RX3 58 yX3_requireMonth, Cond.static yX3_requireMonth, Cond.code yX3_requireMonth cX3_requireMonth 1 none, Cond.methodLink RX3 129 yX3_cell, Cond.static yX3_cell, Cond.code yX3_cell cX3_cell 2 (some .int), Cond.methodLink RX3 51 yX3_reopenDrifted, Cond.instanceMethod yX3_reopenDrifted, Cond.selects RX3 yX3_reopenDrifted yX3_reopenDrifted, Cond.code yX3_reopenDrifted cX3_reopenDrifted 4 (some .int), Cond.fieldLink RX3 34 "CostStudio" "inputs" "[I", Cond.fieldLink RX3 30 "CostStudio" "approvals" "LCostStudio$Approvals;", Cond.methodLink RX3 98 yX3_fillInputs]
def wsX3_takeActual_r2 : List Cond := [Cond.instanceMethod yX3_fillInputs, Cond.selects RX3 yX3_fillInputs yX3_fillInputs, Cond.code yX3_fillInputs cX3_fillInputs 5 none, Cond.fieldLink RX3 41 "CostStudio" "driverCount" "I", Cond.fieldLink RX3 9 "CostStudio" "driverValues" "[I", Cond.methodLink RX3 61 yX3_valueIn, Cond.instanceMethod yX3_valueIn, Cond.selects RX3 yX3_valueIn yX3_valueIn, Cond.code yX3_valueIn cX3_valueIn 4 (some .int), Cond.fieldLink RX3 16 "CostStudio" "scenarios" "LCostStudio$Scenarios;", Cond.instanceMethod yX2_addedTo, Cond.initialized RX2, Cond.selects RX2 yX2_addedTo yX2_addedTo, Cond.code yX2_addedTo cX2_addedTo 7 (some .int), Cond.fieldLink RX2 18 "CostStudio$Scenarios" "added" "[I", Cond.fieldLink RX2 9 "CostStudio$Scenarios" "parents" "[I", Cond.methodLink RX2 25 yX2_place, Cond.static yX2_place, Cond.code yX2_place cX2_place 3 (some .int), Cond.instanceMethod yX1_findAll, Cond.initialized RX1, Cond.selects RX1 yX1_findAll yX1_findAll, Cond.code yX1_findAll cX1_findAll 4 none, Cond.fieldLink RX1 33 "CostStudio$Lines" "count" "I"]
def wsX3_takeActual_r3 : List Cond := [Cond.fieldLink RX1 29 "CostStudio$Lines" "numbers" "[I", Cond.methodLink RX1 41 yX1_found, Cond.instanceMethod yX1_found, Cond.selects RX1 yX1_found yX1_found, Cond.code yX1_found cX1_found 5 (some .int), Cond.fieldLink RX1 22 "CostStudio$Lines" "actuals" "[I", Cond.constant RX1 32 (-1000000000), Cond.fieldLink RX1 9 "CostStudio$Lines" "kinds" "[C", Cond.fieldLink RX1 15 "CostStudio$Lines" "ones" "[I", Cond.fieldLink RX1 19 "CostStudio$Lines" "others" "[I", Cond.methodLink RX1 45 yX1_combined, Cond.static yX1_combined, Cond.code yX1_combined cX1_combined 5 (some .int), Cond.constantLong RX1 49 (100), Cond.constantLong RX1 51 (-99999999), Cond.constantLong RX1 53 (99999999), Cond.instanceMethod yX0_reopenIfDrifted, Cond.initialized RX0, Cond.selects RX0 yX0_reopenIfDrifted yX0_reopenIfDrifted, Cond.code yX0_reopenIfDrifted cX0_reopenIfDrifted 3 (some .boolean), Cond.fieldLink RX0 9 "CostStudio$Approvals" "states" "[C", Cond.methodLink RX0 22 yX0_isDrifted, Cond.instanceMethod yX0_isDrifted, Cond.selects RX0 yX0_isDrifted yX0_isDrifted]
def wsX3_takeActual_r4 : List Cond := [Cond.code yX0_isDrifted cX0_isDrifted 3 (some .boolean), Cond.constant RX0 26 (-1000000000), Cond.fieldLink RX0 15 "CostStudio$Approvals" "keptNumbers" "[I", Cond.methodLink RX0 27 Lib.Math.abs.name, Cond.static Lib.Math.abs.name, Cond.initialized "java/lang/Math", Cond.code Lib.Math.abs.name Lib.Math.abs.code 1 (some .int), Cond.fieldLink RX0 19 "CostStudio$Approvals" "tolerances" "[I"]
def wsX3_takeActual : List Cond := .code yX3_takeActual cX3_takeActual 3 (some .int) :: ((wsX3_takeActual_r1 ++ (wsX3_takeActual_r2 ++ (wsX3_takeActual_r3 ++ wsX3_takeActual_r4))) ++ wsX30 ++ wsX10 ++ wsX20 ++ wsX00 ++ (vx_atM "java/lang/ArrayIndexOutOfBoundsException" ["java/lang/IndexOutOfBoundsException", "java/lang/RuntimeException", "java/lang/Exception"]).filter goodWord ++ (vx_at0 RX3 120 "java/util/NoSuchElementException" ["java/lang/RuntimeException", "java/lang/Exception"]).filter goodWord ++ (vx_at0 RX3 155 "java/lang/IndexOutOfBoundsException" ["java/lang/RuntimeException", "java/lang/Exception"]).filter goodWord)
def wsX3_pass : List Cond := .code yX3_pass cX3_pass 1 (some .int) :: ([.classLink RX3 45 "java/lang/IllegalStateException", .initialized "java/lang/IllegalStateException", .fieldLink RX3 121 "CostStudio" "presentMonth" "I"] ++ wsX30 ++ (vx_at0 RX3 47 "java/lang/IllegalStateException" ["java/lang/RuntimeException", "java/lang/Exception"]).filter goodWord)
def wsX3_month : List Cond := .code yX3_month cX3_month 1 (some .int) :: ([.fieldLink RX3 121 "CostStudio" "presentMonth" "I"] ++ wsX30)
def wsX3_approve_r1 : List Cond := [Cond.classLink RX3 65 "java/lang/IllegalArgumentException", Cond.initialized "java/lang/IllegalArgumentException", Cond.fieldLink RX3 30 "CostStudio" "approvals" "LCostStudio$Approvals;", Cond.methodLink RX3 68 yX3_requireLine, Cond.instanceMethod yX3_requireLine, Cond.selects RX3 yX3_requireLine yX3_requireLine, Cond.initialized RX3, Cond.code yX3_requireLine cX3_requireLine 2 none, Cond.classLink RX3 153 "java/lang/IndexOutOfBoundsException", Cond.initialized "java/lang/IndexOutOfBoundsException", Cond.fieldLink RX3 23 "CostStudio" "lines" "LCostStudio$Lines;", Cond.methodLink RX3 58 yX3_requireMonth, Cond.static yX3_requireMonth, Cond.code yX3_requireMonth cX3_requireMonth 1 none, Cond.methodLink RX3 92 yX3_numberIn, Cond.instanceMethod yX3_numberIn, Cond.selects RX3 yX3_numberIn yX3_numberIn, Cond.code yX3_numberIn cX3_numberIn 5 (some .int), Cond.fieldLink RX3 34 "CostStudio" "inputs" "[I", Cond.methodLink RX3 98 yX3_fillInputs, Cond.instanceMethod yX3_fillInputs, Cond.selects RX3 yX3_fillInputs yX3_fillInputs, Cond.code yX3_fillInputs cX3_fillInputs 5 none, Cond.fieldLink RX3 41 "CostStudio" "driverCount" "I"]
def wsX3_approve_r2 : List Cond := [Cond.fieldLink RX3 9 "CostStudio" "driverValues" "[I", Cond.methodLink RX3 61 yX3_valueIn, Cond.instanceMethod yX3_valueIn, Cond.selects RX3 yX3_valueIn yX3_valueIn, Cond.code yX3_valueIn cX3_valueIn 4 (some .int), Cond.fieldLink RX3 16 "CostStudio" "scenarios" "LCostStudio$Scenarios;", Cond.instanceMethod yX2_addedTo, Cond.initialized RX2, Cond.selects RX2 yX2_addedTo yX2_addedTo, Cond.code yX2_addedTo cX2_addedTo 7 (some .int), Cond.fieldLink RX2 18 "CostStudio$Scenarios" "added" "[I", Cond.fieldLink RX2 9 "CostStudio$Scenarios" "parents" "[I", Cond.methodLink RX2 25 yX2_place, Cond.static yX2_place, Cond.code yX2_place cX2_place 3 (some .int), Cond.instanceMethod yX1_markNeeded, Cond.initialized RX1, Cond.selects RX1 yX1_markNeeded yX1_markNeeded, Cond.code yX1_markNeeded cX1_markNeeded 4 none, Cond.fieldLink RX1 25 "CostStudio$Lines" "needed" "[Z", Cond.fieldLink RX1 9 "CostStudio$Lines" "kinds" "[C", Cond.fieldLink RX1 22 "CostStudio$Lines" "actuals" "[I", Cond.constant RX1 32 (-1000000000), Cond.fieldLink RX1 15 "CostStudio$Lines" "ones" "[I"]
def wsX3_approve_r3 : List Cond := [Cond.fieldLink RX1 19 "CostStudio$Lines" "others" "[I", Cond.static yX3_cell, Cond.code yX3_cell cX3_cell 2 (some .int), Cond.instanceMethod yX1_findNeeded, Cond.selects RX1 yX1_findNeeded yX1_findNeeded, Cond.code yX1_findNeeded cX1_findNeeded 5 (some .int), Cond.fieldLink RX1 29 "CostStudio$Lines" "numbers" "[I", Cond.methodLink RX1 41 yX1_found, Cond.instanceMethod yX1_found, Cond.selects RX1 yX1_found yX1_found, Cond.code yX1_found cX1_found 5 (some .int), Cond.methodLink RX1 45 yX1_combined, Cond.static yX1_combined, Cond.code yX1_combined cX1_combined 5 (some .int), Cond.constantLong RX1 49 (100), Cond.constantLong RX1 51 (-99999999), Cond.constantLong RX1 53 (99999999), Cond.methodLink RX3 95 yX3_required, Cond.static yX3_required, Cond.code yX3_required cX3_required 1 (some .int), Cond.classLink RX3 82 "java/lang/UnsupportedOperationException", Cond.initialized "java/lang/UnsupportedOperationException", Cond.constant RX3 117 (-1000000000), Cond.methodLink RX3 129 yX3_cell]
def wsX3_approve_r4 : List Cond := [Cond.instanceMethod yX0_keep, Cond.initialized RX0, Cond.selects RX0 yX0_keep yX0_keep, Cond.code yX0_keep cX0_keep 4 none, Cond.fieldLink RX0 9 "CostStudio$Approvals" "states" "[C", Cond.fieldLink RX0 15 "CostStudio$Approvals" "keptNumbers" "[I", Cond.fieldLink RX0 19 "CostStudio$Approvals" "tolerances" "[I"]
def wsX3_approve : List Cond := .code yX3_approve cX3_approve 5 (some .int) :: ((wsX3_approve_r1 ++ (wsX3_approve_r2 ++ (wsX3_approve_r3 ++ wsX3_approve_r4))) ++ wsX30 ++ wsX10 ++ wsX20 ++ wsX00 ++ (vx_at0 RX3 67 "java/lang/IllegalArgumentException" ["java/lang/RuntimeException", "java/lang/Exception"]).filter goodWord ++ (vx_at0 RX3 155 "java/lang/IndexOutOfBoundsException" ["java/lang/RuntimeException", "java/lang/Exception"]).filter goodWord ++ (vx_atM "java/lang/ArrayIndexOutOfBoundsException" ["java/lang/IndexOutOfBoundsException", "java/lang/RuntimeException", "java/lang/Exception"]).filter goodWord ++ (vx_at0 RX3 84 "java/lang/UnsupportedOperationException" ["java/lang/RuntimeException", "java/lang/Exception"]).filter goodWord)
def wsX3_state : List Cond := .code yX3_state cX3_state 3 (some .char) :: ([.fieldLink RX3 30 "CostStudio" "approvals" "LCostStudio$Approvals;", .methodLink RX3 68 yX3_requireLine, .instanceMethod yX3_requireLine, .selects RX3 yX3_requireLine yX3_requireLine, .initialized RX3, .code yX3_requireLine cX3_requireLine 2 none, .classLink RX3 153 "java/lang/IndexOutOfBoundsException", .initialized "java/lang/IndexOutOfBoundsException", .fieldLink RX3 23 "CostStudio" "lines" "LCostStudio$Lines;", .methodLink RX3 58 yX3_requireMonth, .static yX3_requireMonth, .code yX3_requireMonth cX3_requireMonth 1 none, .methodLink RX3 129 yX3_cell, .static yX3_cell, .code yX3_cell cX3_cell 2 (some .int)] ++ wsX30 ++ wsX00 ++ wsX10 ++ (vx_atM "java/lang/ArrayIndexOutOfBoundsException" ["java/lang/IndexOutOfBoundsException", "java/lang/RuntimeException", "java/lang/Exception"]).filter goodWord ++ (vx_at0 RX3 155 "java/lang/IndexOutOfBoundsException" ["java/lang/RuntimeException", "java/lang/Exception"]).filter goodWord)
def wsX3_drift_r1 : List Cond := [Cond.classLink RX3 118 "java/util/NoSuchElementException", Cond.initialized "java/util/NoSuchElementException", Cond.fieldLink RX3 30 "CostStudio" "approvals" "LCostStudio$Approvals;", Cond.methodLink RX3 68 yX3_requireLine, Cond.instanceMethod yX3_requireLine, Cond.selects RX3 yX3_requireLine yX3_requireLine, Cond.initialized RX3, Cond.code yX3_requireLine cX3_requireLine 2 none, Cond.classLink RX3 153 "java/lang/IndexOutOfBoundsException", Cond.initialized "java/lang/IndexOutOfBoundsException", Cond.fieldLink RX3 23 "CostStudio" "lines" "LCostStudio$Lines;", Cond.methodLink RX3 58 yX3_requireMonth, Cond.static yX3_requireMonth, Cond.code yX3_requireMonth cX3_requireMonth 1 none, Cond.methodLink RX3 129 yX3_cell, Cond.static yX3_cell, Cond.code yX3_cell cX3_cell 2 (some .int), Cond.methodLink RX3 92 yX3_numberIn, Cond.instanceMethod yX3_numberIn, Cond.selects RX3 yX3_numberIn yX3_numberIn, Cond.code yX3_numberIn cX3_numberIn 5 (some .int), Cond.fieldLink RX3 34 "CostStudio" "inputs" "[I", Cond.methodLink RX3 98 yX3_fillInputs, Cond.instanceMethod yX3_fillInputs]
def wsX3_drift_r2 : List Cond := [Cond.selects RX3 yX3_fillInputs yX3_fillInputs, Cond.code yX3_fillInputs cX3_fillInputs 5 none, Cond.fieldLink RX3 41 "CostStudio" "driverCount" "I", Cond.fieldLink RX3 9 "CostStudio" "driverValues" "[I", Cond.methodLink RX3 61 yX3_valueIn, Cond.instanceMethod yX3_valueIn, Cond.selects RX3 yX3_valueIn yX3_valueIn, Cond.code yX3_valueIn cX3_valueIn 4 (some .int), Cond.fieldLink RX3 16 "CostStudio" "scenarios" "LCostStudio$Scenarios;", Cond.instanceMethod yX2_addedTo, Cond.initialized RX2, Cond.selects RX2 yX2_addedTo yX2_addedTo, Cond.code yX2_addedTo cX2_addedTo 7 (some .int), Cond.fieldLink RX2 18 "CostStudio$Scenarios" "added" "[I", Cond.fieldLink RX2 9 "CostStudio$Scenarios" "parents" "[I", Cond.methodLink RX2 25 yX2_place, Cond.static yX2_place, Cond.code yX2_place cX2_place 3 (some .int), Cond.instanceMethod yX1_markNeeded, Cond.initialized RX1, Cond.selects RX1 yX1_markNeeded yX1_markNeeded, Cond.code yX1_markNeeded cX1_markNeeded 4 none, Cond.fieldLink RX1 25 "CostStudio$Lines" "needed" "[Z", Cond.fieldLink RX1 9 "CostStudio$Lines" "kinds" "[C"]
def wsX3_drift_r3 : List Cond := [Cond.fieldLink RX1 22 "CostStudio$Lines" "actuals" "[I", Cond.constant RX1 32 (-1000000000), Cond.fieldLink RX1 15 "CostStudio$Lines" "ones" "[I", Cond.fieldLink RX1 19 "CostStudio$Lines" "others" "[I", Cond.instanceMethod yX1_findNeeded, Cond.selects RX1 yX1_findNeeded yX1_findNeeded, Cond.code yX1_findNeeded cX1_findNeeded 5 (some .int), Cond.fieldLink RX1 29 "CostStudio$Lines" "numbers" "[I", Cond.methodLink RX1 41 yX1_found, Cond.instanceMethod yX1_found, Cond.selects RX1 yX1_found yX1_found, Cond.code yX1_found cX1_found 5 (some .int), Cond.methodLink RX1 45 yX1_combined, Cond.static yX1_combined, Cond.code yX1_combined cX1_combined 5 (some .int), Cond.constantLong RX1 49 (100), Cond.constantLong RX1 51 (-99999999), Cond.constantLong RX1 53 (99999999), Cond.methodLink RX3 95 yX3_required, Cond.static yX3_required, Cond.code yX3_required cX3_required 1 (some .int), Cond.classLink RX3 82 "java/lang/UnsupportedOperationException", Cond.initialized "java/lang/UnsupportedOperationException", Cond.constant RX3 117 (-1000000000)]
def wsX3_drift : List Cond := .code yX3_drift cX3_drift 4 (some .int) :: ((wsX3_drift_r1 ++ (wsX3_drift_r2 ++ wsX3_drift_r3)) ++ wsX30 ++ wsX00 ++ wsX10 ++ wsX20 ++ (vx_atM "java/lang/ArrayIndexOutOfBoundsException" ["java/lang/IndexOutOfBoundsException", "java/lang/RuntimeException", "java/lang/Exception"]).filter goodWord ++ (vx_at0 RX3 120 "java/util/NoSuchElementException" ["java/lang/RuntimeException", "java/lang/Exception"]).filter goodWord ++ (vx_at0 RX3 155 "java/lang/IndexOutOfBoundsException" ["java/lang/RuntimeException", "java/lang/Exception"]).filter goodWord ++ (vx_at0 RX3 84 "java/lang/UnsupportedOperationException" ["java/lang/RuntimeException", "java/lang/Exception"]).filter goodWord)
def wsX3_open : List Cond := .code yX3_open cX3_open 1 (some .int) :: ([.fieldLink RX3 30 "CostStudio" "approvals" "LCostStudio$Approvals;", .instanceMethod yX0_countIn, .initialized RX0, .selects RX0 yX0_countIn yX0_countIn, .code yX0_countIn cX0_countIn 4 (some .int), .fieldLink RX0 9 "CostStudio$Approvals" "states" "[C"] ++ wsX30 ++ wsX00 ++ (vx_atM "java/lang/ArrayIndexOutOfBoundsException" ["java/lang/IndexOutOfBoundsException", "java/lang/RuntimeException", "java/lang/Exception"]).filter goodWord)
def wsX3_approvedShare : List Cond := .code yX3_approvedShare cX3_approvedShare 3 (some .float) :: ([.classLink RX3 147 "java/lang/ArithmeticException", .initialized "java/lang/ArithmeticException", .fieldLink RX3 30 "CostStudio" "approvals" "LCostStudio$Approvals;", .instanceMethod yX0_countIn, .initialized RX0, .selects RX0 yX0_countIn yX0_countIn, .code yX0_countIn cX0_countIn 4 (some .int), .fieldLink RX0 9 "CostStudio$Approvals" "states" "[C"] ++ wsX30 ++ wsX00 ++ (vx_at0 RX3 149 "java/lang/ArithmeticException" ["java/lang/RuntimeException", "java/lang/Exception"]).filter goodWord ++ (vx_atM "java/lang/ArrayIndexOutOfBoundsException" ["java/lang/IndexOutOfBoundsException", "java/lang/RuntimeException", "java/lang/Exception"]).filter goodWord)
def wsX3_meanTolerance : List Cond := .code yX3_meanTolerance cX3_meanTolerance 2 (some .double) :: ([.classLink RX3 147 "java/lang/ArithmeticException", .initialized "java/lang/ArithmeticException", .fieldLink RX3 30 "CostStudio" "approvals" "LCostStudio$Approvals;", .instanceMethod yX0_countIn, .initialized RX0, .selects RX0 yX0_countIn yX0_countIn, .code yX0_countIn cX0_countIn 4 (some .int), .fieldLink RX0 9 "CostStudio$Approvals" "states" "[C", .instanceMethod yX0_sumOfTolerances, .selects RX0 yX0_sumOfTolerances yX0_sumOfTolerances, .code yX0_sumOfTolerances cX0_sumOfTolerances 3 (some .int), .fieldLink RX0 19 "CostStudio$Approvals" "tolerances" "[I"] ++ wsX30 ++ wsX00 ++ (vx_at0 RX3 149 "java/lang/ArithmeticException" ["java/lang/RuntimeException", "java/lang/Exception"]).filter goodWord ++ (vx_atM "java/lang/ArrayIndexOutOfBoundsException" ["java/lang/IndexOutOfBoundsException", "java/lang/RuntimeException", "java/lang/Exception"]).filter goodWord)
def wsX4_init_r1 : List Cond := [Cond.methodLink RX4 1 objectInit, Cond.instanceMethod objectInit, Cond.code objectInit ⟨#[0xb1]⟩ 1 none, Cond.arrayClass .int, Cond.fieldLink RX4 7 "CostStudioModel" "values" "[I", Cond.fieldLink RX4 13 "CostStudioModel" "kindsOf" "[I", Cond.fieldLink RX4 16 "CostStudioModel" "ones" "[I", Cond.fieldLink RX4 19 "CostStudioModel" "others" "[I", Cond.fieldLink RX4 22 "CostStudioModel" "parents" "[I", Cond.fieldLink RX4 25 "CostStudioModel" "scenarioOf" "[I", Cond.fieldLink RX4 28 "CostStudioModel" "driverOf" "[I", Cond.fieldLink RX4 31 "CostStudioModel" "fromOf" "[I", Cond.fieldLink RX4 34 "CostStudioModel" "numberOf" "[I", Cond.fieldLink RX4 37 "CostStudioModel" "actuals" "[I", Cond.fieldLink RX4 40 "CostStudioModel" "kept" "[I", Cond.fieldLink RX4 43 "CostStudioModel" "tolerances" "[I", Cond.arrayClass .boolean, Cond.fieldLink RX4 46 "CostStudioModel" "hasActual" "[Z", Cond.fieldLink RX4 50 "CostStudioModel" "isFound" "[Z", Cond.arrayClass .char, Cond.fieldLink RX4 53 "CostStudioModel" "approvals" "[C", Cond.arrayClass .long, Cond.fieldLink RX4 57 "CostStudioModel" "found" "[J", Cond.fieldLink RX4 61 "CostStudioModel" "thrown" "I"]
def wsX4_init_r2 : List Cond := [Cond.fieldLink RX4 65 "CostStudioModel" "drivers" "I", Cond.fieldLink RX4 68 "CostStudioModel" "lines" "I", Cond.fieldLink RX4 71 "CostStudioModel" "scenarios" "I", Cond.fieldLink RX4 74 "CostStudioModel" "differences" "I", Cond.fieldLink RX4 77 "CostStudioModel" "month" "I"]
def wsX4_init : List Cond := .code yX4_init cX4_init 2 none :: ((wsX4_init_r1 ++ wsX4_init_r2) ++ wsX40 ++ (vx_atM "java/lang/ArrayIndexOutOfBoundsException" ["java/lang/IndexOutOfBoundsException", "java/lang/RuntimeException", "java/lang/Exception"]).filter goodWord)
def wsX4_thrown : List Cond := .code yX4_thrown cX4_thrown 1 (some .int) :: ([.fieldLink RX4 61 "CostStudioModel" "thrown" "I"] ++ wsX40)
def wsX4_in : List Cond := .code yX4_in cX4_in 3 (some .boolean) :: ([])
def wsX4_checked : List Cond := .code yX4_checked cX4_checked 2 (some .int) :: ([.fieldLink RX4 61 "CostStudioModel" "thrown" "I"] ++ wsX40)
def wsX4_isDriver : List Cond := .code yX4_isDriver cX4_isDriver 2 (some .boolean) :: ([.fieldLink RX4 65 "CostStudioModel" "drivers" "I", .methodLink RX4 80 yX4_in, .static yX4_in, .initialized RX4, .code yX4_in cX4_in 3 (some .boolean)] ++ wsX40)
def wsX4_isLine : List Cond := .code yX4_isLine cX4_isLine 2 (some .boolean) :: ([.fieldLink RX4 68 "CostStudioModel" "lines" "I", .methodLink RX4 80 yX4_in, .static yX4_in, .initialized RX4, .code yX4_in cX4_in 3 (some .boolean)] ++ wsX40)
def wsX4_isScenario : List Cond := .code yX4_isScenario cX4_isScenario 2 (some .boolean) :: ([.fieldLink RX4 71 "CostStudioModel" "scenarios" "I", .methodLink RX4 80 yX4_in, .static yX4_in, .initialized RX4, .code yX4_in cX4_in 3 (some .boolean)] ++ wsX40)
def wsX4_isMonth : List Cond := .code yX4_isMonth cX4_isMonth 1 (some .boolean) :: ([.methodLink RX4 80 yX4_in, .static yX4_in, .initialized RX4, .code yX4_in cX4_in 3 (some .boolean)])
def wsX4_at : List Cond := .code yX4_at cX4_at 2 (some .int) :: ([])
def wsX4_isUnder : List Cond := .code yX4_isUnder cX4_isUnder 4 (some .boolean) :: ([.fieldLink RX4 22 "CostStudioModel" "parents" "[I"] ++ wsX40 ++ (vx_atM "java/lang/ArrayIndexOutOfBoundsException" ["java/lang/IndexOutOfBoundsException", "java/lang/RuntimeException", "java/lang/Exception"]).filter goodWord)
def wsX4_valueIn : List Cond := .code yX4_valueIn cX4_valueIn 7 (some .int) :: ([.fieldLink RX4 7 "CostStudioModel" "values" "[I", .fieldLink RX4 74 "CostStudioModel" "differences" "I", .fieldLink RX4 28 "CostStudioModel" "driverOf" "[I", .fieldLink RX4 31 "CostStudioModel" "fromOf" "[I", .fieldLink RX4 25 "CostStudioModel" "scenarioOf" "[I", .fieldLink RX4 34 "CostStudioModel" "numberOf" "[I", .methodLink RX4 84 yX4_isUnder, .instanceMethod yX4_isUnder, .selects RX4 yX4_isUnder yX4_isUnder, .initialized RX4, .code yX4_isUnder cX4_isUnder 4 (some .boolean), .fieldLink RX4 22 "CostStudioModel" "parents" "[I"] ++ wsX40 ++ (vx_atM "java/lang/ArrayIndexOutOfBoundsException" ["java/lang/IndexOutOfBoundsException", "java/lang/RuntimeException", "java/lang/Exception"]).filter goodWord)
def wsX4_byKind : List Cond := .code yX4_byKind cX4_byKind 9 (some .long) :: ([.fieldLink RX4 13 "CostStudioModel" "kindsOf" "[I", .fieldLink RX4 16 "CostStudioModel" "ones" "[I", .fieldLink RX4 57 "CostStudioModel" "found" "[J", .fieldLink RX4 19 "CostStudioModel" "others" "[I", .constantLong RX4 92 (100), .methodLink RX4 88 yX4_valueIn, .instanceMethod yX4_valueIn, .selects RX4 yX4_valueIn yX4_valueIn, .initialized RX4, .code yX4_valueIn cX4_valueIn 7 (some .int), .fieldLink RX4 7 "CostStudioModel" "values" "[I", .fieldLink RX4 74 "CostStudioModel" "differences" "I", .fieldLink RX4 28 "CostStudioModel" "driverOf" "[I", .fieldLink RX4 31 "CostStudioModel" "fromOf" "[I", .fieldLink RX4 25 "CostStudioModel" "scenarioOf" "[I", .fieldLink RX4 34 "CostStudioModel" "numberOf" "[I", .methodLink RX4 84 yX4_isUnder, .instanceMethod yX4_isUnder, .selects RX4 yX4_isUnder yX4_isUnder, .code yX4_isUnder cX4_isUnder 4 (some .boolean), .fieldLink RX4 22 "CostStudioModel" "parents" "[I"] ++ wsX40 ++ (vx_atM "java/lang/ArrayIndexOutOfBoundsException" ["java/lang/IndexOutOfBoundsException", "java/lang/RuntimeException", "java/lang/Exception"]).filter goodWord)
def wsX4_finds_r1 : List Cond := [Cond.fieldLink RX4 46 "CostStudioModel" "hasActual" "[Z", Cond.fieldLink RX4 13 "CostStudioModel" "kindsOf" "[I", Cond.fieldLink RX4 50 "CostStudioModel" "isFound" "[Z", Cond.fieldLink RX4 16 "CostStudioModel" "ones" "[I", Cond.fieldLink RX4 19 "CostStudioModel" "others" "[I", Cond.fieldLink RX4 57 "CostStudioModel" "found" "[J", Cond.fieldLink RX4 37 "CostStudioModel" "actuals" "[I", Cond.constantLong RX4 102 (-99999999), Cond.constantLong RX4 104 (99999999), Cond.methodLink RX4 94 yX4_at, Cond.static yX4_at, Cond.initialized RX4, Cond.code yX4_at cX4_at 2 (some .int), Cond.methodLink RX4 98 yX4_byKind, Cond.instanceMethod yX4_byKind, Cond.selects RX4 yX4_byKind yX4_byKind, Cond.code yX4_byKind cX4_byKind 9 (some .long), Cond.constantLong RX4 92 (100), Cond.methodLink RX4 88 yX4_valueIn, Cond.instanceMethod yX4_valueIn, Cond.selects RX4 yX4_valueIn yX4_valueIn, Cond.code yX4_valueIn cX4_valueIn 7 (some .int), Cond.fieldLink RX4 7 "CostStudioModel" "values" "[I", Cond.fieldLink RX4 74 "CostStudioModel" "differences" "I"]
def wsX4_finds_r2 : List Cond := [Cond.fieldLink RX4 28 "CostStudioModel" "driverOf" "[I", Cond.fieldLink RX4 31 "CostStudioModel" "fromOf" "[I", Cond.fieldLink RX4 25 "CostStudioModel" "scenarioOf" "[I", Cond.fieldLink RX4 34 "CostStudioModel" "numberOf" "[I", Cond.methodLink RX4 84 yX4_isUnder, Cond.instanceMethod yX4_isUnder, Cond.selects RX4 yX4_isUnder yX4_isUnder, Cond.code yX4_isUnder cX4_isUnder 4 (some .boolean), Cond.fieldLink RX4 22 "CostStudioModel" "parents" "[I"]
def wsX4_finds : List Cond := .code yX4_finds cX4_finds 8 (some .boolean) :: ((wsX4_finds_r1 ++ wsX4_finds_r2) ++ wsX40 ++ (vx_atM "java/lang/ArrayIndexOutOfBoundsException" ["java/lang/IndexOutOfBoundsException", "java/lang/RuntimeException", "java/lang/Exception"]).filter goodWord)
def wsX4_looks_r1 : List Cond := [Cond.fieldLink RX4 68 "CostStudioModel" "lines" "I", Cond.fieldLink RX4 53 "CostStudioModel" "approvals" "[C", Cond.fieldLink RX4 57 "CostStudioModel" "found" "[J", Cond.fieldLink RX4 40 "CostStudioModel" "kept" "[I", Cond.fieldLink RX4 43 "CostStudioModel" "tolerances" "[I", Cond.methodLink RX4 94 yX4_at, Cond.static yX4_at, Cond.initialized RX4, Cond.code yX4_at cX4_at 2 (some .int), Cond.methodLink RX4 106 yX4_finds, Cond.instanceMethod yX4_finds, Cond.selects RX4 yX4_finds yX4_finds, Cond.code yX4_finds cX4_finds 8 (some .boolean), Cond.fieldLink RX4 46 "CostStudioModel" "hasActual" "[Z", Cond.fieldLink RX4 13 "CostStudioModel" "kindsOf" "[I", Cond.fieldLink RX4 50 "CostStudioModel" "isFound" "[Z", Cond.fieldLink RX4 16 "CostStudioModel" "ones" "[I", Cond.fieldLink RX4 19 "CostStudioModel" "others" "[I", Cond.fieldLink RX4 37 "CostStudioModel" "actuals" "[I", Cond.constantLong RX4 102 (-99999999), Cond.constantLong RX4 104 (99999999), Cond.methodLink RX4 98 yX4_byKind, Cond.instanceMethod yX4_byKind, Cond.selects RX4 yX4_byKind yX4_byKind]
def wsX4_looks_r2 : List Cond := [Cond.code yX4_byKind cX4_byKind 9 (some .long), Cond.constantLong RX4 92 (100), Cond.methodLink RX4 88 yX4_valueIn, Cond.instanceMethod yX4_valueIn, Cond.selects RX4 yX4_valueIn yX4_valueIn, Cond.code yX4_valueIn cX4_valueIn 7 (some .int), Cond.fieldLink RX4 7 "CostStudioModel" "values" "[I", Cond.fieldLink RX4 74 "CostStudioModel" "differences" "I", Cond.fieldLink RX4 28 "CostStudioModel" "driverOf" "[I", Cond.fieldLink RX4 31 "CostStudioModel" "fromOf" "[I", Cond.fieldLink RX4 25 "CostStudioModel" "scenarioOf" "[I", Cond.fieldLink RX4 34 "CostStudioModel" "numberOf" "[I", Cond.methodLink RX4 84 yX4_isUnder, Cond.instanceMethod yX4_isUnder, Cond.selects RX4 yX4_isUnder yX4_isUnder, Cond.code yX4_isUnder cX4_isUnder 4 (some .boolean), Cond.fieldLink RX4 22 "CostStudioModel" "parents" "[I"]
def wsX4_looks : List Cond := .code yX4_looks cX4_looks 7 (some .int) :: ((wsX4_looks_r1 ++ wsX4_looks_r2) ++ wsX40 ++ (vx_atM "java/lang/ArrayIndexOutOfBoundsException" ["java/lang/IndexOutOfBoundsException", "java/lang/RuntimeException", "java/lang/Exception"]).filter goodWord)
def wsX4_addDriver : List Cond := .code yX4_addDriver cX4_addDriver 2 (some .int) :: ([.fieldLink RX4 65 "CostStudioModel" "drivers" "I", .fieldLink RX4 61 "CostStudioModel" "thrown" "I", .fieldLink RX4 7 "CostStudioModel" "values" "[I", .methodLink RX4 80 yX4_in, .static yX4_in, .initialized RX4, .code yX4_in cX4_in 3 (some .boolean)] ++ wsX40 ++ (vx_atM "java/lang/ArrayIndexOutOfBoundsException" ["java/lang/IndexOutOfBoundsException", "java/lang/RuntimeException", "java/lang/Exception"]).filter goodWord)
def wsX4_setDriver_r1 : List Cond := [Cond.fieldLink RX4 61 "CostStudioModel" "thrown" "I", Cond.fieldLink RX4 7 "CostStudioModel" "values" "[I", Cond.methodLink RX4 110 yX4_isDriver, Cond.instanceMethod yX4_isDriver, Cond.selects RX4 yX4_isDriver yX4_isDriver, Cond.initialized RX4, Cond.code yX4_isDriver cX4_isDriver 2 (some .boolean), Cond.fieldLink RX4 65 "CostStudioModel" "drivers" "I", Cond.methodLink RX4 80 yX4_in, Cond.static yX4_in, Cond.code yX4_in cX4_in 3 (some .boolean), Cond.methodLink RX4 114 yX4_looks, Cond.instanceMethod yX4_looks, Cond.selects RX4 yX4_looks yX4_looks, Cond.code yX4_looks cX4_looks 7 (some .int), Cond.fieldLink RX4 68 "CostStudioModel" "lines" "I", Cond.fieldLink RX4 53 "CostStudioModel" "approvals" "[C", Cond.fieldLink RX4 57 "CostStudioModel" "found" "[J", Cond.fieldLink RX4 40 "CostStudioModel" "kept" "[I", Cond.fieldLink RX4 43 "CostStudioModel" "tolerances" "[I", Cond.methodLink RX4 94 yX4_at, Cond.static yX4_at, Cond.code yX4_at cX4_at 2 (some .int), Cond.methodLink RX4 106 yX4_finds]
def wsX4_setDriver_r2 : List Cond := [Cond.instanceMethod yX4_finds, Cond.selects RX4 yX4_finds yX4_finds, Cond.code yX4_finds cX4_finds 8 (some .boolean), Cond.fieldLink RX4 46 "CostStudioModel" "hasActual" "[Z", Cond.fieldLink RX4 13 "CostStudioModel" "kindsOf" "[I", Cond.fieldLink RX4 50 "CostStudioModel" "isFound" "[Z", Cond.fieldLink RX4 16 "CostStudioModel" "ones" "[I", Cond.fieldLink RX4 19 "CostStudioModel" "others" "[I", Cond.fieldLink RX4 37 "CostStudioModel" "actuals" "[I", Cond.constantLong RX4 102 (-99999999), Cond.constantLong RX4 104 (99999999), Cond.methodLink RX4 98 yX4_byKind, Cond.instanceMethod yX4_byKind, Cond.selects RX4 yX4_byKind yX4_byKind, Cond.code yX4_byKind cX4_byKind 9 (some .long), Cond.constantLong RX4 92 (100), Cond.methodLink RX4 88 yX4_valueIn, Cond.instanceMethod yX4_valueIn, Cond.selects RX4 yX4_valueIn yX4_valueIn, Cond.code yX4_valueIn cX4_valueIn 7 (some .int), Cond.fieldLink RX4 74 "CostStudioModel" "differences" "I", Cond.fieldLink RX4 28 "CostStudioModel" "driverOf" "[I", Cond.fieldLink RX4 31 "CostStudioModel" "fromOf" "[I", Cond.fieldLink RX4 25 "CostStudioModel" "scenarioOf" "[I"]
def wsX4_setDriver_r3 : List Cond := [Cond.fieldLink RX4 34 "CostStudioModel" "numberOf" "[I", Cond.methodLink RX4 84 yX4_isUnder, Cond.instanceMethod yX4_isUnder, Cond.selects RX4 yX4_isUnder yX4_isUnder, Cond.code yX4_isUnder cX4_isUnder 4 (some .boolean), Cond.fieldLink RX4 22 "CostStudioModel" "parents" "[I"]
def wsX4_setDriver : List Cond := .code yX4_setDriver cX4_setDriver 3 (some .int) :: ((wsX4_setDriver_r1 ++ (wsX4_setDriver_r2 ++ wsX4_setDriver_r3)) ++ wsX40 ++ (vx_atM "java/lang/ArrayIndexOutOfBoundsException" ["java/lang/IndexOutOfBoundsException", "java/lang/RuntimeException", "java/lang/Exception"]).filter goodWord)
def wsX4_driver_r1 : List Cond := [Cond.methodLink RX4 118 yX4_isScenario, Cond.instanceMethod yX4_isScenario, Cond.selects RX4 yX4_isScenario yX4_isScenario, Cond.initialized RX4, Cond.code yX4_isScenario cX4_isScenario 2 (some .boolean), Cond.fieldLink RX4 71 "CostStudioModel" "scenarios" "I", Cond.methodLink RX4 80 yX4_in, Cond.static yX4_in, Cond.code yX4_in cX4_in 3 (some .boolean), Cond.methodLink RX4 110 yX4_isDriver, Cond.instanceMethod yX4_isDriver, Cond.selects RX4 yX4_isDriver yX4_isDriver, Cond.code yX4_isDriver cX4_isDriver 2 (some .boolean), Cond.fieldLink RX4 65 "CostStudioModel" "drivers" "I", Cond.methodLink RX4 121 yX4_isMonth, Cond.static yX4_isMonth, Cond.code yX4_isMonth cX4_isMonth 1 (some .boolean), Cond.methodLink RX4 124 yX4_checked, Cond.instanceMethod yX4_checked, Cond.selects RX4 yX4_checked yX4_checked, Cond.code yX4_checked cX4_checked 2 (some .int), Cond.fieldLink RX4 61 "CostStudioModel" "thrown" "I", Cond.methodLink RX4 88 yX4_valueIn, Cond.instanceMethod yX4_valueIn]
def wsX4_driver_r2 : List Cond := [Cond.selects RX4 yX4_valueIn yX4_valueIn, Cond.code yX4_valueIn cX4_valueIn 7 (some .int), Cond.fieldLink RX4 7 "CostStudioModel" "values" "[I", Cond.fieldLink RX4 74 "CostStudioModel" "differences" "I", Cond.fieldLink RX4 28 "CostStudioModel" "driverOf" "[I", Cond.fieldLink RX4 31 "CostStudioModel" "fromOf" "[I", Cond.fieldLink RX4 25 "CostStudioModel" "scenarioOf" "[I", Cond.fieldLink RX4 34 "CostStudioModel" "numberOf" "[I", Cond.methodLink RX4 84 yX4_isUnder, Cond.instanceMethod yX4_isUnder, Cond.selects RX4 yX4_isUnder yX4_isUnder, Cond.code yX4_isUnder cX4_isUnder 4 (some .boolean), Cond.fieldLink RX4 22 "CostStudioModel" "parents" "[I"]
def wsX4_driver : List Cond := .code yX4_driver cX4_driver 4 (some .int) :: ((wsX4_driver_r1 ++ wsX4_driver_r2) ++ wsX40 ++ (vx_atM "java/lang/ArrayIndexOutOfBoundsException" ["java/lang/IndexOutOfBoundsException", "java/lang/RuntimeException", "java/lang/Exception"]).filter goodWord)
def wsX4_addLine : List Cond := .code yX4_addLine cX4_addLine 5 (some .int) :: ([.fieldLink RX4 68 "CostStudioModel" "lines" "I", .fieldLink RX4 61 "CostStudioModel" "thrown" "I", .fieldLink RX4 13 "CostStudioModel" "kindsOf" "[I", .fieldLink RX4 16 "CostStudioModel" "ones" "[I", .fieldLink RX4 19 "CostStudioModel" "others" "[I", .methodLink RX4 110 yX4_isDriver, .instanceMethod yX4_isDriver, .selects RX4 yX4_isDriver yX4_isDriver, .initialized RX4, .code yX4_isDriver cX4_isDriver 2 (some .boolean), .fieldLink RX4 65 "CostStudioModel" "drivers" "I", .methodLink RX4 80 yX4_in, .static yX4_in, .code yX4_in cX4_in 3 (some .boolean), .methodLink RX4 128 yX4_isLine, .instanceMethod yX4_isLine, .selects RX4 yX4_isLine yX4_isLine, .code yX4_isLine cX4_isLine 2 (some .boolean)] ++ wsX40 ++ (vx_atM "java/lang/ArrayIndexOutOfBoundsException" ["java/lang/IndexOutOfBoundsException", "java/lang/RuntimeException", "java/lang/Exception"]).filter goodWord)
def wsX4_addScenario : List Cond := .code yX4_addScenario cX4_addScenario 2 (some .int) :: ([.fieldLink RX4 71 "CostStudioModel" "scenarios" "I", .fieldLink RX4 61 "CostStudioModel" "thrown" "I", .fieldLink RX4 22 "CostStudioModel" "parents" "[I", .methodLink RX4 118 yX4_isScenario, .instanceMethod yX4_isScenario, .selects RX4 yX4_isScenario yX4_isScenario, .initialized RX4, .code yX4_isScenario cX4_isScenario 2 (some .boolean), .methodLink RX4 80 yX4_in, .static yX4_in, .code yX4_in cX4_in 3 (some .boolean)] ++ wsX40 ++ (vx_atM "java/lang/ArrayIndexOutOfBoundsException" ["java/lang/IndexOutOfBoundsException", "java/lang/RuntimeException", "java/lang/Exception"]).filter goodWord)
def wsX4_differ : List Cond := .code yX4_differ cX4_differ 7 (some .int) :: ([.fieldLink RX4 74 "CostStudioModel" "differences" "I", .fieldLink RX4 61 "CostStudioModel" "thrown" "I", .fieldLink RX4 25 "CostStudioModel" "scenarioOf" "[I", .fieldLink RX4 28 "CostStudioModel" "driverOf" "[I", .fieldLink RX4 31 "CostStudioModel" "fromOf" "[I", .fieldLink RX4 34 "CostStudioModel" "numberOf" "[I", .methodLink RX4 118 yX4_isScenario, .instanceMethod yX4_isScenario, .selects RX4 yX4_isScenario yX4_isScenario, .initialized RX4, .code yX4_isScenario cX4_isScenario 2 (some .boolean), .fieldLink RX4 71 "CostStudioModel" "scenarios" "I", .methodLink RX4 80 yX4_in, .static yX4_in, .code yX4_in cX4_in 3 (some .boolean), .methodLink RX4 110 yX4_isDriver, .instanceMethod yX4_isDriver, .selects RX4 yX4_isDriver yX4_isDriver, .code yX4_isDriver cX4_isDriver 2 (some .boolean), .fieldLink RX4 65 "CostStudioModel" "drivers" "I", .methodLink RX4 121 yX4_isMonth, .static yX4_isMonth, .code yX4_isMonth cX4_isMonth 1 (some .boolean)] ++ wsX40 ++ (vx_atM "java/lang/ArrayIndexOutOfBoundsException" ["java/lang/IndexOutOfBoundsException", "java/lang/RuntimeException", "java/lang/Exception"]).filter goodWord)
def wsX4_number_r1 : List Cond := [Cond.fieldLink RX4 61 "CostStudioModel" "thrown" "I", Cond.fieldLink RX4 57 "CostStudioModel" "found" "[J", Cond.methodLink RX4 118 yX4_isScenario, Cond.instanceMethod yX4_isScenario, Cond.selects RX4 yX4_isScenario yX4_isScenario, Cond.initialized RX4, Cond.code yX4_isScenario cX4_isScenario 2 (some .boolean), Cond.fieldLink RX4 71 "CostStudioModel" "scenarios" "I", Cond.methodLink RX4 80 yX4_in, Cond.static yX4_in, Cond.code yX4_in cX4_in 3 (some .boolean), Cond.methodLink RX4 128 yX4_isLine, Cond.instanceMethod yX4_isLine, Cond.selects RX4 yX4_isLine yX4_isLine, Cond.code yX4_isLine cX4_isLine 2 (some .boolean), Cond.fieldLink RX4 68 "CostStudioModel" "lines" "I", Cond.methodLink RX4 121 yX4_isMonth, Cond.static yX4_isMonth, Cond.code yX4_isMonth cX4_isMonth 1 (some .boolean), Cond.methodLink RX4 106 yX4_finds, Cond.instanceMethod yX4_finds, Cond.selects RX4 yX4_finds yX4_finds, Cond.code yX4_finds cX4_finds 8 (some .boolean), Cond.fieldLink RX4 46 "CostStudioModel" "hasActual" "[Z"]
def wsX4_number_r2 : List Cond := [Cond.fieldLink RX4 13 "CostStudioModel" "kindsOf" "[I", Cond.fieldLink RX4 50 "CostStudioModel" "isFound" "[Z", Cond.fieldLink RX4 16 "CostStudioModel" "ones" "[I", Cond.fieldLink RX4 19 "CostStudioModel" "others" "[I", Cond.fieldLink RX4 37 "CostStudioModel" "actuals" "[I", Cond.constantLong RX4 102 (-99999999), Cond.constantLong RX4 104 (99999999), Cond.methodLink RX4 94 yX4_at, Cond.static yX4_at, Cond.code yX4_at cX4_at 2 (some .int), Cond.methodLink RX4 98 yX4_byKind, Cond.instanceMethod yX4_byKind, Cond.selects RX4 yX4_byKind yX4_byKind, Cond.code yX4_byKind cX4_byKind 9 (some .long), Cond.constantLong RX4 92 (100), Cond.methodLink RX4 88 yX4_valueIn, Cond.instanceMethod yX4_valueIn, Cond.selects RX4 yX4_valueIn yX4_valueIn, Cond.code yX4_valueIn cX4_valueIn 7 (some .int), Cond.fieldLink RX4 7 "CostStudioModel" "values" "[I", Cond.fieldLink RX4 74 "CostStudioModel" "differences" "I", Cond.fieldLink RX4 28 "CostStudioModel" "driverOf" "[I", Cond.fieldLink RX4 31 "CostStudioModel" "fromOf" "[I", Cond.fieldLink RX4 25 "CostStudioModel" "scenarioOf" "[I"]
def wsX4_number_r3 : List Cond := [Cond.fieldLink RX4 34 "CostStudioModel" "numberOf" "[I", Cond.methodLink RX4 84 yX4_isUnder, Cond.instanceMethod yX4_isUnder, Cond.selects RX4 yX4_isUnder yX4_isUnder, Cond.code yX4_isUnder cX4_isUnder 4 (some .boolean), Cond.fieldLink RX4 22 "CostStudioModel" "parents" "[I"]
def wsX4_number : List Cond := .code yX4_number cX4_number 4 (some .int) :: ((wsX4_number_r1 ++ (wsX4_number_r2 ++ wsX4_number_r3)) ++ wsX40 ++ (vx_atM "java/lang/ArrayIndexOutOfBoundsException" ["java/lang/IndexOutOfBoundsException", "java/lang/RuntimeException", "java/lang/Exception"]).filter goodWord)
def wsX4_numberByHand_r1 : List Cond := [Cond.methodLink RX4 131 yX4_number, Cond.instanceMethod yX4_number, Cond.selects RX4 yX4_number yX4_number, Cond.initialized RX4, Cond.code yX4_number cX4_number 4 (some .int), Cond.fieldLink RX4 61 "CostStudioModel" "thrown" "I", Cond.fieldLink RX4 57 "CostStudioModel" "found" "[J", Cond.methodLink RX4 118 yX4_isScenario, Cond.instanceMethod yX4_isScenario, Cond.selects RX4 yX4_isScenario yX4_isScenario, Cond.code yX4_isScenario cX4_isScenario 2 (some .boolean), Cond.fieldLink RX4 71 "CostStudioModel" "scenarios" "I", Cond.methodLink RX4 80 yX4_in, Cond.static yX4_in, Cond.code yX4_in cX4_in 3 (some .boolean), Cond.methodLink RX4 128 yX4_isLine, Cond.instanceMethod yX4_isLine, Cond.selects RX4 yX4_isLine yX4_isLine, Cond.code yX4_isLine cX4_isLine 2 (some .boolean), Cond.fieldLink RX4 68 "CostStudioModel" "lines" "I", Cond.methodLink RX4 121 yX4_isMonth, Cond.static yX4_isMonth, Cond.code yX4_isMonth cX4_isMonth 1 (some .boolean), Cond.methodLink RX4 106 yX4_finds]
def wsX4_numberByHand_r2 : List Cond := [Cond.instanceMethod yX4_finds, Cond.selects RX4 yX4_finds yX4_finds, Cond.code yX4_finds cX4_finds 8 (some .boolean), Cond.fieldLink RX4 46 "CostStudioModel" "hasActual" "[Z", Cond.fieldLink RX4 13 "CostStudioModel" "kindsOf" "[I", Cond.fieldLink RX4 50 "CostStudioModel" "isFound" "[Z", Cond.fieldLink RX4 16 "CostStudioModel" "ones" "[I", Cond.fieldLink RX4 19 "CostStudioModel" "others" "[I", Cond.fieldLink RX4 37 "CostStudioModel" "actuals" "[I", Cond.constantLong RX4 102 (-99999999), Cond.constantLong RX4 104 (99999999), Cond.methodLink RX4 94 yX4_at, Cond.static yX4_at, Cond.code yX4_at cX4_at 2 (some .int), Cond.methodLink RX4 98 yX4_byKind, Cond.instanceMethod yX4_byKind, Cond.selects RX4 yX4_byKind yX4_byKind, Cond.code yX4_byKind cX4_byKind 9 (some .long), Cond.constantLong RX4 92 (100), Cond.methodLink RX4 88 yX4_valueIn, Cond.instanceMethod yX4_valueIn, Cond.selects RX4 yX4_valueIn yX4_valueIn, Cond.code yX4_valueIn cX4_valueIn 7 (some .int), Cond.fieldLink RX4 7 "CostStudioModel" "values" "[I"]
def wsX4_numberByHand_r3 : List Cond := [Cond.fieldLink RX4 74 "CostStudioModel" "differences" "I", Cond.fieldLink RX4 28 "CostStudioModel" "driverOf" "[I", Cond.fieldLink RX4 31 "CostStudioModel" "fromOf" "[I", Cond.fieldLink RX4 25 "CostStudioModel" "scenarioOf" "[I", Cond.fieldLink RX4 34 "CostStudioModel" "numberOf" "[I", Cond.methodLink RX4 84 yX4_isUnder, Cond.instanceMethod yX4_isUnder, Cond.selects RX4 yX4_isUnder yX4_isUnder, Cond.code yX4_isUnder cX4_isUnder 4 (some .boolean), Cond.fieldLink RX4 22 "CostStudioModel" "parents" "[I"]
def wsX4_numberByHand : List Cond := .code yX4_numberByHand cX4_numberByHand 4 (some .int) :: ((wsX4_numberByHand_r1 ++ (wsX4_numberByHand_r2 ++ wsX4_numberByHand_r3)) ++ wsX40 ++ (vx_atM "java/lang/ArrayIndexOutOfBoundsException" ["java/lang/IndexOutOfBoundsException", "java/lang/RuntimeException", "java/lang/Exception"]).filter goodWord)
def wsX4_year_r1 : List Cond := [Cond.fieldLink RX4 61 "CostStudioModel" "thrown" "I", Cond.fieldLink RX4 57 "CostStudioModel" "found" "[J", Cond.methodLink RX4 118 yX4_isScenario, Cond.instanceMethod yX4_isScenario, Cond.selects RX4 yX4_isScenario yX4_isScenario, Cond.initialized RX4, Cond.code yX4_isScenario cX4_isScenario 2 (some .boolean), Cond.fieldLink RX4 71 "CostStudioModel" "scenarios" "I", Cond.methodLink RX4 80 yX4_in, Cond.static yX4_in, Cond.code yX4_in cX4_in 3 (some .boolean), Cond.methodLink RX4 128 yX4_isLine, Cond.instanceMethod yX4_isLine, Cond.selects RX4 yX4_isLine yX4_isLine, Cond.code yX4_isLine cX4_isLine 2 (some .boolean), Cond.fieldLink RX4 68 "CostStudioModel" "lines" "I", Cond.methodLink RX4 106 yX4_finds, Cond.instanceMethod yX4_finds, Cond.selects RX4 yX4_finds yX4_finds, Cond.code yX4_finds cX4_finds 8 (some .boolean), Cond.fieldLink RX4 46 "CostStudioModel" "hasActual" "[Z", Cond.fieldLink RX4 13 "CostStudioModel" "kindsOf" "[I", Cond.fieldLink RX4 50 "CostStudioModel" "isFound" "[Z", Cond.fieldLink RX4 16 "CostStudioModel" "ones" "[I"]
def wsX4_year_r2 : List Cond := [Cond.fieldLink RX4 19 "CostStudioModel" "others" "[I", Cond.fieldLink RX4 37 "CostStudioModel" "actuals" "[I", Cond.constantLong RX4 102 (-99999999), Cond.constantLong RX4 104 (99999999), Cond.methodLink RX4 94 yX4_at, Cond.static yX4_at, Cond.code yX4_at cX4_at 2 (some .int), Cond.methodLink RX4 98 yX4_byKind, Cond.instanceMethod yX4_byKind, Cond.selects RX4 yX4_byKind yX4_byKind, Cond.code yX4_byKind cX4_byKind 9 (some .long), Cond.constantLong RX4 92 (100), Cond.methodLink RX4 88 yX4_valueIn, Cond.instanceMethod yX4_valueIn, Cond.selects RX4 yX4_valueIn yX4_valueIn, Cond.code yX4_valueIn cX4_valueIn 7 (some .int), Cond.fieldLink RX4 7 "CostStudioModel" "values" "[I", Cond.fieldLink RX4 74 "CostStudioModel" "differences" "I", Cond.fieldLink RX4 28 "CostStudioModel" "driverOf" "[I", Cond.fieldLink RX4 31 "CostStudioModel" "fromOf" "[I", Cond.fieldLink RX4 25 "CostStudioModel" "scenarioOf" "[I", Cond.fieldLink RX4 34 "CostStudioModel" "numberOf" "[I", Cond.methodLink RX4 84 yX4_isUnder, Cond.instanceMethod yX4_isUnder]
def wsX4_year_r3 : List Cond := [Cond.selects RX4 yX4_isUnder yX4_isUnder, Cond.code yX4_isUnder cX4_isUnder 4 (some .boolean), Cond.fieldLink RX4 22 "CostStudioModel" "parents" "[I"]
def wsX4_year : List Cond := .code yX4_year cX4_year 6 (some .long) :: ((wsX4_year_r1 ++ (wsX4_year_r2 ++ wsX4_year_r3)) ++ wsX40 ++ (vx_atM "java/lang/ArrayIndexOutOfBoundsException" ["java/lang/IndexOutOfBoundsException", "java/lang/RuntimeException", "java/lang/Exception"]).filter goodWord)
def wsX4_effect_r1 : List Cond := [Cond.fieldLink RX4 61 "CostStudioModel" "thrown" "I", Cond.fieldLink RX4 57 "CostStudioModel" "found" "[J", Cond.methodLink RX4 118 yX4_isScenario, Cond.instanceMethod yX4_isScenario, Cond.selects RX4 yX4_isScenario yX4_isScenario, Cond.initialized RX4, Cond.code yX4_isScenario cX4_isScenario 2 (some .boolean), Cond.fieldLink RX4 71 "CostStudioModel" "scenarios" "I", Cond.methodLink RX4 80 yX4_in, Cond.static yX4_in, Cond.code yX4_in cX4_in 3 (some .boolean), Cond.methodLink RX4 110 yX4_isDriver, Cond.instanceMethod yX4_isDriver, Cond.selects RX4 yX4_isDriver yX4_isDriver, Cond.code yX4_isDriver cX4_isDriver 2 (some .boolean), Cond.fieldLink RX4 65 "CostStudioModel" "drivers" "I", Cond.methodLink RX4 128 yX4_isLine, Cond.instanceMethod yX4_isLine, Cond.selects RX4 yX4_isLine yX4_isLine, Cond.code yX4_isLine cX4_isLine 2 (some .boolean), Cond.fieldLink RX4 68 "CostStudioModel" "lines" "I", Cond.methodLink RX4 121 yX4_isMonth, Cond.static yX4_isMonth, Cond.code yX4_isMonth cX4_isMonth 1 (some .boolean)]
def wsX4_effect_r2 : List Cond := [Cond.methodLink RX4 106 yX4_finds, Cond.instanceMethod yX4_finds, Cond.selects RX4 yX4_finds yX4_finds, Cond.code yX4_finds cX4_finds 8 (some .boolean), Cond.fieldLink RX4 46 "CostStudioModel" "hasActual" "[Z", Cond.fieldLink RX4 13 "CostStudioModel" "kindsOf" "[I", Cond.fieldLink RX4 50 "CostStudioModel" "isFound" "[Z", Cond.fieldLink RX4 16 "CostStudioModel" "ones" "[I", Cond.fieldLink RX4 19 "CostStudioModel" "others" "[I", Cond.fieldLink RX4 37 "CostStudioModel" "actuals" "[I", Cond.constantLong RX4 102 (-99999999), Cond.constantLong RX4 104 (99999999), Cond.methodLink RX4 94 yX4_at, Cond.static yX4_at, Cond.code yX4_at cX4_at 2 (some .int), Cond.methodLink RX4 98 yX4_byKind, Cond.instanceMethod yX4_byKind, Cond.selects RX4 yX4_byKind yX4_byKind, Cond.code yX4_byKind cX4_byKind 9 (some .long), Cond.constantLong RX4 92 (100), Cond.methodLink RX4 88 yX4_valueIn, Cond.instanceMethod yX4_valueIn, Cond.selects RX4 yX4_valueIn yX4_valueIn, Cond.code yX4_valueIn cX4_valueIn 7 (some .int)]
def wsX4_effect_r3 : List Cond := [Cond.fieldLink RX4 7 "CostStudioModel" "values" "[I", Cond.fieldLink RX4 74 "CostStudioModel" "differences" "I", Cond.fieldLink RX4 28 "CostStudioModel" "driverOf" "[I", Cond.fieldLink RX4 31 "CostStudioModel" "fromOf" "[I", Cond.fieldLink RX4 25 "CostStudioModel" "scenarioOf" "[I", Cond.fieldLink RX4 34 "CostStudioModel" "numberOf" "[I", Cond.methodLink RX4 84 yX4_isUnder, Cond.instanceMethod yX4_isUnder, Cond.selects RX4 yX4_isUnder yX4_isUnder, Cond.code yX4_isUnder cX4_isUnder 4 (some .boolean), Cond.fieldLink RX4 22 "CostStudioModel" "parents" "[I"]
def wsX4_effect : List Cond := .code yX4_effect cX4_effect 9 (some .int) :: ((wsX4_effect_r1 ++ (wsX4_effect_r2 ++ wsX4_effect_r3)) ++ wsX40 ++ (vx_atM "java/lang/ArrayIndexOutOfBoundsException" ["java/lang/IndexOutOfBoundsException", "java/lang/RuntimeException", "java/lang/Exception"]).filter goodWord)
def wsX4_seek_r1 : List Cond := [Cond.fieldLink RX4 61 "CostStudioModel" "thrown" "I", Cond.fieldLink RX4 7 "CostStudioModel" "values" "[I", Cond.fieldLink RX4 57 "CostStudioModel" "found" "[J", Cond.methodLink RX4 110 yX4_isDriver, Cond.instanceMethod yX4_isDriver, Cond.selects RX4 yX4_isDriver yX4_isDriver, Cond.initialized RX4, Cond.code yX4_isDriver cX4_isDriver 2 (some .boolean), Cond.fieldLink RX4 65 "CostStudioModel" "drivers" "I", Cond.methodLink RX4 80 yX4_in, Cond.static yX4_in, Cond.code yX4_in cX4_in 3 (some .boolean), Cond.methodLink RX4 128 yX4_isLine, Cond.instanceMethod yX4_isLine, Cond.selects RX4 yX4_isLine yX4_isLine, Cond.code yX4_isLine cX4_isLine 2 (some .boolean), Cond.fieldLink RX4 68 "CostStudioModel" "lines" "I", Cond.methodLink RX4 121 yX4_isMonth, Cond.static yX4_isMonth, Cond.code yX4_isMonth cX4_isMonth 1 (some .boolean), Cond.methodLink RX4 106 yX4_finds, Cond.instanceMethod yX4_finds, Cond.selects RX4 yX4_finds yX4_finds, Cond.code yX4_finds cX4_finds 8 (some .boolean)]
def wsX4_seek_r2 : List Cond := [Cond.fieldLink RX4 46 "CostStudioModel" "hasActual" "[Z", Cond.fieldLink RX4 13 "CostStudioModel" "kindsOf" "[I", Cond.fieldLink RX4 50 "CostStudioModel" "isFound" "[Z", Cond.fieldLink RX4 16 "CostStudioModel" "ones" "[I", Cond.fieldLink RX4 19 "CostStudioModel" "others" "[I", Cond.fieldLink RX4 37 "CostStudioModel" "actuals" "[I", Cond.constantLong RX4 102 (-99999999), Cond.constantLong RX4 104 (99999999), Cond.methodLink RX4 94 yX4_at, Cond.static yX4_at, Cond.code yX4_at cX4_at 2 (some .int), Cond.methodLink RX4 98 yX4_byKind, Cond.instanceMethod yX4_byKind, Cond.selects RX4 yX4_byKind yX4_byKind, Cond.code yX4_byKind cX4_byKind 9 (some .long), Cond.constantLong RX4 92 (100), Cond.methodLink RX4 88 yX4_valueIn, Cond.instanceMethod yX4_valueIn, Cond.selects RX4 yX4_valueIn yX4_valueIn, Cond.code yX4_valueIn cX4_valueIn 7 (some .int), Cond.fieldLink RX4 74 "CostStudioModel" "differences" "I", Cond.fieldLink RX4 28 "CostStudioModel" "driverOf" "[I", Cond.fieldLink RX4 31 "CostStudioModel" "fromOf" "[I", Cond.fieldLink RX4 25 "CostStudioModel" "scenarioOf" "[I"]
def wsX4_seek_r3 : List Cond := [Cond.fieldLink RX4 34 "CostStudioModel" "numberOf" "[I", Cond.methodLink RX4 84 yX4_isUnder, Cond.instanceMethod yX4_isUnder, Cond.selects RX4 yX4_isUnder yX4_isUnder, Cond.code yX4_isUnder cX4_isUnder 4 (some .boolean), Cond.fieldLink RX4 22 "CostStudioModel" "parents" "[I"]
def wsX4_seek : List Cond := .code yX4_seek cX4_seek 8 (some .int) :: ((wsX4_seek_r1 ++ (wsX4_seek_r2 ++ wsX4_seek_r3)) ++ wsX40 ++ (vx_atM "java/lang/ArrayIndexOutOfBoundsException" ["java/lang/IndexOutOfBoundsException", "java/lang/RuntimeException", "java/lang/Exception"]).filter goodWord)
def wsX4_actual_r1 : List Cond := [Cond.fieldLink RX4 77 "CostStudioModel" "month" "I", Cond.constant RX4 135 (-9999999), Cond.constant RX4 136 (9999999), Cond.fieldLink RX4 61 "CostStudioModel" "thrown" "I", Cond.fieldLink RX4 46 "CostStudioModel" "hasActual" "[Z", Cond.fieldLink RX4 37 "CostStudioModel" "actuals" "[I", Cond.methodLink RX4 128 yX4_isLine, Cond.instanceMethod yX4_isLine, Cond.selects RX4 yX4_isLine yX4_isLine, Cond.initialized RX4, Cond.code yX4_isLine cX4_isLine 2 (some .boolean), Cond.fieldLink RX4 68 "CostStudioModel" "lines" "I", Cond.methodLink RX4 80 yX4_in, Cond.static yX4_in, Cond.code yX4_in cX4_in 3 (some .boolean), Cond.methodLink RX4 121 yX4_isMonth, Cond.static yX4_isMonth, Cond.code yX4_isMonth cX4_isMonth 1 (some .boolean), Cond.methodLink RX4 94 yX4_at, Cond.static yX4_at, Cond.code yX4_at cX4_at 2 (some .int), Cond.methodLink RX4 114 yX4_looks, Cond.instanceMethod yX4_looks, Cond.selects RX4 yX4_looks yX4_looks]
def wsX4_actual_r2 : List Cond := [Cond.code yX4_looks cX4_looks 7 (some .int), Cond.fieldLink RX4 53 "CostStudioModel" "approvals" "[C", Cond.fieldLink RX4 57 "CostStudioModel" "found" "[J", Cond.fieldLink RX4 40 "CostStudioModel" "kept" "[I", Cond.fieldLink RX4 43 "CostStudioModel" "tolerances" "[I", Cond.methodLink RX4 106 yX4_finds, Cond.instanceMethod yX4_finds, Cond.selects RX4 yX4_finds yX4_finds, Cond.code yX4_finds cX4_finds 8 (some .boolean), Cond.fieldLink RX4 13 "CostStudioModel" "kindsOf" "[I", Cond.fieldLink RX4 50 "CostStudioModel" "isFound" "[Z", Cond.fieldLink RX4 16 "CostStudioModel" "ones" "[I", Cond.fieldLink RX4 19 "CostStudioModel" "others" "[I", Cond.constantLong RX4 102 (-99999999), Cond.constantLong RX4 104 (99999999), Cond.methodLink RX4 98 yX4_byKind, Cond.instanceMethod yX4_byKind, Cond.selects RX4 yX4_byKind yX4_byKind, Cond.code yX4_byKind cX4_byKind 9 (some .long), Cond.constantLong RX4 92 (100), Cond.methodLink RX4 88 yX4_valueIn, Cond.instanceMethod yX4_valueIn, Cond.selects RX4 yX4_valueIn yX4_valueIn, Cond.code yX4_valueIn cX4_valueIn 7 (some .int)]
def wsX4_actual_r3 : List Cond := [Cond.fieldLink RX4 7 "CostStudioModel" "values" "[I", Cond.fieldLink RX4 74 "CostStudioModel" "differences" "I", Cond.fieldLink RX4 28 "CostStudioModel" "driverOf" "[I", Cond.fieldLink RX4 31 "CostStudioModel" "fromOf" "[I", Cond.fieldLink RX4 25 "CostStudioModel" "scenarioOf" "[I", Cond.fieldLink RX4 34 "CostStudioModel" "numberOf" "[I", Cond.methodLink RX4 84 yX4_isUnder, Cond.instanceMethod yX4_isUnder, Cond.selects RX4 yX4_isUnder yX4_isUnder, Cond.code yX4_isUnder cX4_isUnder 4 (some .boolean), Cond.fieldLink RX4 22 "CostStudioModel" "parents" "[I"]
def wsX4_actual : List Cond := .code yX4_actual cX4_actual 4 (some .int) :: ((wsX4_actual_r1 ++ (wsX4_actual_r2 ++ wsX4_actual_r3)) ++ wsX40 ++ (vx_atM "java/lang/ArrayIndexOutOfBoundsException" ["java/lang/IndexOutOfBoundsException", "java/lang/RuntimeException", "java/lang/Exception"]).filter goodWord)
def wsX4_takeActual_r1 : List Cond := [Cond.fieldLink RX4 46 "CostStudioModel" "hasActual" "[Z", Cond.fieldLink RX4 61 "CostStudioModel" "thrown" "I", Cond.methodLink RX4 128 yX4_isLine, Cond.instanceMethod yX4_isLine, Cond.selects RX4 yX4_isLine yX4_isLine, Cond.initialized RX4, Cond.code yX4_isLine cX4_isLine 2 (some .boolean), Cond.fieldLink RX4 68 "CostStudioModel" "lines" "I", Cond.methodLink RX4 80 yX4_in, Cond.static yX4_in, Cond.code yX4_in cX4_in 3 (some .boolean), Cond.methodLink RX4 121 yX4_isMonth, Cond.static yX4_isMonth, Cond.code yX4_isMonth cX4_isMonth 1 (some .boolean), Cond.methodLink RX4 94 yX4_at, Cond.static yX4_at, Cond.code yX4_at cX4_at 2 (some .int), Cond.methodLink RX4 114 yX4_looks, Cond.instanceMethod yX4_looks, Cond.selects RX4 yX4_looks yX4_looks, Cond.code yX4_looks cX4_looks 7 (some .int), Cond.fieldLink RX4 53 "CostStudioModel" "approvals" "[C", Cond.fieldLink RX4 57 "CostStudioModel" "found" "[J", Cond.fieldLink RX4 40 "CostStudioModel" "kept" "[I"]
def wsX4_takeActual_r2 : List Cond := [Cond.fieldLink RX4 43 "CostStudioModel" "tolerances" "[I", Cond.methodLink RX4 106 yX4_finds, Cond.instanceMethod yX4_finds, Cond.selects RX4 yX4_finds yX4_finds, Cond.code yX4_finds cX4_finds 8 (some .boolean), Cond.fieldLink RX4 13 "CostStudioModel" "kindsOf" "[I", Cond.fieldLink RX4 50 "CostStudioModel" "isFound" "[Z", Cond.fieldLink RX4 16 "CostStudioModel" "ones" "[I", Cond.fieldLink RX4 19 "CostStudioModel" "others" "[I", Cond.fieldLink RX4 37 "CostStudioModel" "actuals" "[I", Cond.constantLong RX4 102 (-99999999), Cond.constantLong RX4 104 (99999999), Cond.methodLink RX4 98 yX4_byKind, Cond.instanceMethod yX4_byKind, Cond.selects RX4 yX4_byKind yX4_byKind, Cond.code yX4_byKind cX4_byKind 9 (some .long), Cond.constantLong RX4 92 (100), Cond.methodLink RX4 88 yX4_valueIn, Cond.instanceMethod yX4_valueIn, Cond.selects RX4 yX4_valueIn yX4_valueIn, Cond.code yX4_valueIn cX4_valueIn 7 (some .int), Cond.fieldLink RX4 7 "CostStudioModel" "values" "[I", Cond.fieldLink RX4 74 "CostStudioModel" "differences" "I", Cond.fieldLink RX4 28 "CostStudioModel" "driverOf" "[I"]
def wsX4_takeActual_r3 : List Cond := [Cond.fieldLink RX4 31 "CostStudioModel" "fromOf" "[I", Cond.fieldLink RX4 25 "CostStudioModel" "scenarioOf" "[I", Cond.fieldLink RX4 34 "CostStudioModel" "numberOf" "[I", Cond.methodLink RX4 84 yX4_isUnder, Cond.instanceMethod yX4_isUnder, Cond.selects RX4 yX4_isUnder yX4_isUnder, Cond.code yX4_isUnder cX4_isUnder 4 (some .boolean), Cond.fieldLink RX4 22 "CostStudioModel" "parents" "[I"]
def wsX4_takeActual : List Cond := .code yX4_takeActual cX4_takeActual 3 (some .int) :: ((wsX4_takeActual_r1 ++ (wsX4_takeActual_r2 ++ wsX4_takeActual_r3)) ++ wsX40 ++ (vx_atM "java/lang/ArrayIndexOutOfBoundsException" ["java/lang/IndexOutOfBoundsException", "java/lang/RuntimeException", "java/lang/Exception"]).filter goodWord)
def wsX4_pass : List Cond := .code yX4_pass cX4_pass 1 (some .int) :: ([.fieldLink RX4 77 "CostStudioModel" "month" "I", .methodLink RX4 124 yX4_checked, .instanceMethod yX4_checked, .selects RX4 yX4_checked yX4_checked, .initialized RX4, .code yX4_checked cX4_checked 2 (some .int), .fieldLink RX4 61 "CostStudioModel" "thrown" "I"] ++ wsX40)
def wsX4_month : List Cond := .code yX4_month cX4_month 1 (some .int) :: ([.fieldLink RX4 61 "CostStudioModel" "thrown" "I", .fieldLink RX4 77 "CostStudioModel" "month" "I"] ++ wsX40)
def wsX4_approve_r1 : List Cond := [Cond.fieldLink RX4 61 "CostStudioModel" "thrown" "I", Cond.fieldLink RX4 53 "CostStudioModel" "approvals" "[C", Cond.fieldLink RX4 40 "CostStudioModel" "kept" "[I", Cond.fieldLink RX4 57 "CostStudioModel" "found" "[J", Cond.fieldLink RX4 43 "CostStudioModel" "tolerances" "[I", Cond.methodLink RX4 128 yX4_isLine, Cond.instanceMethod yX4_isLine, Cond.selects RX4 yX4_isLine yX4_isLine, Cond.initialized RX4, Cond.code yX4_isLine cX4_isLine 2 (some .boolean), Cond.fieldLink RX4 68 "CostStudioModel" "lines" "I", Cond.methodLink RX4 80 yX4_in, Cond.static yX4_in, Cond.code yX4_in cX4_in 3 (some .boolean), Cond.methodLink RX4 121 yX4_isMonth, Cond.static yX4_isMonth, Cond.code yX4_isMonth cX4_isMonth 1 (some .boolean), Cond.methodLink RX4 106 yX4_finds, Cond.instanceMethod yX4_finds, Cond.selects RX4 yX4_finds yX4_finds, Cond.code yX4_finds cX4_finds 8 (some .boolean), Cond.fieldLink RX4 46 "CostStudioModel" "hasActual" "[Z", Cond.fieldLink RX4 13 "CostStudioModel" "kindsOf" "[I", Cond.fieldLink RX4 50 "CostStudioModel" "isFound" "[Z"]
def wsX4_approve_r2 : List Cond := [Cond.fieldLink RX4 16 "CostStudioModel" "ones" "[I", Cond.fieldLink RX4 19 "CostStudioModel" "others" "[I", Cond.fieldLink RX4 37 "CostStudioModel" "actuals" "[I", Cond.constantLong RX4 102 (-99999999), Cond.constantLong RX4 104 (99999999), Cond.methodLink RX4 94 yX4_at, Cond.static yX4_at, Cond.code yX4_at cX4_at 2 (some .int), Cond.methodLink RX4 98 yX4_byKind, Cond.instanceMethod yX4_byKind, Cond.selects RX4 yX4_byKind yX4_byKind, Cond.code yX4_byKind cX4_byKind 9 (some .long), Cond.constantLong RX4 92 (100), Cond.methodLink RX4 88 yX4_valueIn, Cond.instanceMethod yX4_valueIn, Cond.selects RX4 yX4_valueIn yX4_valueIn, Cond.code yX4_valueIn cX4_valueIn 7 (some .int), Cond.fieldLink RX4 7 "CostStudioModel" "values" "[I", Cond.fieldLink RX4 74 "CostStudioModel" "differences" "I", Cond.fieldLink RX4 28 "CostStudioModel" "driverOf" "[I", Cond.fieldLink RX4 31 "CostStudioModel" "fromOf" "[I", Cond.fieldLink RX4 25 "CostStudioModel" "scenarioOf" "[I", Cond.fieldLink RX4 34 "CostStudioModel" "numberOf" "[I", Cond.methodLink RX4 84 yX4_isUnder]
def wsX4_approve_r3 : List Cond := [Cond.instanceMethod yX4_isUnder, Cond.selects RX4 yX4_isUnder yX4_isUnder, Cond.code yX4_isUnder cX4_isUnder 4 (some .boolean), Cond.fieldLink RX4 22 "CostStudioModel" "parents" "[I"]
def wsX4_approve : List Cond := .code yX4_approve cX4_approve 4 (some .int) :: ((wsX4_approve_r1 ++ (wsX4_approve_r2 ++ wsX4_approve_r3)) ++ wsX40 ++ (vx_atM "java/lang/ArrayIndexOutOfBoundsException" ["java/lang/IndexOutOfBoundsException", "java/lang/RuntimeException", "java/lang/Exception"]).filter goodWord)
def wsX4_state : List Cond := .code yX4_state cX4_state 3 (some .char) :: ([.fieldLink RX4 53 "CostStudioModel" "approvals" "[C", .methodLink RX4 128 yX4_isLine, .instanceMethod yX4_isLine, .selects RX4 yX4_isLine yX4_isLine, .initialized RX4, .code yX4_isLine cX4_isLine 2 (some .boolean), .fieldLink RX4 68 "CostStudioModel" "lines" "I", .methodLink RX4 80 yX4_in, .static yX4_in, .code yX4_in cX4_in 3 (some .boolean), .methodLink RX4 121 yX4_isMonth, .static yX4_isMonth, .code yX4_isMonth cX4_isMonth 1 (some .boolean), .methodLink RX4 124 yX4_checked, .instanceMethod yX4_checked, .selects RX4 yX4_checked yX4_checked, .code yX4_checked cX4_checked 2 (some .int), .fieldLink RX4 61 "CostStudioModel" "thrown" "I", .methodLink RX4 94 yX4_at, .static yX4_at, .code yX4_at cX4_at 2 (some .int)] ++ wsX40 ++ (vx_atM "java/lang/ArrayIndexOutOfBoundsException" ["java/lang/IndexOutOfBoundsException", "java/lang/RuntimeException", "java/lang/Exception"]).filter goodWord)
def wsX4_drift_r1 : List Cond := [Cond.fieldLink RX4 53 "CostStudioModel" "approvals" "[C", Cond.fieldLink RX4 61 "CostStudioModel" "thrown" "I", Cond.fieldLink RX4 57 "CostStudioModel" "found" "[J", Cond.fieldLink RX4 40 "CostStudioModel" "kept" "[I", Cond.methodLink RX4 128 yX4_isLine, Cond.instanceMethod yX4_isLine, Cond.selects RX4 yX4_isLine yX4_isLine, Cond.initialized RX4, Cond.code yX4_isLine cX4_isLine 2 (some .boolean), Cond.fieldLink RX4 68 "CostStudioModel" "lines" "I", Cond.methodLink RX4 80 yX4_in, Cond.static yX4_in, Cond.code yX4_in cX4_in 3 (some .boolean), Cond.methodLink RX4 121 yX4_isMonth, Cond.static yX4_isMonth, Cond.code yX4_isMonth cX4_isMonth 1 (some .boolean), Cond.methodLink RX4 94 yX4_at, Cond.static yX4_at, Cond.code yX4_at cX4_at 2 (some .int), Cond.methodLink RX4 106 yX4_finds, Cond.instanceMethod yX4_finds, Cond.selects RX4 yX4_finds yX4_finds, Cond.code yX4_finds cX4_finds 8 (some .boolean), Cond.fieldLink RX4 46 "CostStudioModel" "hasActual" "[Z"]
def wsX4_drift_r2 : List Cond := [Cond.fieldLink RX4 13 "CostStudioModel" "kindsOf" "[I", Cond.fieldLink RX4 50 "CostStudioModel" "isFound" "[Z", Cond.fieldLink RX4 16 "CostStudioModel" "ones" "[I", Cond.fieldLink RX4 19 "CostStudioModel" "others" "[I", Cond.fieldLink RX4 37 "CostStudioModel" "actuals" "[I", Cond.constantLong RX4 102 (-99999999), Cond.constantLong RX4 104 (99999999), Cond.methodLink RX4 98 yX4_byKind, Cond.instanceMethod yX4_byKind, Cond.selects RX4 yX4_byKind yX4_byKind, Cond.code yX4_byKind cX4_byKind 9 (some .long), Cond.constantLong RX4 92 (100), Cond.methodLink RX4 88 yX4_valueIn, Cond.instanceMethod yX4_valueIn, Cond.selects RX4 yX4_valueIn yX4_valueIn, Cond.code yX4_valueIn cX4_valueIn 7 (some .int), Cond.fieldLink RX4 7 "CostStudioModel" "values" "[I", Cond.fieldLink RX4 74 "CostStudioModel" "differences" "I", Cond.fieldLink RX4 28 "CostStudioModel" "driverOf" "[I", Cond.fieldLink RX4 31 "CostStudioModel" "fromOf" "[I", Cond.fieldLink RX4 25 "CostStudioModel" "scenarioOf" "[I", Cond.fieldLink RX4 34 "CostStudioModel" "numberOf" "[I", Cond.methodLink RX4 84 yX4_isUnder, Cond.instanceMethod yX4_isUnder]
def wsX4_drift_r3 : List Cond := [Cond.selects RX4 yX4_isUnder yX4_isUnder, Cond.code yX4_isUnder cX4_isUnder 4 (some .boolean), Cond.fieldLink RX4 22 "CostStudioModel" "parents" "[I"]
def wsX4_drift : List Cond := .code yX4_drift cX4_drift 3 (some .int) :: ((wsX4_drift_r1 ++ (wsX4_drift_r2 ++ wsX4_drift_r3)) ++ wsX40 ++ (vx_atM "java/lang/ArrayIndexOutOfBoundsException" ["java/lang/IndexOutOfBoundsException", "java/lang/RuntimeException", "java/lang/Exception"]).filter goodWord)
def wsX4_many : List Cond := .code yX4_many cX4_many 4 (some .int) :: ([.fieldLink RX4 53 "CostStudioModel" "approvals" "[C"] ++ wsX40 ++ (vx_atM "java/lang/ArrayIndexOutOfBoundsException" ["java/lang/IndexOutOfBoundsException", "java/lang/RuntimeException", "java/lang/Exception"]).filter goodWord)
def wsX4_open : List Cond := .code yX4_open cX4_open 1 (some .int) :: ([.fieldLink RX4 61 "CostStudioModel" "thrown" "I", .methodLink RX4 137 yX4_many, .instanceMethod yX4_many, .selects RX4 yX4_many yX4_many, .initialized RX4, .code yX4_many cX4_many 4 (some .int), .fieldLink RX4 53 "CostStudioModel" "approvals" "[C"] ++ wsX40 ++ (vx_atM "java/lang/ArrayIndexOutOfBoundsException" ["java/lang/IndexOutOfBoundsException", "java/lang/RuntimeException", "java/lang/Exception"]).filter goodWord)
def wsX4_approvedShare : List Cond := .code yX4_approvedShare cX4_approvedShare 2 (some .float) :: ([.methodLink RX4 137 yX4_many, .instanceMethod yX4_many, .selects RX4 yX4_many yX4_many, .initialized RX4, .code yX4_many cX4_many 4 (some .int), .fieldLink RX4 53 "CostStudioModel" "approvals" "[C", .methodLink RX4 124 yX4_checked, .instanceMethod yX4_checked, .selects RX4 yX4_checked yX4_checked, .code yX4_checked cX4_checked 2 (some .int), .fieldLink RX4 61 "CostStudioModel" "thrown" "I"] ++ wsX40 ++ (vx_atM "java/lang/ArrayIndexOutOfBoundsException" ["java/lang/IndexOutOfBoundsException", "java/lang/RuntimeException", "java/lang/Exception"]).filter goodWord)
def wsX4_meanTolerance : List Cond := .code yX4_meanTolerance cX4_meanTolerance 3 (some .double) :: ([.fieldLink RX4 53 "CostStudioModel" "approvals" "[C", .fieldLink RX4 43 "CostStudioModel" "tolerances" "[I", .methodLink RX4 137 yX4_many, .instanceMethod yX4_many, .selects RX4 yX4_many yX4_many, .initialized RX4, .code yX4_many cX4_many 4 (some .int), .methodLink RX4 124 yX4_checked, .instanceMethod yX4_checked, .selects RX4 yX4_checked yX4_checked, .code yX4_checked cX4_checked 2 (some .int), .fieldLink RX4 61 "CostStudioModel" "thrown" "I"] ++ wsX40 ++ (vx_atM "java/lang/ArrayIndexOutOfBoundsException" ["java/lang/IndexOutOfBoundsException", "java/lang/RuntimeException", "java/lang/Exception"]).filter goodWord)
def wsJx00060_init_a7421 : List Cond := .code yJx00060_init_a7421 cJx00060_init_a7421 2 none :: ([])
def wsJ9_abs_0f7a4 : List Cond := .code yJ9_abs_0f7a4 cJ9_abs_0f7a4 1 (some .int) :: ([])
def wsL_addDriver : List Cond := .codeWith yL_addDriver cL_addDriver 4 (some .int) [(0, 9, 12, 13), (0, 9, 15, 15)] :: ([.classLink RL 13 "java/lang/IllegalArgumentException", .classLink RL 15 "java/lang/IllegalStateException", .methodLink RL 7 yX3_addDriver, .instanceMethod yX3_addDriver, .selects RX3 yX3_addDriver yX3_addDriver, .initialized RX3, .code yX3_addDriver cX3_addDriver 2 (some .int), .classLink RX3 45 "java/lang/IllegalStateException", .initialized "java/lang/IllegalStateException", .fieldLink RX3 41 "CostStudio" "driverCount" "I", .fieldLink RX3 9 "CostStudio" "driverValues" "[I", .methodLink RX3 37 yX3_requireDriverValue, .static yX3_requireDriverValue, .code yX3_requireDriverValue cX3_requireDriverValue 1 none, .classLink RX3 65 "java/lang/IllegalArgumentException", .initialized "java/lang/IllegalArgumentException"] ++ wsX30 ++ (vx_atM "java/lang/ArrayIndexOutOfBoundsException" ["java/lang/IndexOutOfBoundsException", "java/lang/RuntimeException", "java/lang/Exception"]).filter goodWord ++ (vx_at0 RX3 47 "java/lang/IllegalStateException" ["java/lang/RuntimeException", "java/lang/Exception"]).filter goodWord ++ (vx_at0 RX3 67 "java/lang/IllegalArgumentException" ["java/lang/RuntimeException", "java/lang/Exception"]).filter goodWord)
def wsL_setDriver_r1 : List Cond := [Cond.classLink RL 21 "java/lang/IndexOutOfBoundsException", Cond.classLink RL 13 "java/lang/IllegalArgumentException", Cond.methodLink RL 17 yX3_setDriver, Cond.instanceMethod yX3_setDriver, Cond.selects RX3 yX3_setDriver yX3_setDriver, Cond.initialized RX3, Cond.code yX3_setDriver cX3_setDriver 3 (some .int), Cond.fieldLink RX3 9 "CostStudio" "driverValues" "[I", Cond.methodLink RX3 48 yX3_requireDriver, Cond.instanceMethod yX3_requireDriver, Cond.selects RX3 yX3_requireDriver yX3_requireDriver, Cond.code yX3_requireDriver cX3_requireDriver 2 none, Cond.classLink RX3 153 "java/lang/IndexOutOfBoundsException", Cond.initialized "java/lang/IndexOutOfBoundsException", Cond.fieldLink RX3 41 "CostStudio" "driverCount" "I", Cond.methodLink RX3 37 yX3_requireDriverValue, Cond.static yX3_requireDriverValue, Cond.code yX3_requireDriverValue cX3_requireDriverValue 1 none, Cond.classLink RX3 65 "java/lang/IllegalArgumentException", Cond.initialized "java/lang/IllegalArgumentException", Cond.methodLink RX3 51 yX3_reopenDrifted, Cond.instanceMethod yX3_reopenDrifted, Cond.selects RX3 yX3_reopenDrifted yX3_reopenDrifted, Cond.code yX3_reopenDrifted cX3_reopenDrifted 4 (some .int)]
def wsL_setDriver_r2 : List Cond := [Cond.fieldLink RX3 23 "CostStudio" "lines" "LCostStudio$Lines;", Cond.fieldLink RX3 34 "CostStudio" "inputs" "[I", Cond.fieldLink RX3 30 "CostStudio" "approvals" "LCostStudio$Approvals;", Cond.methodLink RX3 98 yX3_fillInputs, Cond.instanceMethod yX3_fillInputs, Cond.selects RX3 yX3_fillInputs yX3_fillInputs, Cond.code yX3_fillInputs cX3_fillInputs 5 none, Cond.methodLink RX3 61 yX3_valueIn, Cond.instanceMethod yX3_valueIn, Cond.selects RX3 yX3_valueIn yX3_valueIn, Cond.code yX3_valueIn cX3_valueIn 4 (some .int), Cond.fieldLink RX3 16 "CostStudio" "scenarios" "LCostStudio$Scenarios;", Cond.instanceMethod yX2_addedTo, Cond.initialized RX2, Cond.selects RX2 yX2_addedTo yX2_addedTo, Cond.code yX2_addedTo cX2_addedTo 7 (some .int), Cond.fieldLink RX2 18 "CostStudio$Scenarios" "added" "[I", Cond.fieldLink RX2 9 "CostStudio$Scenarios" "parents" "[I", Cond.methodLink RX2 25 yX2_place, Cond.static yX2_place, Cond.code yX2_place cX2_place 3 (some .int), Cond.instanceMethod yX1_findAll, Cond.initialized RX1, Cond.selects RX1 yX1_findAll yX1_findAll]
def wsL_setDriver_r3 : List Cond := [Cond.code yX1_findAll cX1_findAll 4 none, Cond.fieldLink RX1 33 "CostStudio$Lines" "count" "I", Cond.fieldLink RX1 29 "CostStudio$Lines" "numbers" "[I", Cond.methodLink RX1 41 yX1_found, Cond.instanceMethod yX1_found, Cond.selects RX1 yX1_found yX1_found, Cond.code yX1_found cX1_found 5 (some .int), Cond.fieldLink RX1 22 "CostStudio$Lines" "actuals" "[I", Cond.constant RX1 32 (-1000000000), Cond.fieldLink RX1 9 "CostStudio$Lines" "kinds" "[C", Cond.fieldLink RX1 15 "CostStudio$Lines" "ones" "[I", Cond.fieldLink RX1 19 "CostStudio$Lines" "others" "[I", Cond.static yX3_cell, Cond.code yX3_cell cX3_cell 2 (some .int), Cond.methodLink RX1 45 yX1_combined, Cond.static yX1_combined, Cond.code yX1_combined cX1_combined 5 (some .int), Cond.constantLong RX1 49 (100), Cond.constantLong RX1 51 (-99999999), Cond.constantLong RX1 53 (99999999), Cond.methodLink RX3 129 yX3_cell, Cond.instanceMethod yX0_reopenIfDrifted, Cond.initialized RX0, Cond.selects RX0 yX0_reopenIfDrifted yX0_reopenIfDrifted]
def wsL_setDriver_r4 : List Cond := [Cond.code yX0_reopenIfDrifted cX0_reopenIfDrifted 3 (some .boolean), Cond.fieldLink RX0 9 "CostStudio$Approvals" "states" "[C", Cond.methodLink RX0 22 yX0_isDrifted, Cond.instanceMethod yX0_isDrifted, Cond.selects RX0 yX0_isDrifted yX0_isDrifted, Cond.code yX0_isDrifted cX0_isDrifted 3 (some .boolean), Cond.constant RX0 26 (-1000000000), Cond.fieldLink RX0 15 "CostStudio$Approvals" "keptNumbers" "[I", Cond.methodLink RX0 27 Lib.Math.abs.name, Cond.static Lib.Math.abs.name, Cond.initialized "java/lang/Math", Cond.code Lib.Math.abs.name Lib.Math.abs.code 1 (some .int), Cond.fieldLink RX0 19 "CostStudio$Approvals" "tolerances" "[I"]
def wsL_setDriver : List Cond := .codeWith yL_setDriver cL_setDriver 5 (some .int) [(0, 10, 13, 21), (0, 10, 17, 13)] :: ((wsL_setDriver_r1 ++ (wsL_setDriver_r2 ++ (wsL_setDriver_r3 ++ wsL_setDriver_r4))) ++ wsX30 ++ wsX10 ++ wsX20 ++ wsX00 ++ (vx_atM "java/lang/ArrayIndexOutOfBoundsException" ["java/lang/IndexOutOfBoundsException", "java/lang/RuntimeException", "java/lang/Exception"]).filter goodWord ++ (vx_at0 RX3 155 "java/lang/IndexOutOfBoundsException" ["java/lang/RuntimeException", "java/lang/Exception"]).filter goodWord ++ (vx_at0 RX3 67 "java/lang/IllegalArgumentException" ["java/lang/RuntimeException", "java/lang/Exception"]).filter goodWord)
def wsL_driver_r1 : List Cond := [Cond.classLink RL 21 "java/lang/IndexOutOfBoundsException", Cond.methodLink RL 23 yX3_driver, Cond.instanceMethod yX3_driver, Cond.selects RX3 yX3_driver yX3_driver, Cond.initialized RX3, Cond.code yX3_driver cX3_driver 4 (some .int), Cond.methodLink RX3 55 yX3_requireScenario, Cond.instanceMethod yX3_requireScenario, Cond.selects RX3 yX3_requireScenario yX3_requireScenario, Cond.code yX3_requireScenario cX3_requireScenario 2 none, Cond.classLink RX3 153 "java/lang/IndexOutOfBoundsException", Cond.initialized "java/lang/IndexOutOfBoundsException", Cond.fieldLink RX3 16 "CostStudio" "scenarios" "LCostStudio$Scenarios;", Cond.methodLink RX3 48 yX3_requireDriver, Cond.instanceMethod yX3_requireDriver, Cond.selects RX3 yX3_requireDriver yX3_requireDriver, Cond.code yX3_requireDriver cX3_requireDriver 2 none, Cond.fieldLink RX3 41 "CostStudio" "driverCount" "I", Cond.methodLink RX3 58 yX3_requireMonth, Cond.static yX3_requireMonth, Cond.code yX3_requireMonth cX3_requireMonth 1 none, Cond.methodLink RX3 61 yX3_valueIn, Cond.instanceMethod yX3_valueIn, Cond.selects RX3 yX3_valueIn yX3_valueIn]
def wsL_driver_r2 : List Cond := [Cond.code yX3_valueIn cX3_valueIn 4 (some .int), Cond.fieldLink RX3 9 "CostStudio" "driverValues" "[I", Cond.instanceMethod yX2_addedTo, Cond.initialized RX2, Cond.selects RX2 yX2_addedTo yX2_addedTo, Cond.code yX2_addedTo cX2_addedTo 7 (some .int), Cond.fieldLink RX2 18 "CostStudio$Scenarios" "added" "[I", Cond.fieldLink RX2 9 "CostStudio$Scenarios" "parents" "[I", Cond.methodLink RX2 25 yX2_place, Cond.static yX2_place, Cond.code yX2_place cX2_place 3 (some .int)]
def wsL_driver : List Cond := .codeWith yL_driver cL_driver 6 (some .int) [(0, 12, 15, 21)] :: ((wsL_driver_r1 ++ wsL_driver_r2) ++ wsX30 ++ wsX20 ++ (vx_atM "java/lang/ArrayIndexOutOfBoundsException" ["java/lang/IndexOutOfBoundsException", "java/lang/RuntimeException", "java/lang/Exception"]).filter goodWord ++ (vx_at0 RX3 155 "java/lang/IndexOutOfBoundsException" ["java/lang/RuntimeException", "java/lang/Exception"]).filter goodWord)
def wsL_addLine_r1 : List Cond := [Cond.classLink RL 13 "java/lang/IllegalArgumentException", Cond.classLink RL 21 "java/lang/IndexOutOfBoundsException", Cond.classLink RL 15 "java/lang/IllegalStateException", Cond.methodLink RL 27 yX3_addLine, Cond.instanceMethod yX3_addLine, Cond.selects RX3 yX3_addLine yX3_addLine, Cond.initialized RX3, Cond.code yX3_addLine cX3_addLine 4 (some .int), Cond.classLink RX3 65 "java/lang/IllegalArgumentException", Cond.initialized "java/lang/IllegalArgumentException", Cond.classLink RX3 45 "java/lang/IllegalStateException", Cond.initialized "java/lang/IllegalStateException", Cond.fieldLink RX3 23 "CostStudio" "lines" "LCostStudio$Lines;", Cond.methodLink RX3 48 yX3_requireDriver, Cond.instanceMethod yX3_requireDriver, Cond.selects RX3 yX3_requireDriver yX3_requireDriver, Cond.code yX3_requireDriver cX3_requireDriver 2 none, Cond.classLink RX3 153 "java/lang/IndexOutOfBoundsException", Cond.initialized "java/lang/IndexOutOfBoundsException", Cond.fieldLink RX3 41 "CostStudio" "driverCount" "I", Cond.methodLink RX3 68 yX3_requireLine, Cond.instanceMethod yX3_requireLine, Cond.selects RX3 yX3_requireLine yX3_requireLine, Cond.code yX3_requireLine cX3_requireLine 2 none]
def wsL_addLine_r2 : List Cond := [Cond.instanceMethod yX1_add, Cond.initialized RX1, Cond.selects RX1 yX1_add yX1_add, Cond.code yX1_add cX1_add 4 (some .int), Cond.fieldLink RX1 9 "CostStudio$Lines" "kinds" "[C", Cond.fieldLink RX1 33 "CostStudio$Lines" "count" "I", Cond.fieldLink RX1 15 "CostStudio$Lines" "ones" "[I", Cond.fieldLink RX1 19 "CostStudio$Lines" "others" "[I"]
def wsL_addLine : List Cond := .codeWith yL_addLine cL_addLine 6 (some .int) [(0, 12, 15, 13), (0, 12, 19, 21), (0, 12, 23, 15)] :: ((wsL_addLine_r1 ++ wsL_addLine_r2) ++ wsX30 ++ wsX10 ++ (vx_atM "java/lang/ArrayIndexOutOfBoundsException" ["java/lang/IndexOutOfBoundsException", "java/lang/RuntimeException", "java/lang/Exception"]).filter goodWord ++ (vx_at0 RX3 67 "java/lang/IllegalArgumentException" ["java/lang/RuntimeException", "java/lang/Exception"]).filter goodWord ++ (vx_at0 RX3 47 "java/lang/IllegalStateException" ["java/lang/RuntimeException", "java/lang/Exception"]).filter goodWord ++ (vx_at0 RX3 155 "java/lang/IndexOutOfBoundsException" ["java/lang/RuntimeException", "java/lang/Exception"]).filter goodWord)
def wsL_addScenario : List Cond := .codeWith yL_addScenario cL_addScenario 4 (some .int) [(0, 9, 12, 21), (0, 9, 15, 15)] :: ([.classLink RL 21 "java/lang/IndexOutOfBoundsException", .classLink RL 15 "java/lang/IllegalStateException", .methodLink RL 31 yX3_addScenario, .instanceMethod yX3_addScenario, .selects RX3 yX3_addScenario yX3_addScenario, .initialized RX3, .code yX3_addScenario cX3_addScenario 2 (some .int), .classLink RX3 45 "java/lang/IllegalStateException", .initialized "java/lang/IllegalStateException", .fieldLink RX3 16 "CostStudio" "scenarios" "LCostStudio$Scenarios;", .methodLink RX3 55 yX3_requireScenario, .instanceMethod yX3_requireScenario, .selects RX3 yX3_requireScenario yX3_requireScenario, .code yX3_requireScenario cX3_requireScenario 2 none, .classLink RX3 153 "java/lang/IndexOutOfBoundsException", .initialized "java/lang/IndexOutOfBoundsException", .instanceMethod yX2_add, .initialized RX2, .selects RX2 yX2_add yX2_add, .code yX2_add cX2_add 2 (some .int), .fieldLink RX2 9 "CostStudio$Scenarios" "parents" "[I", .fieldLink RX2 21 "CostStudio$Scenarios" "count" "I"] ++ wsX30 ++ wsX20 ++ (vx_atM "java/lang/ArrayIndexOutOfBoundsException" ["java/lang/IndexOutOfBoundsException", "java/lang/RuntimeException", "java/lang/Exception"]).filter goodWord ++ (vx_at0 RX3 47 "java/lang/IllegalStateException" ["java/lang/RuntimeException", "java/lang/Exception"]).filter goodWord ++ (vx_at0 RX3 155 "java/lang/IndexOutOfBoundsException" ["java/lang/RuntimeException", "java/lang/Exception"]).filter goodWord)
def wsL_differ_r1 : List Cond := [Cond.classLink RL 21 "java/lang/IndexOutOfBoundsException", Cond.classLink RL 13 "java/lang/IllegalArgumentException", Cond.classLink RL 38 "java/lang/UnsupportedOperationException", Cond.classLink RL 15 "java/lang/IllegalStateException", Cond.methodLink RL 34 yX3_differ, Cond.instanceMethod yX3_differ, Cond.selects RX3 yX3_differ yX3_differ, Cond.initialized RX3, Cond.code yX3_differ cX3_differ 5 (some .int), Cond.classLink RX3 65 "java/lang/IllegalArgumentException", Cond.initialized "java/lang/IllegalArgumentException", Cond.classLink RX3 82 "java/lang/UnsupportedOperationException", Cond.initialized "java/lang/UnsupportedOperationException", Cond.classLink RX3 45 "java/lang/IllegalStateException", Cond.initialized "java/lang/IllegalStateException", Cond.fieldLink RX3 16 "CostStudio" "scenarios" "LCostStudio$Scenarios;", Cond.methodLink RX3 55 yX3_requireScenario, Cond.instanceMethod yX3_requireScenario, Cond.selects RX3 yX3_requireScenario yX3_requireScenario, Cond.code yX3_requireScenario cX3_requireScenario 2 none, Cond.classLink RX3 153 "java/lang/IndexOutOfBoundsException", Cond.initialized "java/lang/IndexOutOfBoundsException", Cond.methodLink RX3 48 yX3_requireDriver, Cond.instanceMethod yX3_requireDriver]
def wsL_differ_r2 : List Cond := [Cond.selects RX3 yX3_requireDriver yX3_requireDriver, Cond.code yX3_requireDriver cX3_requireDriver 2 none, Cond.fieldLink RX3 41 "CostStudio" "driverCount" "I", Cond.methodLink RX3 58 yX3_requireMonth, Cond.static yX3_requireMonth, Cond.code yX3_requireMonth cX3_requireMonth 1 none, Cond.instanceMethod yX2_addDifference, Cond.initialized RX2, Cond.selects RX2 yX2_addDifference yX2_addDifference, Cond.code yX2_addDifference cX2_addDifference 6 (some .int), Cond.fieldLink RX2 18 "CostStudio$Scenarios" "added" "[I", Cond.fieldLink RX2 29 "CostStudio$Scenarios" "differenceCount" "I", Cond.fieldLink RX2 15 "CostStudio$Scenarios" "ownDifferences" "[I", Cond.methodLink RX2 25 yX2_place, Cond.static yX2_place, Cond.code yX2_place cX2_place 3 (some .int)]
def wsL_differ : List Cond := .codeWith yL_differ cL_differ 7 (some .int) [(0, 14, 17, 21), (0, 14, 21, 13), (0, 14, 25, 38), (0, 14, 29, 15)] :: ((wsL_differ_r1 ++ wsL_differ_r2) ++ wsX30 ++ wsX20 ++ (vx_atM "java/lang/ArrayIndexOutOfBoundsException" ["java/lang/IndexOutOfBoundsException", "java/lang/RuntimeException", "java/lang/Exception"]).filter goodWord ++ (vx_at0 RX3 67 "java/lang/IllegalArgumentException" ["java/lang/RuntimeException", "java/lang/Exception"]).filter goodWord ++ (vx_at0 RX3 84 "java/lang/UnsupportedOperationException" ["java/lang/RuntimeException", "java/lang/Exception"]).filter goodWord ++ (vx_at0 RX3 47 "java/lang/IllegalStateException" ["java/lang/RuntimeException", "java/lang/Exception"]).filter goodWord ++ (vx_at0 RX3 155 "java/lang/IndexOutOfBoundsException" ["java/lang/RuntimeException", "java/lang/Exception"]).filter goodWord)
def wsL_number_r1 : List Cond := [Cond.classLink RL 21 "java/lang/IndexOutOfBoundsException", Cond.classLink RL 38 "java/lang/UnsupportedOperationException", Cond.methodLink RL 40 yX3_number, Cond.instanceMethod yX3_number, Cond.selects RX3 yX3_number yX3_number, Cond.initialized RX3, Cond.code yX3_number cX3_number 4 (some .int), Cond.methodLink RX3 55 yX3_requireScenario, Cond.instanceMethod yX3_requireScenario, Cond.selects RX3 yX3_requireScenario yX3_requireScenario, Cond.code yX3_requireScenario cX3_requireScenario 2 none, Cond.classLink RX3 153 "java/lang/IndexOutOfBoundsException", Cond.initialized "java/lang/IndexOutOfBoundsException", Cond.fieldLink RX3 16 "CostStudio" "scenarios" "LCostStudio$Scenarios;", Cond.methodLink RX3 68 yX3_requireLine, Cond.instanceMethod yX3_requireLine, Cond.selects RX3 yX3_requireLine yX3_requireLine, Cond.code yX3_requireLine cX3_requireLine 2 none, Cond.fieldLink RX3 23 "CostStudio" "lines" "LCostStudio$Lines;", Cond.methodLink RX3 58 yX3_requireMonth, Cond.static yX3_requireMonth, Cond.code yX3_requireMonth cX3_requireMonth 1 none, Cond.methodLink RX3 92 yX3_numberIn, Cond.instanceMethod yX3_numberIn]
def wsL_number_r2 : List Cond := [Cond.selects RX3 yX3_numberIn yX3_numberIn, Cond.code yX3_numberIn cX3_numberIn 5 (some .int), Cond.fieldLink RX3 34 "CostStudio" "inputs" "[I", Cond.methodLink RX3 98 yX3_fillInputs, Cond.instanceMethod yX3_fillInputs, Cond.selects RX3 yX3_fillInputs yX3_fillInputs, Cond.code yX3_fillInputs cX3_fillInputs 5 none, Cond.fieldLink RX3 41 "CostStudio" "driverCount" "I", Cond.fieldLink RX3 9 "CostStudio" "driverValues" "[I", Cond.methodLink RX3 61 yX3_valueIn, Cond.instanceMethod yX3_valueIn, Cond.selects RX3 yX3_valueIn yX3_valueIn, Cond.code yX3_valueIn cX3_valueIn 4 (some .int), Cond.instanceMethod yX2_addedTo, Cond.initialized RX2, Cond.selects RX2 yX2_addedTo yX2_addedTo, Cond.code yX2_addedTo cX2_addedTo 7 (some .int), Cond.fieldLink RX2 18 "CostStudio$Scenarios" "added" "[I", Cond.fieldLink RX2 9 "CostStudio$Scenarios" "parents" "[I", Cond.methodLink RX2 25 yX2_place, Cond.static yX2_place, Cond.code yX2_place cX2_place 3 (some .int), Cond.instanceMethod yX1_markNeeded, Cond.initialized RX1]
def wsL_number_r3 : List Cond := [Cond.selects RX1 yX1_markNeeded yX1_markNeeded, Cond.code yX1_markNeeded cX1_markNeeded 4 none, Cond.fieldLink RX1 25 "CostStudio$Lines" "needed" "[Z", Cond.fieldLink RX1 9 "CostStudio$Lines" "kinds" "[C", Cond.fieldLink RX1 22 "CostStudio$Lines" "actuals" "[I", Cond.constant RX1 32 (-1000000000), Cond.fieldLink RX1 15 "CostStudio$Lines" "ones" "[I", Cond.fieldLink RX1 19 "CostStudio$Lines" "others" "[I", Cond.static yX3_cell, Cond.code yX3_cell cX3_cell 2 (some .int), Cond.instanceMethod yX1_findNeeded, Cond.selects RX1 yX1_findNeeded yX1_findNeeded, Cond.code yX1_findNeeded cX1_findNeeded 5 (some .int), Cond.fieldLink RX1 29 "CostStudio$Lines" "numbers" "[I", Cond.methodLink RX1 41 yX1_found, Cond.instanceMethod yX1_found, Cond.selects RX1 yX1_found yX1_found, Cond.code yX1_found cX1_found 5 (some .int), Cond.methodLink RX1 45 yX1_combined, Cond.static yX1_combined, Cond.code yX1_combined cX1_combined 5 (some .int), Cond.constantLong RX1 49 (100), Cond.constantLong RX1 51 (-99999999), Cond.constantLong RX1 53 (99999999)]
def wsL_number_r4 : List Cond := [Cond.methodLink RX3 95 yX3_required, Cond.static yX3_required, Cond.code yX3_required cX3_required 1 (some .int), Cond.classLink RX3 82 "java/lang/UnsupportedOperationException", Cond.initialized "java/lang/UnsupportedOperationException", Cond.constant RX3 117 (-1000000000)]
def wsL_number : List Cond := .codeWith yL_number cL_number 6 (some .int) [(0, 12, 15, 21), (0, 12, 19, 38)] :: ((wsL_number_r1 ++ (wsL_number_r2 ++ (wsL_number_r3 ++ wsL_number_r4))) ++ wsX30 ++ wsX20 ++ wsX10 ++ (vx_atM "java/lang/ArrayIndexOutOfBoundsException" ["java/lang/IndexOutOfBoundsException", "java/lang/RuntimeException", "java/lang/Exception"]).filter goodWord ++ (vx_at0 RX3 155 "java/lang/IndexOutOfBoundsException" ["java/lang/RuntimeException", "java/lang/Exception"]).filter goodWord ++ (vx_at0 RX3 84 "java/lang/UnsupportedOperationException" ["java/lang/RuntimeException", "java/lang/Exception"]).filter goodWord)
def wsL_numberByHand_r1 : List Cond := [Cond.classLink RL 21 "java/lang/IndexOutOfBoundsException", Cond.classLink RL 38 "java/lang/UnsupportedOperationException", Cond.methodLink RL 43 yX3_numberByHand, Cond.instanceMethod yX3_numberByHand, Cond.selects RX3 yX3_numberByHand yX3_numberByHand, Cond.initialized RX3, Cond.code yX3_numberByHand cX3_numberByHand 4 (some .int), Cond.fieldLink RX3 23 "CostStudio" "lines" "LCostStudio$Lines;", Cond.fieldLink RX3 34 "CostStudio" "inputs" "[I", Cond.methodLink RX3 55 yX3_requireScenario, Cond.instanceMethod yX3_requireScenario, Cond.selects RX3 yX3_requireScenario yX3_requireScenario, Cond.code yX3_requireScenario cX3_requireScenario 2 none, Cond.classLink RX3 153 "java/lang/IndexOutOfBoundsException", Cond.initialized "java/lang/IndexOutOfBoundsException", Cond.fieldLink RX3 16 "CostStudio" "scenarios" "LCostStudio$Scenarios;", Cond.methodLink RX3 68 yX3_requireLine, Cond.instanceMethod yX3_requireLine, Cond.selects RX3 yX3_requireLine yX3_requireLine, Cond.code yX3_requireLine cX3_requireLine 2 none, Cond.methodLink RX3 58 yX3_requireMonth, Cond.static yX3_requireMonth, Cond.code yX3_requireMonth cX3_requireMonth 1 none, Cond.methodLink RX3 98 yX3_fillInputs]
def wsL_numberByHand_r2 : List Cond := [Cond.instanceMethod yX3_fillInputs, Cond.selects RX3 yX3_fillInputs yX3_fillInputs, Cond.code yX3_fillInputs cX3_fillInputs 5 none, Cond.fieldLink RX3 41 "CostStudio" "driverCount" "I", Cond.fieldLink RX3 9 "CostStudio" "driverValues" "[I", Cond.methodLink RX3 61 yX3_valueIn, Cond.instanceMethod yX3_valueIn, Cond.selects RX3 yX3_valueIn yX3_valueIn, Cond.code yX3_valueIn cX3_valueIn 4 (some .int), Cond.instanceMethod yX2_addedTo, Cond.initialized RX2, Cond.selects RX2 yX2_addedTo yX2_addedTo, Cond.code yX2_addedTo cX2_addedTo 7 (some .int), Cond.fieldLink RX2 18 "CostStudio$Scenarios" "added" "[I", Cond.fieldLink RX2 9 "CostStudio$Scenarios" "parents" "[I", Cond.methodLink RX2 25 yX2_place, Cond.static yX2_place, Cond.code yX2_place cX2_place 3 (some .int), Cond.instanceMethod yX1_findAll, Cond.initialized RX1, Cond.selects RX1 yX1_findAll yX1_findAll, Cond.code yX1_findAll cX1_findAll 4 none, Cond.fieldLink RX1 33 "CostStudio$Lines" "count" "I", Cond.fieldLink RX1 29 "CostStudio$Lines" "numbers" "[I"]
def wsL_numberByHand_r3 : List Cond := [Cond.methodLink RX1 41 yX1_found, Cond.instanceMethod yX1_found, Cond.selects RX1 yX1_found yX1_found, Cond.code yX1_found cX1_found 5 (some .int), Cond.fieldLink RX1 22 "CostStudio$Lines" "actuals" "[I", Cond.constant RX1 32 (-1000000000), Cond.fieldLink RX1 9 "CostStudio$Lines" "kinds" "[C", Cond.fieldLink RX1 15 "CostStudio$Lines" "ones" "[I", Cond.fieldLink RX1 19 "CostStudio$Lines" "others" "[I", Cond.static yX3_cell, Cond.code yX3_cell cX3_cell 2 (some .int), Cond.methodLink RX1 45 yX1_combined, Cond.static yX1_combined, Cond.code yX1_combined cX1_combined 5 (some .int), Cond.constantLong RX1 49 (100), Cond.constantLong RX1 51 (-99999999), Cond.constantLong RX1 53 (99999999), Cond.methodLink RX3 95 yX3_required, Cond.static yX3_required, Cond.code yX3_required cX3_required 1 (some .int), Cond.classLink RX3 82 "java/lang/UnsupportedOperationException", Cond.initialized "java/lang/UnsupportedOperationException", Cond.constant RX3 117 (-1000000000)]
def wsL_numberByHand : List Cond := .codeWith yL_numberByHand cL_numberByHand 6 (some .int) [(0, 12, 15, 21), (0, 12, 19, 38)] :: ((wsL_numberByHand_r1 ++ (wsL_numberByHand_r2 ++ wsL_numberByHand_r3)) ++ wsX30 ++ wsX10 ++ wsX20 ++ (vx_atM "java/lang/ArrayIndexOutOfBoundsException" ["java/lang/IndexOutOfBoundsException", "java/lang/RuntimeException", "java/lang/Exception"]).filter goodWord ++ (vx_at0 RX3 155 "java/lang/IndexOutOfBoundsException" ["java/lang/RuntimeException", "java/lang/Exception"]).filter goodWord ++ (vx_at0 RX3 84 "java/lang/UnsupportedOperationException" ["java/lang/RuntimeException", "java/lang/Exception"]).filter goodWord)
def wsL_year_r1 : List Cond := [Cond.classLink RL 21 "java/lang/IndexOutOfBoundsException", Cond.classLink RL 38 "java/lang/UnsupportedOperationException", Cond.methodLink RL 46 yX3_year, Cond.instanceMethod yX3_year, Cond.selects RX3 yX3_year yX3_year, Cond.initialized RX3, Cond.code yX3_year cX3_year 6 (some .long), Cond.methodLink RX3 55 yX3_requireScenario, Cond.instanceMethod yX3_requireScenario, Cond.selects RX3 yX3_requireScenario yX3_requireScenario, Cond.code yX3_requireScenario cX3_requireScenario 2 none, Cond.classLink RX3 153 "java/lang/IndexOutOfBoundsException", Cond.initialized "java/lang/IndexOutOfBoundsException", Cond.fieldLink RX3 16 "CostStudio" "scenarios" "LCostStudio$Scenarios;", Cond.methodLink RX3 68 yX3_requireLine, Cond.instanceMethod yX3_requireLine, Cond.selects RX3 yX3_requireLine yX3_requireLine, Cond.code yX3_requireLine cX3_requireLine 2 none, Cond.fieldLink RX3 23 "CostStudio" "lines" "LCostStudio$Lines;", Cond.methodLink RX3 92 yX3_numberIn, Cond.instanceMethod yX3_numberIn, Cond.selects RX3 yX3_numberIn yX3_numberIn, Cond.code yX3_numberIn cX3_numberIn 5 (some .int), Cond.fieldLink RX3 34 "CostStudio" "inputs" "[I"]
def wsL_year_r2 : List Cond := [Cond.methodLink RX3 98 yX3_fillInputs, Cond.instanceMethod yX3_fillInputs, Cond.selects RX3 yX3_fillInputs yX3_fillInputs, Cond.code yX3_fillInputs cX3_fillInputs 5 none, Cond.fieldLink RX3 41 "CostStudio" "driverCount" "I", Cond.fieldLink RX3 9 "CostStudio" "driverValues" "[I", Cond.methodLink RX3 61 yX3_valueIn, Cond.instanceMethod yX3_valueIn, Cond.selects RX3 yX3_valueIn yX3_valueIn, Cond.code yX3_valueIn cX3_valueIn 4 (some .int), Cond.instanceMethod yX2_addedTo, Cond.initialized RX2, Cond.selects RX2 yX2_addedTo yX2_addedTo, Cond.code yX2_addedTo cX2_addedTo 7 (some .int), Cond.fieldLink RX2 18 "CostStudio$Scenarios" "added" "[I", Cond.fieldLink RX2 9 "CostStudio$Scenarios" "parents" "[I", Cond.methodLink RX2 25 yX2_place, Cond.static yX2_place, Cond.code yX2_place cX2_place 3 (some .int), Cond.instanceMethod yX1_markNeeded, Cond.initialized RX1, Cond.selects RX1 yX1_markNeeded yX1_markNeeded, Cond.code yX1_markNeeded cX1_markNeeded 4 none, Cond.fieldLink RX1 25 "CostStudio$Lines" "needed" "[Z"]
def wsL_year_r3 : List Cond := [Cond.fieldLink RX1 9 "CostStudio$Lines" "kinds" "[C", Cond.fieldLink RX1 22 "CostStudio$Lines" "actuals" "[I", Cond.constant RX1 32 (-1000000000), Cond.fieldLink RX1 15 "CostStudio$Lines" "ones" "[I", Cond.fieldLink RX1 19 "CostStudio$Lines" "others" "[I", Cond.static yX3_cell, Cond.code yX3_cell cX3_cell 2 (some .int), Cond.instanceMethod yX1_findNeeded, Cond.selects RX1 yX1_findNeeded yX1_findNeeded, Cond.code yX1_findNeeded cX1_findNeeded 5 (some .int), Cond.fieldLink RX1 29 "CostStudio$Lines" "numbers" "[I", Cond.methodLink RX1 41 yX1_found, Cond.instanceMethod yX1_found, Cond.selects RX1 yX1_found yX1_found, Cond.code yX1_found cX1_found 5 (some .int), Cond.methodLink RX1 45 yX1_combined, Cond.static yX1_combined, Cond.code yX1_combined cX1_combined 5 (some .int), Cond.constantLong RX1 49 (100), Cond.constantLong RX1 51 (-99999999), Cond.constantLong RX1 53 (99999999), Cond.methodLink RX3 95 yX3_required, Cond.static yX3_required, Cond.code yX3_required cX3_required 1 (some .int)]
def wsL_year_r4 : List Cond := [Cond.classLink RX3 82 "java/lang/UnsupportedOperationException", Cond.initialized "java/lang/UnsupportedOperationException", Cond.constant RX3 117 (-1000000000)]
def wsL_year : List Cond := .codeWith yL_year cL_year 5 (some .int) [(0, 9, 12, 21), (0, 9, 16, 38)] :: ((wsL_year_r1 ++ (wsL_year_r2 ++ (wsL_year_r3 ++ wsL_year_r4))) ++ wsX30 ++ wsX20 ++ wsX10 ++ (vx_atM "java/lang/ArrayIndexOutOfBoundsException" ["java/lang/IndexOutOfBoundsException", "java/lang/RuntimeException", "java/lang/Exception"]).filter goodWord ++ (vx_at0 RX3 155 "java/lang/IndexOutOfBoundsException" ["java/lang/RuntimeException", "java/lang/Exception"]).filter goodWord ++ (vx_at0 RX3 84 "java/lang/UnsupportedOperationException" ["java/lang/RuntimeException", "java/lang/Exception"]).filter goodWord)
def wsL_effect_r1 : List Cond := [Cond.classLink RL 21 "java/lang/IndexOutOfBoundsException", Cond.classLink RL 38 "java/lang/UnsupportedOperationException", Cond.methodLink RL 50 yX3_effect, Cond.instanceMethod yX3_effect, Cond.selects RX3 yX3_effect yX3_effect, Cond.initialized RX3, Cond.code yX3_effect cX3_effect 7 (some .int), Cond.methodLink RX3 55 yX3_requireScenario, Cond.instanceMethod yX3_requireScenario, Cond.selects RX3 yX3_requireScenario yX3_requireScenario, Cond.code yX3_requireScenario cX3_requireScenario 2 none, Cond.classLink RX3 153 "java/lang/IndexOutOfBoundsException", Cond.initialized "java/lang/IndexOutOfBoundsException", Cond.fieldLink RX3 16 "CostStudio" "scenarios" "LCostStudio$Scenarios;", Cond.methodLink RX3 48 yX3_requireDriver, Cond.instanceMethod yX3_requireDriver, Cond.selects RX3 yX3_requireDriver yX3_requireDriver, Cond.code yX3_requireDriver cX3_requireDriver 2 none, Cond.fieldLink RX3 41 "CostStudio" "driverCount" "I", Cond.methodLink RX3 68 yX3_requireLine, Cond.instanceMethod yX3_requireLine, Cond.selects RX3 yX3_requireLine yX3_requireLine, Cond.code yX3_requireLine cX3_requireLine 2 none, Cond.fieldLink RX3 23 "CostStudio" "lines" "LCostStudio$Lines;"]
def wsL_effect_r2 : List Cond := [Cond.methodLink RX3 58 yX3_requireMonth, Cond.static yX3_requireMonth, Cond.code yX3_requireMonth cX3_requireMonth 1 none, Cond.methodLink RX3 92 yX3_numberIn, Cond.instanceMethod yX3_numberIn, Cond.selects RX3 yX3_numberIn yX3_numberIn, Cond.code yX3_numberIn cX3_numberIn 5 (some .int), Cond.fieldLink RX3 34 "CostStudio" "inputs" "[I", Cond.methodLink RX3 98 yX3_fillInputs, Cond.instanceMethod yX3_fillInputs, Cond.selects RX3 yX3_fillInputs yX3_fillInputs, Cond.code yX3_fillInputs cX3_fillInputs 5 none, Cond.fieldLink RX3 9 "CostStudio" "driverValues" "[I", Cond.methodLink RX3 61 yX3_valueIn, Cond.instanceMethod yX3_valueIn, Cond.selects RX3 yX3_valueIn yX3_valueIn, Cond.code yX3_valueIn cX3_valueIn 4 (some .int), Cond.instanceMethod yX2_addedTo, Cond.initialized RX2, Cond.selects RX2 yX2_addedTo yX2_addedTo, Cond.code yX2_addedTo cX2_addedTo 7 (some .int), Cond.fieldLink RX2 18 "CostStudio$Scenarios" "added" "[I", Cond.fieldLink RX2 9 "CostStudio$Scenarios" "parents" "[I", Cond.methodLink RX2 25 yX2_place]
def wsL_effect_r3 : List Cond := [Cond.static yX2_place, Cond.code yX2_place cX2_place 3 (some .int), Cond.instanceMethod yX1_markNeeded, Cond.initialized RX1, Cond.selects RX1 yX1_markNeeded yX1_markNeeded, Cond.code yX1_markNeeded cX1_markNeeded 4 none, Cond.fieldLink RX1 25 "CostStudio$Lines" "needed" "[Z", Cond.fieldLink RX1 9 "CostStudio$Lines" "kinds" "[C", Cond.fieldLink RX1 22 "CostStudio$Lines" "actuals" "[I", Cond.constant RX1 32 (-1000000000), Cond.fieldLink RX1 15 "CostStudio$Lines" "ones" "[I", Cond.fieldLink RX1 19 "CostStudio$Lines" "others" "[I", Cond.static yX3_cell, Cond.code yX3_cell cX3_cell 2 (some .int), Cond.instanceMethod yX1_findNeeded, Cond.selects RX1 yX1_findNeeded yX1_findNeeded, Cond.code yX1_findNeeded cX1_findNeeded 5 (some .int), Cond.fieldLink RX1 29 "CostStudio$Lines" "numbers" "[I", Cond.methodLink RX1 41 yX1_found, Cond.instanceMethod yX1_found, Cond.selects RX1 yX1_found yX1_found, Cond.code yX1_found cX1_found 5 (some .int), Cond.methodLink RX1 45 yX1_combined, Cond.static yX1_combined]
def wsL_effect_r4 : List Cond := [Cond.code yX1_combined cX1_combined 5 (some .int), Cond.constantLong RX1 49 (100), Cond.constantLong RX1 51 (-99999999), Cond.constantLong RX1 53 (99999999), Cond.methodLink RX3 95 yX3_required, Cond.static yX3_required, Cond.code yX3_required cX3_required 1 (some .int), Cond.classLink RX3 82 "java/lang/UnsupportedOperationException", Cond.initialized "java/lang/UnsupportedOperationException", Cond.constant RX3 117 (-1000000000)]
def wsL_effect : List Cond := .codeWith yL_effect cL_effect 7 (some .int) [(0, 14, 17, 21), (0, 14, 21, 38)] :: ((wsL_effect_r1 ++ (wsL_effect_r2 ++ (wsL_effect_r3 ++ wsL_effect_r4))) ++ wsX30 ++ wsX20 ++ wsX10 ++ (vx_atM "java/lang/ArrayIndexOutOfBoundsException" ["java/lang/IndexOutOfBoundsException", "java/lang/RuntimeException", "java/lang/Exception"]).filter goodWord ++ (vx_at0 RX3 155 "java/lang/IndexOutOfBoundsException" ["java/lang/RuntimeException", "java/lang/Exception"]).filter goodWord ++ (vx_at0 RX3 84 "java/lang/UnsupportedOperationException" ["java/lang/RuntimeException", "java/lang/Exception"]).filter goodWord)
def wsL_seek_r1 : List Cond := [Cond.classLink RL 21 "java/lang/IndexOutOfBoundsException", Cond.classLink RL 56 "java/util/NoSuchElementException", Cond.methodLink RL 53 yX3_seek, Cond.instanceMethod yX3_seek, Cond.selects RX3 yX3_seek yX3_seek, Cond.initialized RX3, Cond.code yX3_seek cX3_seek 7 (some .int), Cond.classLink RX3 118 "java/util/NoSuchElementException", Cond.initialized "java/util/NoSuchElementException", Cond.fieldLink RX3 23 "CostStudio" "lines" "LCostStudio$Lines;", Cond.fieldLink RX3 34 "CostStudio" "inputs" "[I", Cond.constant RX3 117 (-1000000000), Cond.methodLink RX3 48 yX3_requireDriver, Cond.instanceMethod yX3_requireDriver, Cond.selects RX3 yX3_requireDriver yX3_requireDriver, Cond.code yX3_requireDriver cX3_requireDriver 2 none, Cond.classLink RX3 153 "java/lang/IndexOutOfBoundsException", Cond.initialized "java/lang/IndexOutOfBoundsException", Cond.fieldLink RX3 41 "CostStudio" "driverCount" "I", Cond.methodLink RX3 68 yX3_requireLine, Cond.instanceMethod yX3_requireLine, Cond.selects RX3 yX3_requireLine yX3_requireLine, Cond.code yX3_requireLine cX3_requireLine 2 none, Cond.methodLink RX3 58 yX3_requireMonth]
def wsL_seek_r2 : List Cond := [Cond.static yX3_requireMonth, Cond.code yX3_requireMonth cX3_requireMonth 1 none, Cond.methodLink RX3 98 yX3_fillInputs, Cond.instanceMethod yX3_fillInputs, Cond.selects RX3 yX3_fillInputs yX3_fillInputs, Cond.code yX3_fillInputs cX3_fillInputs 5 none, Cond.fieldLink RX3 9 "CostStudio" "driverValues" "[I", Cond.methodLink RX3 61 yX3_valueIn, Cond.instanceMethod yX3_valueIn, Cond.selects RX3 yX3_valueIn yX3_valueIn, Cond.code yX3_valueIn cX3_valueIn 4 (some .int), Cond.fieldLink RX3 16 "CostStudio" "scenarios" "LCostStudio$Scenarios;", Cond.instanceMethod yX2_addedTo, Cond.initialized RX2, Cond.selects RX2 yX2_addedTo yX2_addedTo, Cond.code yX2_addedTo cX2_addedTo 7 (some .int), Cond.fieldLink RX2 18 "CostStudio$Scenarios" "added" "[I", Cond.fieldLink RX2 9 "CostStudio$Scenarios" "parents" "[I", Cond.methodLink RX2 25 yX2_place, Cond.static yX2_place, Cond.code yX2_place cX2_place 3 (some .int), Cond.instanceMethod yX1_markNeeded, Cond.initialized RX1, Cond.selects RX1 yX1_markNeeded yX1_markNeeded]
def wsL_seek_r3 : List Cond := [Cond.code yX1_markNeeded cX1_markNeeded 4 none, Cond.fieldLink RX1 25 "CostStudio$Lines" "needed" "[Z", Cond.fieldLink RX1 9 "CostStudio$Lines" "kinds" "[C", Cond.fieldLink RX1 22 "CostStudio$Lines" "actuals" "[I", Cond.constant RX1 32 (-1000000000), Cond.fieldLink RX1 15 "CostStudio$Lines" "ones" "[I", Cond.fieldLink RX1 19 "CostStudio$Lines" "others" "[I", Cond.static yX3_cell, Cond.code yX3_cell cX3_cell 2 (some .int), Cond.instanceMethod yX1_findNeeded, Cond.selects RX1 yX1_findNeeded yX1_findNeeded, Cond.code yX1_findNeeded cX1_findNeeded 5 (some .int), Cond.fieldLink RX1 29 "CostStudio$Lines" "numbers" "[I", Cond.methodLink RX1 41 yX1_found, Cond.instanceMethod yX1_found, Cond.selects RX1 yX1_found yX1_found, Cond.code yX1_found cX1_found 5 (some .int), Cond.methodLink RX1 45 yX1_combined, Cond.static yX1_combined, Cond.code yX1_combined cX1_combined 5 (some .int), Cond.constantLong RX1 49 (100), Cond.constantLong RX1 51 (-99999999), Cond.constantLong RX1 53 (99999999)]
def wsL_seek : List Cond := .codeWith yL_seek cL_seek 7 (some .int) [(0, 14, 17, 21), (0, 14, 21, 56)] :: ((wsL_seek_r1 ++ (wsL_seek_r2 ++ wsL_seek_r3)) ++ wsX30 ++ wsX10 ++ wsX20 ++ (vx_atM "java/lang/ArrayIndexOutOfBoundsException" ["java/lang/IndexOutOfBoundsException", "java/lang/RuntimeException", "java/lang/Exception"]).filter goodWord ++ (vx_at0 RX3 120 "java/util/NoSuchElementException" ["java/lang/RuntimeException", "java/lang/Exception"]).filter goodWord ++ (vx_at0 RX3 155 "java/lang/IndexOutOfBoundsException" ["java/lang/RuntimeException", "java/lang/Exception"]).filter goodWord)
def wsL_actual_r1 : List Cond := [Cond.classLink RL 21 "java/lang/IndexOutOfBoundsException", Cond.classLink RL 13 "java/lang/IllegalArgumentException", Cond.methodLink RL 58 yX3_actual, Cond.instanceMethod yX3_actual, Cond.selects RX3 yX3_actual yX3_actual, Cond.initialized RX3, Cond.code yX3_actual cX3_actual 4 (some .int), Cond.classLink RX3 65 "java/lang/IllegalArgumentException", Cond.initialized "java/lang/IllegalArgumentException", Cond.fieldLink RX3 121 "CostStudio" "presentMonth" "I", Cond.constant RX3 124 (-9999999), Cond.constant RX3 125 (9999999), Cond.fieldLink RX3 23 "CostStudio" "lines" "LCostStudio$Lines;", Cond.methodLink RX3 68 yX3_requireLine, Cond.instanceMethod yX3_requireLine, Cond.selects RX3 yX3_requireLine yX3_requireLine, Cond.code yX3_requireLine cX3_requireLine 2 none, Cond.classLink RX3 153 "java/lang/IndexOutOfBoundsException", Cond.initialized "java/lang/IndexOutOfBoundsException", Cond.methodLink RX3 58 yX3_requireMonth, Cond.static yX3_requireMonth, Cond.code yX3_requireMonth cX3_requireMonth 1 none, Cond.methodLink RX3 129 yX3_cell, Cond.static yX3_cell]
def wsL_actual_r2 : List Cond := [Cond.code yX3_cell cX3_cell 2 (some .int), Cond.methodLink RX3 51 yX3_reopenDrifted, Cond.instanceMethod yX3_reopenDrifted, Cond.selects RX3 yX3_reopenDrifted yX3_reopenDrifted, Cond.code yX3_reopenDrifted cX3_reopenDrifted 4 (some .int), Cond.fieldLink RX3 34 "CostStudio" "inputs" "[I", Cond.fieldLink RX3 30 "CostStudio" "approvals" "LCostStudio$Approvals;", Cond.methodLink RX3 98 yX3_fillInputs, Cond.instanceMethod yX3_fillInputs, Cond.selects RX3 yX3_fillInputs yX3_fillInputs, Cond.code yX3_fillInputs cX3_fillInputs 5 none, Cond.fieldLink RX3 41 "CostStudio" "driverCount" "I", Cond.fieldLink RX3 9 "CostStudio" "driverValues" "[I", Cond.methodLink RX3 61 yX3_valueIn, Cond.instanceMethod yX3_valueIn, Cond.selects RX3 yX3_valueIn yX3_valueIn, Cond.code yX3_valueIn cX3_valueIn 4 (some .int), Cond.fieldLink RX3 16 "CostStudio" "scenarios" "LCostStudio$Scenarios;", Cond.instanceMethod yX2_addedTo, Cond.initialized RX2, Cond.selects RX2 yX2_addedTo yX2_addedTo, Cond.code yX2_addedTo cX2_addedTo 7 (some .int), Cond.fieldLink RX2 18 "CostStudio$Scenarios" "added" "[I", Cond.fieldLink RX2 9 "CostStudio$Scenarios" "parents" "[I"]
def wsL_actual_r3 : List Cond := [Cond.methodLink RX2 25 yX2_place, Cond.static yX2_place, Cond.code yX2_place cX2_place 3 (some .int), Cond.instanceMethod yX1_findAll, Cond.initialized RX1, Cond.selects RX1 yX1_findAll yX1_findAll, Cond.code yX1_findAll cX1_findAll 4 none, Cond.fieldLink RX1 33 "CostStudio$Lines" "count" "I", Cond.fieldLink RX1 29 "CostStudio$Lines" "numbers" "[I", Cond.methodLink RX1 41 yX1_found, Cond.instanceMethod yX1_found, Cond.selects RX1 yX1_found yX1_found, Cond.code yX1_found cX1_found 5 (some .int), Cond.fieldLink RX1 22 "CostStudio$Lines" "actuals" "[I", Cond.constant RX1 32 (-1000000000), Cond.fieldLink RX1 9 "CostStudio$Lines" "kinds" "[C", Cond.fieldLink RX1 15 "CostStudio$Lines" "ones" "[I", Cond.fieldLink RX1 19 "CostStudio$Lines" "others" "[I", Cond.methodLink RX1 45 yX1_combined, Cond.static yX1_combined, Cond.code yX1_combined cX1_combined 5 (some .int), Cond.constantLong RX1 49 (100), Cond.constantLong RX1 51 (-99999999), Cond.constantLong RX1 53 (99999999)]
def wsL_actual_r4 : List Cond := [Cond.instanceMethod yX0_reopenIfDrifted, Cond.initialized RX0, Cond.selects RX0 yX0_reopenIfDrifted yX0_reopenIfDrifted, Cond.code yX0_reopenIfDrifted cX0_reopenIfDrifted 3 (some .boolean), Cond.fieldLink RX0 9 "CostStudio$Approvals" "states" "[C", Cond.methodLink RX0 22 yX0_isDrifted, Cond.instanceMethod yX0_isDrifted, Cond.selects RX0 yX0_isDrifted yX0_isDrifted, Cond.code yX0_isDrifted cX0_isDrifted 3 (some .boolean), Cond.constant RX0 26 (-1000000000), Cond.fieldLink RX0 15 "CostStudio$Approvals" "keptNumbers" "[I", Cond.methodLink RX0 27 Lib.Math.abs.name, Cond.static Lib.Math.abs.name, Cond.initialized "java/lang/Math", Cond.code Lib.Math.abs.name Lib.Math.abs.code 1 (some .int), Cond.fieldLink RX0 19 "CostStudio$Approvals" "tolerances" "[I"]
def wsL_actual : List Cond := .codeWith yL_actual cL_actual 6 (some .int) [(0, 12, 15, 21), (0, 12, 19, 13)] :: ((wsL_actual_r1 ++ (wsL_actual_r2 ++ (wsL_actual_r3 ++ wsL_actual_r4))) ++ wsX30 ++ wsX10 ++ wsX20 ++ wsX00 ++ (vx_atM "java/lang/ArrayIndexOutOfBoundsException" ["java/lang/IndexOutOfBoundsException", "java/lang/RuntimeException", "java/lang/Exception"]).filter goodWord ++ (vx_at0 RX3 67 "java/lang/IllegalArgumentException" ["java/lang/RuntimeException", "java/lang/Exception"]).filter goodWord ++ (vx_at0 RX3 155 "java/lang/IndexOutOfBoundsException" ["java/lang/RuntimeException", "java/lang/Exception"]).filter goodWord)
def wsL_takeActual_r1 : List Cond := [Cond.classLink RL 21 "java/lang/IndexOutOfBoundsException", Cond.classLink RL 56 "java/util/NoSuchElementException", Cond.methodLink RL 61 yX3_takeActual, Cond.instanceMethod yX3_takeActual, Cond.selects RX3 yX3_takeActual yX3_takeActual, Cond.initialized RX3, Cond.code yX3_takeActual cX3_takeActual 3 (some .int), Cond.classLink RX3 118 "java/util/NoSuchElementException", Cond.initialized "java/util/NoSuchElementException", Cond.fieldLink RX3 23 "CostStudio" "lines" "LCostStudio$Lines;", Cond.constant RX3 117 (-1000000000), Cond.methodLink RX3 68 yX3_requireLine, Cond.instanceMethod yX3_requireLine, Cond.selects RX3 yX3_requireLine yX3_requireLine, Cond.code yX3_requireLine cX3_requireLine 2 none, Cond.classLink RX3 153 "java/lang/IndexOutOfBoundsException", Cond.initialized "java/lang/IndexOutOfBoundsException", Cond.methodLink RX3 58 yX3_requireMonth, Cond.static yX3_requireMonth, Cond.code yX3_requireMonth cX3_requireMonth 1 none, Cond.methodLink RX3 129 yX3_cell, Cond.static yX3_cell, Cond.code yX3_cell cX3_cell 2 (some .int), Cond.methodLink RX3 51 yX3_reopenDrifted]
def wsL_takeActual_r2 : List Cond := [Cond.instanceMethod yX3_reopenDrifted, Cond.selects RX3 yX3_reopenDrifted yX3_reopenDrifted, Cond.code yX3_reopenDrifted cX3_reopenDrifted 4 (some .int), Cond.fieldLink RX3 34 "CostStudio" "inputs" "[I", Cond.fieldLink RX3 30 "CostStudio" "approvals" "LCostStudio$Approvals;", Cond.methodLink RX3 98 yX3_fillInputs, Cond.instanceMethod yX3_fillInputs, Cond.selects RX3 yX3_fillInputs yX3_fillInputs, Cond.code yX3_fillInputs cX3_fillInputs 5 none, Cond.fieldLink RX3 41 "CostStudio" "driverCount" "I", Cond.fieldLink RX3 9 "CostStudio" "driverValues" "[I", Cond.methodLink RX3 61 yX3_valueIn, Cond.instanceMethod yX3_valueIn, Cond.selects RX3 yX3_valueIn yX3_valueIn, Cond.code yX3_valueIn cX3_valueIn 4 (some .int), Cond.fieldLink RX3 16 "CostStudio" "scenarios" "LCostStudio$Scenarios;", Cond.instanceMethod yX2_addedTo, Cond.initialized RX2, Cond.selects RX2 yX2_addedTo yX2_addedTo, Cond.code yX2_addedTo cX2_addedTo 7 (some .int), Cond.fieldLink RX2 18 "CostStudio$Scenarios" "added" "[I", Cond.fieldLink RX2 9 "CostStudio$Scenarios" "parents" "[I", Cond.methodLink RX2 25 yX2_place, Cond.static yX2_place]
def wsL_takeActual_r3 : List Cond := [Cond.code yX2_place cX2_place 3 (some .int), Cond.instanceMethod yX1_findAll, Cond.initialized RX1, Cond.selects RX1 yX1_findAll yX1_findAll, Cond.code yX1_findAll cX1_findAll 4 none, Cond.fieldLink RX1 33 "CostStudio$Lines" "count" "I", Cond.fieldLink RX1 29 "CostStudio$Lines" "numbers" "[I", Cond.methodLink RX1 41 yX1_found, Cond.instanceMethod yX1_found, Cond.selects RX1 yX1_found yX1_found, Cond.code yX1_found cX1_found 5 (some .int), Cond.fieldLink RX1 22 "CostStudio$Lines" "actuals" "[I", Cond.constant RX1 32 (-1000000000), Cond.fieldLink RX1 9 "CostStudio$Lines" "kinds" "[C", Cond.fieldLink RX1 15 "CostStudio$Lines" "ones" "[I", Cond.fieldLink RX1 19 "CostStudio$Lines" "others" "[I", Cond.methodLink RX1 45 yX1_combined, Cond.static yX1_combined, Cond.code yX1_combined cX1_combined 5 (some .int), Cond.constantLong RX1 49 (100), Cond.constantLong RX1 51 (-99999999), Cond.constantLong RX1 53 (99999999), Cond.instanceMethod yX0_reopenIfDrifted, Cond.initialized RX0]
def wsL_takeActual_r4 : List Cond := [Cond.selects RX0 yX0_reopenIfDrifted yX0_reopenIfDrifted, Cond.code yX0_reopenIfDrifted cX0_reopenIfDrifted 3 (some .boolean), Cond.fieldLink RX0 9 "CostStudio$Approvals" "states" "[C", Cond.methodLink RX0 22 yX0_isDrifted, Cond.instanceMethod yX0_isDrifted, Cond.selects RX0 yX0_isDrifted yX0_isDrifted, Cond.code yX0_isDrifted cX0_isDrifted 3 (some .boolean), Cond.constant RX0 26 (-1000000000), Cond.fieldLink RX0 15 "CostStudio$Approvals" "keptNumbers" "[I", Cond.methodLink RX0 27 Lib.Math.abs.name, Cond.static Lib.Math.abs.name, Cond.initialized "java/lang/Math", Cond.code Lib.Math.abs.name Lib.Math.abs.code 1 (some .int), Cond.fieldLink RX0 19 "CostStudio$Approvals" "tolerances" "[I"]
def wsL_takeActual : List Cond := .codeWith yL_takeActual cL_takeActual 5 (some .int) [(0, 10, 13, 21), (0, 10, 17, 56)] :: ((wsL_takeActual_r1 ++ (wsL_takeActual_r2 ++ (wsL_takeActual_r3 ++ wsL_takeActual_r4))) ++ wsX30 ++ wsX10 ++ wsX20 ++ wsX00 ++ (vx_atM "java/lang/ArrayIndexOutOfBoundsException" ["java/lang/IndexOutOfBoundsException", "java/lang/RuntimeException", "java/lang/Exception"]).filter goodWord ++ (vx_at0 RX3 120 "java/util/NoSuchElementException" ["java/lang/RuntimeException", "java/lang/Exception"]).filter goodWord ++ (vx_at0 RX3 155 "java/lang/IndexOutOfBoundsException" ["java/lang/RuntimeException", "java/lang/Exception"]).filter goodWord)
def wsL_pass : List Cond := .codeWith yL_pass cL_pass 3 (some .int) [(0, 8, 11, 15)] :: ([.classLink RL 15 "java/lang/IllegalStateException", .methodLink RL 64 yX3_pass, .instanceMethod yX3_pass, .selects RX3 yX3_pass yX3_pass, .initialized RX3, .code yX3_pass cX3_pass 1 (some .int), .classLink RX3 45 "java/lang/IllegalStateException", .initialized "java/lang/IllegalStateException", .fieldLink RX3 121 "CostStudio" "presentMonth" "I"] ++ wsX30 ++ (vx_atM "java/lang/ArrayIndexOutOfBoundsException" ["java/lang/IndexOutOfBoundsException", "java/lang/RuntimeException", "java/lang/Exception"]).filter goodWord ++ (vx_at0 RX3 47 "java/lang/IllegalStateException" ["java/lang/RuntimeException", "java/lang/Exception"]).filter goodWord)
def wsL_approve_r1 : List Cond := [Cond.classLink RL 21 "java/lang/IndexOutOfBoundsException", Cond.classLink RL 13 "java/lang/IllegalArgumentException", Cond.classLink RL 38 "java/lang/UnsupportedOperationException", Cond.methodLink RL 68 yX3_approve, Cond.instanceMethod yX3_approve, Cond.selects RX3 yX3_approve yX3_approve, Cond.initialized RX3, Cond.code yX3_approve cX3_approve 5 (some .int), Cond.classLink RX3 65 "java/lang/IllegalArgumentException", Cond.initialized "java/lang/IllegalArgumentException", Cond.fieldLink RX3 30 "CostStudio" "approvals" "LCostStudio$Approvals;", Cond.methodLink RX3 68 yX3_requireLine, Cond.instanceMethod yX3_requireLine, Cond.selects RX3 yX3_requireLine yX3_requireLine, Cond.code yX3_requireLine cX3_requireLine 2 none, Cond.classLink RX3 153 "java/lang/IndexOutOfBoundsException", Cond.initialized "java/lang/IndexOutOfBoundsException", Cond.fieldLink RX3 23 "CostStudio" "lines" "LCostStudio$Lines;", Cond.methodLink RX3 58 yX3_requireMonth, Cond.static yX3_requireMonth, Cond.code yX3_requireMonth cX3_requireMonth 1 none, Cond.methodLink RX3 92 yX3_numberIn, Cond.instanceMethod yX3_numberIn, Cond.selects RX3 yX3_numberIn yX3_numberIn]
def wsL_approve_r2 : List Cond := [Cond.code yX3_numberIn cX3_numberIn 5 (some .int), Cond.fieldLink RX3 34 "CostStudio" "inputs" "[I", Cond.methodLink RX3 98 yX3_fillInputs, Cond.instanceMethod yX3_fillInputs, Cond.selects RX3 yX3_fillInputs yX3_fillInputs, Cond.code yX3_fillInputs cX3_fillInputs 5 none, Cond.fieldLink RX3 41 "CostStudio" "driverCount" "I", Cond.fieldLink RX3 9 "CostStudio" "driverValues" "[I", Cond.methodLink RX3 61 yX3_valueIn, Cond.instanceMethod yX3_valueIn, Cond.selects RX3 yX3_valueIn yX3_valueIn, Cond.code yX3_valueIn cX3_valueIn 4 (some .int), Cond.fieldLink RX3 16 "CostStudio" "scenarios" "LCostStudio$Scenarios;", Cond.instanceMethod yX2_addedTo, Cond.initialized RX2, Cond.selects RX2 yX2_addedTo yX2_addedTo, Cond.code yX2_addedTo cX2_addedTo 7 (some .int), Cond.fieldLink RX2 18 "CostStudio$Scenarios" "added" "[I", Cond.fieldLink RX2 9 "CostStudio$Scenarios" "parents" "[I", Cond.methodLink RX2 25 yX2_place, Cond.static yX2_place, Cond.code yX2_place cX2_place 3 (some .int), Cond.instanceMethod yX1_markNeeded, Cond.initialized RX1]
def wsL_approve_r3 : List Cond := [Cond.selects RX1 yX1_markNeeded yX1_markNeeded, Cond.code yX1_markNeeded cX1_markNeeded 4 none, Cond.fieldLink RX1 25 "CostStudio$Lines" "needed" "[Z", Cond.fieldLink RX1 9 "CostStudio$Lines" "kinds" "[C", Cond.fieldLink RX1 22 "CostStudio$Lines" "actuals" "[I", Cond.constant RX1 32 (-1000000000), Cond.fieldLink RX1 15 "CostStudio$Lines" "ones" "[I", Cond.fieldLink RX1 19 "CostStudio$Lines" "others" "[I", Cond.static yX3_cell, Cond.code yX3_cell cX3_cell 2 (some .int), Cond.instanceMethod yX1_findNeeded, Cond.selects RX1 yX1_findNeeded yX1_findNeeded, Cond.code yX1_findNeeded cX1_findNeeded 5 (some .int), Cond.fieldLink RX1 29 "CostStudio$Lines" "numbers" "[I", Cond.methodLink RX1 41 yX1_found, Cond.instanceMethod yX1_found, Cond.selects RX1 yX1_found yX1_found, Cond.code yX1_found cX1_found 5 (some .int), Cond.methodLink RX1 45 yX1_combined, Cond.static yX1_combined, Cond.code yX1_combined cX1_combined 5 (some .int), Cond.constantLong RX1 49 (100), Cond.constantLong RX1 51 (-99999999), Cond.constantLong RX1 53 (99999999)]
def wsL_approve_r4 : List Cond := [Cond.methodLink RX3 95 yX3_required, Cond.static yX3_required, Cond.code yX3_required cX3_required 1 (some .int), Cond.classLink RX3 82 "java/lang/UnsupportedOperationException", Cond.initialized "java/lang/UnsupportedOperationException", Cond.constant RX3 117 (-1000000000), Cond.methodLink RX3 129 yX3_cell, Cond.instanceMethod yX0_keep, Cond.initialized RX0, Cond.selects RX0 yX0_keep yX0_keep, Cond.code yX0_keep cX0_keep 4 none, Cond.fieldLink RX0 9 "CostStudio$Approvals" "states" "[C", Cond.fieldLink RX0 15 "CostStudio$Approvals" "keptNumbers" "[I", Cond.fieldLink RX0 19 "CostStudio$Approvals" "tolerances" "[I"]
def wsL_approve : List Cond := .codeWith yL_approve cL_approve 6 (some .int) [(0, 12, 15, 21), (0, 12, 19, 13), (0, 12, 23, 38)] :: ((wsL_approve_r1 ++ (wsL_approve_r2 ++ (wsL_approve_r3 ++ wsL_approve_r4))) ++ wsX30 ++ wsX10 ++ wsX20 ++ wsX00 ++ (vx_atM "java/lang/ArrayIndexOutOfBoundsException" ["java/lang/IndexOutOfBoundsException", "java/lang/RuntimeException", "java/lang/Exception"]).filter goodWord ++ (vx_at0 RX3 67 "java/lang/IllegalArgumentException" ["java/lang/RuntimeException", "java/lang/Exception"]).filter goodWord ++ (vx_at0 RX3 155 "java/lang/IndexOutOfBoundsException" ["java/lang/RuntimeException", "java/lang/Exception"]).filter goodWord ++ (vx_at0 RX3 84 "java/lang/UnsupportedOperationException" ["java/lang/RuntimeException", "java/lang/Exception"]).filter goodWord)
def wsL_state : List Cond := .codeWith yL_state cL_state 5 (some .int) [(0, 10, 13, 21)] :: ([.classLink RL 21 "java/lang/IndexOutOfBoundsException", .methodLink RL 71 yX3_state, .instanceMethod yX3_state, .selects RX3 yX3_state yX3_state, .initialized RX3, .code yX3_state cX3_state 3 (some .char), .fieldLink RX3 30 "CostStudio" "approvals" "LCostStudio$Approvals;", .methodLink RX3 68 yX3_requireLine, .instanceMethod yX3_requireLine, .selects RX3 yX3_requireLine yX3_requireLine, .code yX3_requireLine cX3_requireLine 2 none, .classLink RX3 153 "java/lang/IndexOutOfBoundsException", .initialized "java/lang/IndexOutOfBoundsException", .fieldLink RX3 23 "CostStudio" "lines" "LCostStudio$Lines;", .methodLink RX3 58 yX3_requireMonth, .static yX3_requireMonth, .code yX3_requireMonth cX3_requireMonth 1 none, .methodLink RX3 129 yX3_cell, .static yX3_cell, .code yX3_cell cX3_cell 2 (some .int)] ++ wsX30 ++ wsX00 ++ wsX10 ++ (vx_atM "java/lang/ArrayIndexOutOfBoundsException" ["java/lang/IndexOutOfBoundsException", "java/lang/RuntimeException", "java/lang/Exception"]).filter goodWord ++ (vx_at0 RX3 155 "java/lang/IndexOutOfBoundsException" ["java/lang/RuntimeException", "java/lang/Exception"]).filter goodWord)
def wsL_drift_r1 : List Cond := [Cond.classLink RL 21 "java/lang/IndexOutOfBoundsException", Cond.classLink RL 56 "java/util/NoSuchElementException", Cond.classLink RL 38 "java/lang/UnsupportedOperationException", Cond.methodLink RL 75 yX3_drift, Cond.instanceMethod yX3_drift, Cond.selects RX3 yX3_drift yX3_drift, Cond.initialized RX3, Cond.code yX3_drift cX3_drift 4 (some .int), Cond.classLink RX3 118 "java/util/NoSuchElementException", Cond.initialized "java/util/NoSuchElementException", Cond.fieldLink RX3 30 "CostStudio" "approvals" "LCostStudio$Approvals;", Cond.methodLink RX3 68 yX3_requireLine, Cond.instanceMethod yX3_requireLine, Cond.selects RX3 yX3_requireLine yX3_requireLine, Cond.code yX3_requireLine cX3_requireLine 2 none, Cond.classLink RX3 153 "java/lang/IndexOutOfBoundsException", Cond.initialized "java/lang/IndexOutOfBoundsException", Cond.fieldLink RX3 23 "CostStudio" "lines" "LCostStudio$Lines;", Cond.methodLink RX3 58 yX3_requireMonth, Cond.static yX3_requireMonth, Cond.code yX3_requireMonth cX3_requireMonth 1 none, Cond.methodLink RX3 129 yX3_cell, Cond.static yX3_cell, Cond.code yX3_cell cX3_cell 2 (some .int)]
def wsL_drift_r2 : List Cond := [Cond.methodLink RX3 92 yX3_numberIn, Cond.instanceMethod yX3_numberIn, Cond.selects RX3 yX3_numberIn yX3_numberIn, Cond.code yX3_numberIn cX3_numberIn 5 (some .int), Cond.fieldLink RX3 34 "CostStudio" "inputs" "[I", Cond.methodLink RX3 98 yX3_fillInputs, Cond.instanceMethod yX3_fillInputs, Cond.selects RX3 yX3_fillInputs yX3_fillInputs, Cond.code yX3_fillInputs cX3_fillInputs 5 none, Cond.fieldLink RX3 41 "CostStudio" "driverCount" "I", Cond.fieldLink RX3 9 "CostStudio" "driverValues" "[I", Cond.methodLink RX3 61 yX3_valueIn, Cond.instanceMethod yX3_valueIn, Cond.selects RX3 yX3_valueIn yX3_valueIn, Cond.code yX3_valueIn cX3_valueIn 4 (some .int), Cond.fieldLink RX3 16 "CostStudio" "scenarios" "LCostStudio$Scenarios;", Cond.instanceMethod yX2_addedTo, Cond.initialized RX2, Cond.selects RX2 yX2_addedTo yX2_addedTo, Cond.code yX2_addedTo cX2_addedTo 7 (some .int), Cond.fieldLink RX2 18 "CostStudio$Scenarios" "added" "[I", Cond.fieldLink RX2 9 "CostStudio$Scenarios" "parents" "[I", Cond.methodLink RX2 25 yX2_place, Cond.static yX2_place]
def wsL_drift_r3 : List Cond := [Cond.code yX2_place cX2_place 3 (some .int), Cond.instanceMethod yX1_markNeeded, Cond.initialized RX1, Cond.selects RX1 yX1_markNeeded yX1_markNeeded, Cond.code yX1_markNeeded cX1_markNeeded 4 none, Cond.fieldLink RX1 25 "CostStudio$Lines" "needed" "[Z", Cond.fieldLink RX1 9 "CostStudio$Lines" "kinds" "[C", Cond.fieldLink RX1 22 "CostStudio$Lines" "actuals" "[I", Cond.constant RX1 32 (-1000000000), Cond.fieldLink RX1 15 "CostStudio$Lines" "ones" "[I", Cond.fieldLink RX1 19 "CostStudio$Lines" "others" "[I", Cond.instanceMethod yX1_findNeeded, Cond.selects RX1 yX1_findNeeded yX1_findNeeded, Cond.code yX1_findNeeded cX1_findNeeded 5 (some .int), Cond.fieldLink RX1 29 "CostStudio$Lines" "numbers" "[I", Cond.methodLink RX1 41 yX1_found, Cond.instanceMethod yX1_found, Cond.selects RX1 yX1_found yX1_found, Cond.code yX1_found cX1_found 5 (some .int), Cond.methodLink RX1 45 yX1_combined, Cond.static yX1_combined, Cond.code yX1_combined cX1_combined 5 (some .int), Cond.constantLong RX1 49 (100), Cond.constantLong RX1 51 (-99999999)]
def wsL_drift_r4 : List Cond := [Cond.constantLong RX1 53 (99999999), Cond.methodLink RX3 95 yX3_required, Cond.static yX3_required, Cond.code yX3_required cX3_required 1 (some .int), Cond.classLink RX3 82 "java/lang/UnsupportedOperationException", Cond.initialized "java/lang/UnsupportedOperationException", Cond.constant RX3 117 (-1000000000)]
def wsL_drift : List Cond := .codeWith yL_drift cL_drift 5 (some .int) [(0, 10, 13, 21), (0, 10, 17, 56), (0, 10, 21, 38)] :: ((wsL_drift_r1 ++ (wsL_drift_r2 ++ (wsL_drift_r3 ++ wsL_drift_r4))) ++ wsX30 ++ wsX00 ++ wsX10 ++ wsX20 ++ (vx_atM "java/lang/ArrayIndexOutOfBoundsException" ["java/lang/IndexOutOfBoundsException", "java/lang/RuntimeException", "java/lang/Exception"]).filter goodWord ++ (vx_at0 RX3 120 "java/util/NoSuchElementException" ["java/lang/RuntimeException", "java/lang/Exception"]).filter goodWord ++ (vx_at0 RX3 155 "java/lang/IndexOutOfBoundsException" ["java/lang/RuntimeException", "java/lang/Exception"]).filter goodWord ++ (vx_at0 RX3 84 "java/lang/UnsupportedOperationException" ["java/lang/RuntimeException", "java/lang/Exception"]).filter goodWord)
def wsL_approvedShare : List Cond := .codeWith yL_approvedShare cL_approvedShare 3 (some .int) [(0, 8, 11, 82)] :: ([.classLink RL 82 "java/lang/ArithmeticException", .methodLink RL 78 yX3_approvedShare, .instanceMethod yX3_approvedShare, .selects RX3 yX3_approvedShare yX3_approvedShare, .initialized RX3, .code yX3_approvedShare cX3_approvedShare 3 (some .float), .classLink RX3 147 "java/lang/ArithmeticException", .initialized "java/lang/ArithmeticException", .fieldLink RX3 30 "CostStudio" "approvals" "LCostStudio$Approvals;", .instanceMethod yX0_countIn, .initialized RX0, .selects RX0 yX0_countIn yX0_countIn, .code yX0_countIn cX0_countIn 4 (some .int), .fieldLink RX0 9 "CostStudio$Approvals" "states" "[C"] ++ wsX30 ++ wsX00 ++ (vx_atM "java/lang/ArrayIndexOutOfBoundsException" ["java/lang/IndexOutOfBoundsException", "java/lang/RuntimeException", "java/lang/Exception"]).filter goodWord ++ (vx_at0 RX3 149 "java/lang/ArithmeticException" ["java/lang/RuntimeException", "java/lang/Exception"]).filter goodWord)
def wsL_meanTolerance : List Cond := .codeWith yL_meanTolerance cL_meanTolerance 3 (some .int) [(0, 7, 10, 82)] :: ([.classLink RL 82 "java/lang/ArithmeticException", .methodLink RL 84 yX3_meanTolerance, .instanceMethod yX3_meanTolerance, .selects RX3 yX3_meanTolerance yX3_meanTolerance, .initialized RX3, .code yX3_meanTolerance cX3_meanTolerance 2 (some .double), .classLink RX3 147 "java/lang/ArithmeticException", .initialized "java/lang/ArithmeticException", .fieldLink RX3 30 "CostStudio" "approvals" "LCostStudio$Approvals;", .instanceMethod yX0_countIn, .initialized RX0, .selects RX0 yX0_countIn yX0_countIn, .code yX0_countIn cX0_countIn 4 (some .int), .fieldLink RX0 9 "CostStudio$Approvals" "states" "[C", .instanceMethod yX0_sumOfTolerances, .selects RX0 yX0_sumOfTolerances yX0_sumOfTolerances, .code yX0_sumOfTolerances cX0_sumOfTolerances 3 (some .int), .fieldLink RX0 19 "CostStudio$Approvals" "tolerances" "[I"] ++ wsX30 ++ wsX00 ++ (vx_atM "java/lang/ArrayIndexOutOfBoundsException" ["java/lang/IndexOutOfBoundsException", "java/lang/RuntimeException", "java/lang/Exception"]).filter goodWord ++ (vx_at0 RX3 149 "java/lang/ArithmeticException" ["java/lang/RuntimeException", "java/lang/Exception"]).filter goodWord)
def wsL_law0_r1 : List Cond := [Cond.classLink RL 8 RX3, Cond.instantiable RX3 7, Cond.initialized RX3, Cond.classLink RL 89 RX4, Cond.instantiable RX4 22, Cond.initialized RX4, Cond.arrayClass .long, Cond.arrayClass .double, Cond.methodLink RL 88 yX3_init, Cond.instanceMethod yX3_init, Cond.code yX3_init cX3_init 1 none, Cond.methodLink RX3 3 objectInit, Cond.instanceMethod objectInit, Cond.code objectInit ⟨#[0xb1]⟩ 1 none, Cond.arrayClass .int, Cond.fieldLink RX3 9 "CostStudio" "driverValues" "[I", Cond.classLink RX3 13 RX2, Cond.instantiable RX2 5, Cond.initialized RX2, Cond.fieldLink RX3 16 "CostStudio" "scenarios" "LCostStudio$Scenarios;", Cond.classLink RX3 20 RX1, Cond.instantiable RX1 7, Cond.initialized RX1, Cond.fieldLink RX3 23 "CostStudio" "lines" "LCostStudio$Lines;"]
def wsL_law0_r2 : List Cond := [Cond.classLink RX3 27 RX0, Cond.instantiable RX0 3, Cond.initialized RX0, Cond.fieldLink RX3 30 "CostStudio" "approvals" "LCostStudio$Approvals;", Cond.fieldLink RX3 34 "CostStudio" "inputs" "[I", Cond.instanceMethod yX2_init, Cond.code yX2_init cX2_init 1 none, Cond.methodLink RX2 3 objectInit, Cond.fieldLink RX2 9 "CostStudio$Scenarios" "parents" "[I", Cond.fieldLink RX2 15 "CostStudio$Scenarios" "ownDifferences" "[I", Cond.fieldLink RX2 18 "CostStudio$Scenarios" "added" "[I", Cond.fieldLink RX2 21 "CostStudio$Scenarios" "count" "I", Cond.instanceMethod yX1_init, Cond.code yX1_init cX1_init 2 none, Cond.methodLink RX1 3 objectInit, Cond.arrayClass .char, Cond.fieldLink RX1 9 "CostStudio$Lines" "kinds" "[C", Cond.fieldLink RX1 15 "CostStudio$Lines" "ones" "[I", Cond.fieldLink RX1 19 "CostStudio$Lines" "others" "[I", Cond.fieldLink RX1 22 "CostStudio$Lines" "actuals" "[I", Cond.arrayClass .boolean, Cond.fieldLink RX1 25 "CostStudio$Lines" "needed" "[Z", Cond.fieldLink RX1 29 "CostStudio$Lines" "numbers" "[I", Cond.constant RX1 32 (-1000000000)]
def wsL_law0_r3 : List Cond := [Cond.instanceMethod yX0_init, Cond.code yX0_init cX0_init 2 none, Cond.methodLink RX0 3 objectInit, Cond.fieldLink RX0 9 "CostStudio$Approvals" "states" "[C", Cond.fieldLink RX0 15 "CostStudio$Approvals" "keptNumbers" "[I", Cond.fieldLink RX0 19 "CostStudio$Approvals" "tolerances" "[I", Cond.methodLink RL 91 yX4_init, Cond.instanceMethod yX4_init, Cond.code yX4_init cX4_init 2 none, Cond.methodLink RX4 1 objectInit, Cond.fieldLink RX4 7 "CostStudioModel" "values" "[I", Cond.fieldLink RX4 13 "CostStudioModel" "kindsOf" "[I", Cond.fieldLink RX4 16 "CostStudioModel" "ones" "[I", Cond.fieldLink RX4 19 "CostStudioModel" "others" "[I", Cond.fieldLink RX4 22 "CostStudioModel" "parents" "[I", Cond.fieldLink RX4 25 "CostStudioModel" "scenarioOf" "[I", Cond.fieldLink RX4 28 "CostStudioModel" "driverOf" "[I", Cond.fieldLink RX4 31 "CostStudioModel" "fromOf" "[I", Cond.fieldLink RX4 34 "CostStudioModel" "numberOf" "[I", Cond.fieldLink RX4 37 "CostStudioModel" "actuals" "[I", Cond.fieldLink RX4 40 "CostStudioModel" "kept" "[I", Cond.fieldLink RX4 43 "CostStudioModel" "tolerances" "[I", Cond.fieldLink RX4 46 "CostStudioModel" "hasActual" "[Z", Cond.fieldLink RX4 50 "CostStudioModel" "isFound" "[Z"]
def wsL_law0_r4 : List Cond := [Cond.fieldLink RX4 53 "CostStudioModel" "approvals" "[C", Cond.fieldLink RX4 57 "CostStudioModel" "found" "[J", Cond.fieldLink RX4 61 "CostStudioModel" "thrown" "I", Cond.fieldLink RX4 65 "CostStudioModel" "drivers" "I", Cond.fieldLink RX4 68 "CostStudioModel" "lines" "I", Cond.fieldLink RX4 71 "CostStudioModel" "scenarios" "I", Cond.fieldLink RX4 74 "CostStudioModel" "differences" "I", Cond.fieldLink RX4 77 "CostStudioModel" "month" "I", Cond.methodLink RL 92 yL_addDriver, Cond.static yL_addDriver, Cond.initialized RL, Cond.codeWith yL_addDriver cL_addDriver 4 (some .int) [(0, 9, 12, 13), (0, 9, 15, 15)], Cond.classLink RL 13 "java/lang/IllegalArgumentException", Cond.classLink RL 15 "java/lang/IllegalStateException", Cond.methodLink RL 7 yX3_addDriver, Cond.instanceMethod yX3_addDriver, Cond.selects RX3 yX3_addDriver yX3_addDriver, Cond.code yX3_addDriver cX3_addDriver 2 (some .int), Cond.classLink RX3 45 "java/lang/IllegalStateException", Cond.initialized "java/lang/IllegalStateException", Cond.fieldLink RX3 41 "CostStudio" "driverCount" "I", Cond.methodLink RX3 37 yX3_requireDriverValue, Cond.static yX3_requireDriverValue, Cond.code yX3_requireDriverValue cX3_requireDriverValue 1 none]
def wsL_law0_r5 : List Cond := [Cond.classLink RX3 65 "java/lang/IllegalArgumentException", Cond.initialized "java/lang/IllegalArgumentException", Cond.methodLink RL 97 yX4_addDriver, Cond.instanceMethod yX4_addDriver, Cond.selects RX4 yX4_addDriver yX4_addDriver, Cond.code yX4_addDriver cX4_addDriver 2 (some .int), Cond.methodLink RX4 80 yX4_in, Cond.static yX4_in, Cond.code yX4_in cX4_in 3 (some .boolean), Cond.methodLink RL 98 yX4_thrown, Cond.instanceMethod yX4_thrown, Cond.selects RX4 yX4_thrown yX4_thrown, Cond.code yX4_thrown cX4_thrown 1 (some .int), Cond.methodLink RL 101 yL_setDriver, Cond.static yL_setDriver, Cond.codeWith yL_setDriver cL_setDriver 5 (some .int) [(0, 10, 13, 21), (0, 10, 17, 13)], Cond.classLink RL 21 "java/lang/IndexOutOfBoundsException", Cond.methodLink RL 17 yX3_setDriver, Cond.instanceMethod yX3_setDriver, Cond.selects RX3 yX3_setDriver yX3_setDriver, Cond.code yX3_setDriver cX3_setDriver 3 (some .int), Cond.methodLink RX3 48 yX3_requireDriver, Cond.instanceMethod yX3_requireDriver, Cond.selects RX3 yX3_requireDriver yX3_requireDriver]
def wsL_law0_r6 : List Cond := [Cond.code yX3_requireDriver cX3_requireDriver 2 none, Cond.classLink RX3 153 "java/lang/IndexOutOfBoundsException", Cond.initialized "java/lang/IndexOutOfBoundsException", Cond.methodLink RX3 51 yX3_reopenDrifted, Cond.instanceMethod yX3_reopenDrifted, Cond.selects RX3 yX3_reopenDrifted yX3_reopenDrifted, Cond.code yX3_reopenDrifted cX3_reopenDrifted 4 (some .int), Cond.methodLink RX3 98 yX3_fillInputs, Cond.instanceMethod yX3_fillInputs, Cond.selects RX3 yX3_fillInputs yX3_fillInputs, Cond.code yX3_fillInputs cX3_fillInputs 5 none, Cond.methodLink RX3 61 yX3_valueIn, Cond.instanceMethod yX3_valueIn, Cond.selects RX3 yX3_valueIn yX3_valueIn, Cond.code yX3_valueIn cX3_valueIn 4 (some .int), Cond.instanceMethod yX2_addedTo, Cond.selects RX2 yX2_addedTo yX2_addedTo, Cond.code yX2_addedTo cX2_addedTo 7 (some .int), Cond.methodLink RX2 25 yX2_place, Cond.static yX2_place, Cond.code yX2_place cX2_place 3 (some .int), Cond.instanceMethod yX1_findAll, Cond.selects RX1 yX1_findAll yX1_findAll, Cond.code yX1_findAll cX1_findAll 4 none]
def wsL_law0_r7 : List Cond := [Cond.fieldLink RX1 33 "CostStudio$Lines" "count" "I", Cond.methodLink RX1 41 yX1_found, Cond.instanceMethod yX1_found, Cond.selects RX1 yX1_found yX1_found, Cond.code yX1_found cX1_found 5 (some .int), Cond.static yX3_cell, Cond.code yX3_cell cX3_cell 2 (some .int), Cond.methodLink RX1 45 yX1_combined, Cond.static yX1_combined, Cond.code yX1_combined cX1_combined 5 (some .int), Cond.constantLong RX1 49 (100), Cond.constantLong RX1 51 (-99999999), Cond.constantLong RX1 53 (99999999), Cond.methodLink RX3 129 yX3_cell, Cond.instanceMethod yX0_reopenIfDrifted, Cond.selects RX0 yX0_reopenIfDrifted yX0_reopenIfDrifted, Cond.code yX0_reopenIfDrifted cX0_reopenIfDrifted 3 (some .boolean), Cond.methodLink RX0 22 yX0_isDrifted, Cond.instanceMethod yX0_isDrifted, Cond.selects RX0 yX0_isDrifted yX0_isDrifted, Cond.code yX0_isDrifted cX0_isDrifted 3 (some .boolean), Cond.constant RX0 26 (-1000000000), Cond.methodLink RX0 27 Lib.Math.abs.name, Cond.static Lib.Math.abs.name]
def wsL_law0_r8 : List Cond := [Cond.initialized "java/lang/Math", Cond.code Lib.Math.abs.name Lib.Math.abs.code 1 (some .int), Cond.methodLink RL 104 yX4_setDriver, Cond.instanceMethod yX4_setDriver, Cond.selects RX4 yX4_setDriver yX4_setDriver, Cond.code yX4_setDriver cX4_setDriver 3 (some .int), Cond.methodLink RX4 110 yX4_isDriver, Cond.instanceMethod yX4_isDriver, Cond.selects RX4 yX4_isDriver yX4_isDriver, Cond.code yX4_isDriver cX4_isDriver 2 (some .boolean), Cond.methodLink RX4 114 yX4_looks, Cond.instanceMethod yX4_looks, Cond.selects RX4 yX4_looks yX4_looks, Cond.code yX4_looks cX4_looks 7 (some .int), Cond.methodLink RX4 94 yX4_at, Cond.static yX4_at, Cond.code yX4_at cX4_at 2 (some .int), Cond.methodLink RX4 106 yX4_finds, Cond.instanceMethod yX4_finds, Cond.selects RX4 yX4_finds yX4_finds, Cond.code yX4_finds cX4_finds 8 (some .boolean), Cond.constantLong RX4 102 (-99999999), Cond.constantLong RX4 104 (99999999), Cond.methodLink RX4 98 yX4_byKind]
def wsL_law0_r9 : List Cond := [Cond.instanceMethod yX4_byKind, Cond.selects RX4 yX4_byKind yX4_byKind, Cond.code yX4_byKind cX4_byKind 9 (some .long), Cond.constantLong RX4 92 (100), Cond.methodLink RX4 88 yX4_valueIn, Cond.instanceMethod yX4_valueIn, Cond.selects RX4 yX4_valueIn yX4_valueIn, Cond.code yX4_valueIn cX4_valueIn 7 (some .int), Cond.methodLink RX4 84 yX4_isUnder, Cond.instanceMethod yX4_isUnder, Cond.selects RX4 yX4_isUnder yX4_isUnder, Cond.code yX4_isUnder cX4_isUnder 4 (some .boolean), Cond.methodLink RL 105 yL_driver, Cond.static yL_driver, Cond.codeWith yL_driver cL_driver 6 (some .int) [(0, 12, 15, 21)], Cond.methodLink RL 23 yX3_driver, Cond.instanceMethod yX3_driver, Cond.selects RX3 yX3_driver yX3_driver, Cond.code yX3_driver cX3_driver 4 (some .int), Cond.methodLink RX3 55 yX3_requireScenario, Cond.instanceMethod yX3_requireScenario, Cond.selects RX3 yX3_requireScenario yX3_requireScenario, Cond.code yX3_requireScenario cX3_requireScenario 2 none, Cond.methodLink RX3 58 yX3_requireMonth]
def wsL_law0_r10 : List Cond := [Cond.static yX3_requireMonth, Cond.code yX3_requireMonth cX3_requireMonth 1 none, Cond.methodLink RL 108 yX4_driver, Cond.instanceMethod yX4_driver, Cond.selects RX4 yX4_driver yX4_driver, Cond.code yX4_driver cX4_driver 4 (some .int), Cond.methodLink RX4 118 yX4_isScenario, Cond.instanceMethod yX4_isScenario, Cond.selects RX4 yX4_isScenario yX4_isScenario, Cond.code yX4_isScenario cX4_isScenario 2 (some .boolean), Cond.methodLink RX4 121 yX4_isMonth, Cond.static yX4_isMonth, Cond.code yX4_isMonth cX4_isMonth 1 (some .boolean), Cond.methodLink RX4 124 yX4_checked, Cond.instanceMethod yX4_checked, Cond.selects RX4 yX4_checked yX4_checked, Cond.code yX4_checked cX4_checked 2 (some .int), Cond.methodLink RL 109 yL_addLine, Cond.static yL_addLine, Cond.codeWith yL_addLine cL_addLine 6 (some .int) [(0, 12, 15, 13), (0, 12, 19, 21), (0, 12, 23, 15)], Cond.methodLink RL 27 yX3_addLine, Cond.instanceMethod yX3_addLine, Cond.selects RX3 yX3_addLine yX3_addLine, Cond.code yX3_addLine cX3_addLine 4 (some .int)]
def wsL_law0_r11 : List Cond := [Cond.methodLink RX3 68 yX3_requireLine, Cond.instanceMethod yX3_requireLine, Cond.selects RX3 yX3_requireLine yX3_requireLine, Cond.code yX3_requireLine cX3_requireLine 2 none, Cond.instanceMethod yX1_add, Cond.selects RX1 yX1_add yX1_add, Cond.code yX1_add cX1_add 4 (some .int), Cond.methodLink RL 112 yX4_addLine, Cond.instanceMethod yX4_addLine, Cond.selects RX4 yX4_addLine yX4_addLine, Cond.code yX4_addLine cX4_addLine 5 (some .int), Cond.methodLink RX4 128 yX4_isLine, Cond.instanceMethod yX4_isLine, Cond.selects RX4 yX4_isLine yX4_isLine, Cond.code yX4_isLine cX4_isLine 2 (some .boolean), Cond.methodLink RL 113 yL_addScenario, Cond.static yL_addScenario, Cond.codeWith yL_addScenario cL_addScenario 4 (some .int) [(0, 9, 12, 21), (0, 9, 15, 15)], Cond.methodLink RL 31 yX3_addScenario, Cond.instanceMethod yX3_addScenario, Cond.selects RX3 yX3_addScenario yX3_addScenario, Cond.code yX3_addScenario cX3_addScenario 2 (some .int), Cond.instanceMethod yX2_add, Cond.selects RX2 yX2_add yX2_add]
def wsL_law0_r12 : List Cond := [Cond.code yX2_add cX2_add 2 (some .int), Cond.methodLink RL 115 yX4_addScenario, Cond.instanceMethod yX4_addScenario, Cond.selects RX4 yX4_addScenario yX4_addScenario, Cond.code yX4_addScenario cX4_addScenario 2 (some .int), Cond.methodLink RL 116 yL_differ, Cond.static yL_differ, Cond.codeWith yL_differ cL_differ 7 (some .int) [(0, 14, 17, 21), (0, 14, 21, 13), (0, 14, 25, 38), (0, 14, 29, 15)], Cond.classLink RL 38 "java/lang/UnsupportedOperationException", Cond.methodLink RL 34 yX3_differ, Cond.instanceMethod yX3_differ, Cond.selects RX3 yX3_differ yX3_differ, Cond.code yX3_differ cX3_differ 5 (some .int), Cond.classLink RX3 82 "java/lang/UnsupportedOperationException", Cond.initialized "java/lang/UnsupportedOperationException", Cond.instanceMethod yX2_addDifference, Cond.selects RX2 yX2_addDifference yX2_addDifference, Cond.code yX2_addDifference cX2_addDifference 6 (some .int), Cond.fieldLink RX2 29 "CostStudio$Scenarios" "differenceCount" "I", Cond.methodLink RL 119 yX4_differ, Cond.instanceMethod yX4_differ, Cond.selects RX4 yX4_differ yX4_differ, Cond.code yX4_differ cX4_differ 7 (some .int), Cond.methodLink RL 120 yL_number]
def wsL_law0_r13 : List Cond := [Cond.static yL_number, Cond.codeWith yL_number cL_number 6 (some .int) [(0, 12, 15, 21), (0, 12, 19, 38)], Cond.methodLink RL 40 yX3_number, Cond.instanceMethod yX3_number, Cond.selects RX3 yX3_number yX3_number, Cond.code yX3_number cX3_number 4 (some .int), Cond.methodLink RX3 92 yX3_numberIn, Cond.instanceMethod yX3_numberIn, Cond.selects RX3 yX3_numberIn yX3_numberIn, Cond.code yX3_numberIn cX3_numberIn 5 (some .int), Cond.instanceMethod yX1_markNeeded, Cond.selects RX1 yX1_markNeeded yX1_markNeeded, Cond.code yX1_markNeeded cX1_markNeeded 4 none, Cond.instanceMethod yX1_findNeeded, Cond.selects RX1 yX1_findNeeded yX1_findNeeded, Cond.code yX1_findNeeded cX1_findNeeded 5 (some .int), Cond.methodLink RX3 95 yX3_required, Cond.static yX3_required, Cond.code yX3_required cX3_required 1 (some .int), Cond.constant RX3 117 (-1000000000), Cond.methodLink RL 122 yX4_number, Cond.instanceMethod yX4_number, Cond.selects RX4 yX4_number yX4_number, Cond.code yX4_number cX4_number 4 (some .int)]
def wsL_law0_r14 : List Cond := [Cond.methodLink RL 123 yL_numberByHand, Cond.static yL_numberByHand, Cond.codeWith yL_numberByHand cL_numberByHand 6 (some .int) [(0, 12, 15, 21), (0, 12, 19, 38)], Cond.methodLink RL 43 yX3_numberByHand, Cond.instanceMethod yX3_numberByHand, Cond.selects RX3 yX3_numberByHand yX3_numberByHand, Cond.code yX3_numberByHand cX3_numberByHand 4 (some .int), Cond.methodLink RL 125 yX4_numberByHand, Cond.instanceMethod yX4_numberByHand, Cond.selects RX4 yX4_numberByHand yX4_numberByHand, Cond.code yX4_numberByHand cX4_numberByHand 4 (some .int), Cond.methodLink RX4 131 yX4_number, Cond.methodLink RL 126 yL_year, Cond.static yL_year, Cond.codeWith yL_year cL_year 5 (some .int) [(0, 9, 12, 21), (0, 9, 16, 38)], Cond.methodLink RL 46 yX3_year, Cond.instanceMethod yX3_year, Cond.selects RX3 yX3_year yX3_year, Cond.code yX3_year cX3_year 6 (some .long), Cond.methodLink RL 128 yX4_year, Cond.instanceMethod yX4_year, Cond.selects RX4 yX4_year yX4_year, Cond.code yX4_year cX4_year 6 (some .long), Cond.methodLink RL 129 yL_effect]
def wsL_law0_r15 : List Cond := [Cond.static yL_effect, Cond.codeWith yL_effect cL_effect 7 (some .int) [(0, 14, 17, 21), (0, 14, 21, 38)], Cond.methodLink RL 50 yX3_effect, Cond.instanceMethod yX3_effect, Cond.selects RX3 yX3_effect yX3_effect, Cond.code yX3_effect cX3_effect 7 (some .int), Cond.methodLink RL 131 yX4_effect, Cond.instanceMethod yX4_effect, Cond.selects RX4 yX4_effect yX4_effect, Cond.code yX4_effect cX4_effect 9 (some .int), Cond.methodLink RL 132 yL_seek, Cond.static yL_seek, Cond.codeWith yL_seek cL_seek 7 (some .int) [(0, 14, 17, 21), (0, 14, 21, 56)], Cond.classLink RL 56 "java/util/NoSuchElementException", Cond.methodLink RL 53 yX3_seek, Cond.instanceMethod yX3_seek, Cond.selects RX3 yX3_seek yX3_seek, Cond.code yX3_seek cX3_seek 7 (some .int), Cond.classLink RX3 118 "java/util/NoSuchElementException", Cond.initialized "java/util/NoSuchElementException", Cond.methodLink RL 134 yX4_seek, Cond.instanceMethod yX4_seek, Cond.selects RX4 yX4_seek yX4_seek, Cond.code yX4_seek cX4_seek 8 (some .int)]
def wsL_law0_r16 : List Cond := [Cond.methodLink RL 135 yL_actual, Cond.static yL_actual, Cond.codeWith yL_actual cL_actual 6 (some .int) [(0, 12, 15, 21), (0, 12, 19, 13)], Cond.methodLink RL 58 yX3_actual, Cond.instanceMethod yX3_actual, Cond.selects RX3 yX3_actual yX3_actual, Cond.code yX3_actual cX3_actual 4 (some .int), Cond.fieldLink RX3 121 "CostStudio" "presentMonth" "I", Cond.constant RX3 124 (-9999999), Cond.constant RX3 125 (9999999), Cond.methodLink RL 137 yX4_actual, Cond.instanceMethod yX4_actual, Cond.selects RX4 yX4_actual yX4_actual, Cond.code yX4_actual cX4_actual 4 (some .int), Cond.constant RX4 135 (-9999999), Cond.constant RX4 136 (9999999), Cond.methodLink RL 138 yL_takeActual, Cond.static yL_takeActual, Cond.codeWith yL_takeActual cL_takeActual 5 (some .int) [(0, 10, 13, 21), (0, 10, 17, 56)], Cond.methodLink RL 61 yX3_takeActual, Cond.instanceMethod yX3_takeActual, Cond.selects RX3 yX3_takeActual yX3_takeActual, Cond.code yX3_takeActual cX3_takeActual 3 (some .int), Cond.methodLink RL 140 yX4_takeActual]
def wsL_law0_r17 : List Cond := [Cond.instanceMethod yX4_takeActual, Cond.selects RX4 yX4_takeActual yX4_takeActual, Cond.code yX4_takeActual cX4_takeActual 3 (some .int), Cond.methodLink RL 141 yL_pass, Cond.static yL_pass, Cond.codeWith yL_pass cL_pass 3 (some .int) [(0, 8, 11, 15)], Cond.methodLink RL 64 yX3_pass, Cond.instanceMethod yX3_pass, Cond.selects RX3 yX3_pass yX3_pass, Cond.code yX3_pass cX3_pass 1 (some .int), Cond.methodLink RL 144 yX4_pass, Cond.instanceMethod yX4_pass, Cond.selects RX4 yX4_pass yX4_pass, Cond.code yX4_pass cX4_pass 1 (some .int), Cond.methodLink RL 145 yX3_month, Cond.instanceMethod yX3_month, Cond.selects RX3 yX3_month yX3_month, Cond.code yX3_month cX3_month 1 (some .int), Cond.methodLink RL 148 yX4_month, Cond.instanceMethod yX4_month, Cond.selects RX4 yX4_month yX4_month, Cond.code yX4_month cX4_month 1 (some .int), Cond.methodLink RL 149 yL_approve, Cond.static yL_approve]
def wsL_law0_r18 : List Cond := [Cond.codeWith yL_approve cL_approve 6 (some .int) [(0, 12, 15, 21), (0, 12, 19, 13), (0, 12, 23, 38)], Cond.methodLink RL 68 yX3_approve, Cond.instanceMethod yX3_approve, Cond.selects RX3 yX3_approve yX3_approve, Cond.code yX3_approve cX3_approve 5 (some .int), Cond.instanceMethod yX0_keep, Cond.selects RX0 yX0_keep yX0_keep, Cond.code yX0_keep cX0_keep 4 none, Cond.methodLink RL 151 yX4_approve, Cond.instanceMethod yX4_approve, Cond.selects RX4 yX4_approve yX4_approve, Cond.code yX4_approve cX4_approve 4 (some .int), Cond.methodLink RL 152 yL_state, Cond.static yL_state, Cond.codeWith yL_state cL_state 5 (some .int) [(0, 10, 13, 21)], Cond.methodLink RL 71 yX3_state, Cond.instanceMethod yX3_state, Cond.selects RX3 yX3_state yX3_state, Cond.code yX3_state cX3_state 3 (some .char), Cond.methodLink RL 154 yX4_state, Cond.instanceMethod yX4_state, Cond.selects RX4 yX4_state yX4_state, Cond.code yX4_state cX4_state 3 (some .char), Cond.methodLink RL 155 yL_drift]
def wsL_law0_r19 : List Cond := [Cond.static yL_drift, Cond.codeWith yL_drift cL_drift 5 (some .int) [(0, 10, 13, 21), (0, 10, 17, 56), (0, 10, 21, 38)], Cond.methodLink RL 75 yX3_drift, Cond.instanceMethod yX3_drift, Cond.selects RX3 yX3_drift yX3_drift, Cond.code yX3_drift cX3_drift 4 (some .int), Cond.methodLink RL 157 yX4_drift, Cond.instanceMethod yX4_drift, Cond.selects RX4 yX4_drift yX4_drift, Cond.code yX4_drift cX4_drift 3 (some .int), Cond.methodLink RL 158 yX3_open, Cond.instanceMethod yX3_open, Cond.selects RX3 yX3_open yX3_open, Cond.code yX3_open cX3_open 1 (some .int), Cond.instanceMethod yX0_countIn, Cond.selects RX0 yX0_countIn yX0_countIn, Cond.code yX0_countIn cX0_countIn 4 (some .int), Cond.methodLink RL 161 yX4_open, Cond.instanceMethod yX4_open, Cond.selects RX4 yX4_open yX4_open, Cond.code yX4_open cX4_open 1 (some .int), Cond.methodLink RX4 137 yX4_many, Cond.instanceMethod yX4_many, Cond.selects RX4 yX4_many yX4_many]
def wsL_law0_r20 : List Cond := [Cond.code yX4_many cX4_many 4 (some .int), Cond.methodLink RL 162 yL_approvedShare, Cond.static yL_approvedShare, Cond.codeWith yL_approvedShare cL_approvedShare 3 (some .int) [(0, 8, 11, 82)], Cond.classLink RL 82 "java/lang/ArithmeticException", Cond.methodLink RL 78 yX3_approvedShare, Cond.instanceMethod yX3_approvedShare, Cond.selects RX3 yX3_approvedShare yX3_approvedShare, Cond.code yX3_approvedShare cX3_approvedShare 3 (some .float), Cond.classLink RX3 147 "java/lang/ArithmeticException", Cond.initialized "java/lang/ArithmeticException", Cond.methodLink RL 165 yX4_approvedShare, Cond.instanceMethod yX4_approvedShare, Cond.selects RX4 yX4_approvedShare yX4_approvedShare, Cond.code yX4_approvedShare cX4_approvedShare 2 (some .float), Cond.methodLink RL 166 yL_meanTolerance, Cond.static yL_meanTolerance, Cond.codeWith yL_meanTolerance cL_meanTolerance 3 (some .int) [(0, 7, 10, 82)], Cond.methodLink RL 84 yX3_meanTolerance, Cond.instanceMethod yX3_meanTolerance, Cond.selects RX3 yX3_meanTolerance yX3_meanTolerance, Cond.code yX3_meanTolerance cX3_meanTolerance 2 (some .double), Cond.instanceMethod yX0_sumOfTolerances, Cond.selects RX0 yX0_sumOfTolerances yX0_sumOfTolerances]
def wsL_law0_r21 : List Cond := [Cond.code yX0_sumOfTolerances cX0_sumOfTolerances 3 (some .int), Cond.methodLink RL 168 yX4_meanTolerance, Cond.instanceMethod yX4_meanTolerance, Cond.selects RX4 yX4_meanTolerance yX4_meanTolerance, Cond.code yX4_meanTolerance cX4_meanTolerance 3 (some .double)]
def wsL_law0 : List Cond := (wsL_law0_r1 ++ (wsL_law0_r2 ++ (wsL_law0_r3 ++ (wsL_law0_r4 ++ (wsL_law0_r5 ++ (wsL_law0_r6 ++ (wsL_law0_r7 ++ (wsL_law0_r8 ++ (wsL_law0_r9 ++ (wsL_law0_r10 ++ (wsL_law0_r11 ++ (wsL_law0_r12 ++ (wsL_law0_r13 ++ (wsL_law0_r14 ++ (wsL_law0_r15 ++ (wsL_law0_r16 ++ (wsL_law0_r17 ++ (wsL_law0_r18 ++ (wsL_law0_r19 ++ (wsL_law0_r20 ++ wsL_law0_r21)))))))))))))))))))) ++ wsX30 ++ wsX40 ++ wsX20 ++ wsX10 ++ wsX00 ++ ([] : List Cond)
def wsL_law : List Cond := wsL_law0 ++ (vx_atM "java/lang/ArrayIndexOutOfBoundsException" ["java/lang/IndexOutOfBoundsException", "java/lang/RuntimeException", "java/lang/Exception"]).filter goodWord ++ (vx_at0 RX3 47 "java/lang/IllegalStateException" ["java/lang/RuntimeException", "java/lang/Exception"]).filter goodWord ++ (vx_at0 RX3 67 "java/lang/IllegalArgumentException" ["java/lang/RuntimeException", "java/lang/Exception"]).filter goodWord ++ (vx_at0 RX3 155 "java/lang/IndexOutOfBoundsException" ["java/lang/RuntimeException", "java/lang/Exception"]).filter goodWord ++ (vx_at0 RX3 84 "java/lang/UnsupportedOperationException" ["java/lang/RuntimeException", "java/lang/Exception"]).filter goodWord ++ (vx_at0 RX3 120 "java/util/NoSuchElementException" ["java/lang/RuntimeException", "java/lang/Exception"]).filter goodWord ++ (vx_at0 RX3 149 "java/lang/ArithmeticException" ["java/lang/RuntimeException", "java/lang/Exception"]).filter goodWord
set_option maxRecDepth 20000 in
theorem wsL_law0_i1 : GoodIn lw_tbl wsL_law0_r1 := goodIn_p _ [53, 56] (by decide +kernel) (by decide +kernel)
set_option maxRecDepth 20000 in
theorem wsL_law0_i2 : GoodIn lw_tbl wsL_law0_r2 := goodIn_p _ [61, 86] (by decide +kernel) (by decide +kernel)
set_option maxRecDepth 20000 in
theorem wsL_law0_i3 : GoodIn lw_tbl wsL_law0_r3 := goodIn_p _ [120, 594] (by decide +kernel) (by decide +kernel)
set_option maxRecDepth 20000 in
theorem wsL_law0_i4 : GoodIn lw_tbl wsL_law0_r4 := goodIn_p _ [176, 179] (by decide +kernel) (by decide +kernel)
set_option maxRecDepth 20000 in
theorem wsL_law0_i5 : GoodIn lw_tbl wsL_law0_r5 := goodIn_p _ [671, 674, 667, 302] (by decide +kernel) (by decide +kernel)
set_option maxRecDepth 20000 in
theorem wsL_law0_i6 : GoodIn lw_tbl wsL_law0_r6 := goodIn_p _ [306, 325, 329, 333, 337, 340, 344] (by decide +kernel) (by decide +kernel)
set_option maxRecDepth 20000 in
theorem wsL_law0_i7 : GoodIn lw_tbl wsL_law0_r7 := goodIn_p _ [348, 351, 354, 362, 366] (by decide +kernel) (by decide +kernel)
set_option maxRecDepth 20000 in
theorem wsL_law0_i8 : GoodIn lw_tbl wsL_law0_r8 := goodIn_p _ [370, 678, 682, 686, 689, 693] (by decide +kernel) (by decide +kernel)
set_option maxRecDepth 20000 in
theorem wsL_law0_i9 : GoodIn lw_tbl wsL_law0_r9 := goodIn_p _ [697, 701, 705, 377, 381] (by decide +kernel) (by decide +kernel)
set_option maxRecDepth 20000 in
theorem wsL_law0_i10 : GoodIn lw_tbl wsL_law0_r10 := goodIn_p _ [384, 712, 716, 719, 723, 391] (by decide +kernel) (by decide +kernel)
set_option maxRecDepth 20000 in
theorem wsL_law0_i11 : GoodIn lw_tbl wsL_law0_r11 := goodIn_p _ [395, 399, 727, 731, 406] (by decide +kernel) (by decide +kernel)
set_option maxRecDepth 20000 in
theorem wsL_law0_i12 : GoodIn lw_tbl wsL_law0_r12 := goodIn_p _ [410, 735, 418, 437, 739] (by decide +kernel) (by decide +kernel)
set_option maxRecDepth 20000 in
theorem wsL_law0_i13 : GoodIn lw_tbl wsL_law0_r13 := goodIn_p _ [444, 448, 452, 456, 459, 743] (by decide +kernel) (by decide +kernel)
set_option maxRecDepth 20000 in
theorem wsL_law0_i14 : GoodIn lw_tbl wsL_law0_r14 := goodIn_p _ [467, 747, 474, 752] (by decide +kernel) (by decide +kernel)
set_option maxRecDepth 20000 in
theorem wsL_law0_i15 : GoodIn lw_tbl wsL_law0_r15 := goodIn_p _ [481, 756, 489, 760] (by decide +kernel) (by decide +kernel)
set_option maxRecDepth 20000 in
theorem wsL_law0_i16 : GoodIn lw_tbl wsL_law0_r16 := goodIn_p _ [511, 764, 520] (by decide +kernel) (by decide +kernel)
set_option maxRecDepth 20000 in
theorem wsL_law0_i17 : GoodIn lw_tbl wsL_law0_r17 := goodIn_p _ [770, 527, 774, 159, 778] (by decide +kernel) (by decide +kernel)
set_option maxRecDepth 20000 in
theorem wsL_law0_i18 : GoodIn lw_tbl wsL_law0_r18 := goodIn_p _ [534, 538, 782, 545, 786] (by decide +kernel) (by decide +kernel)
set_option maxRecDepth 20000 in
theorem wsL_law0_i19 : GoodIn lw_tbl wsL_law0_r19 := goodIn_p _ [552, 790, 163, 167, 794] (by decide +kernel) (by decide +kernel)
set_option maxRecDepth 20000 in
theorem wsL_law0_i20 : GoodIn lw_tbl wsL_law0_r20 := goodIn_p _ [798, 573, 802, 585] (by decide +kernel) (by decide +kernel)
set_option maxRecDepth 20000 in
theorem wsL_law0_i21 : GoodIn lw_tbl wsL_law0_r21 := goodIn_p _ [589, 806] (by decide +kernel) (by decide +kernel)
set_option maxRecDepth 20000 in
theorem wsL_law0_x3 : GoodIn lw_tbl wsX30 := goodIn_p _ [] (by decide +kernel) (by decide +kernel)
set_option maxRecDepth 20000 in
theorem wsL_law0_x4 : GoodIn lw_tbl wsX40 := goodIn_p _ [] (by decide +kernel) (by decide +kernel)
set_option maxRecDepth 20000 in
theorem wsL_law0_x2 : GoodIn lw_tbl wsX20 := goodIn_p _ [] (by decide +kernel) (by decide +kernel)
set_option maxRecDepth 20000 in
theorem wsL_law0_x1 : GoodIn lw_tbl wsX10 := goodIn_p _ [] (by decide +kernel) (by decide +kernel)
set_option maxRecDepth 20000 in
theorem wsL_law0_x0 : GoodIn lw_tbl wsX00 := goodIn_p _ [] (by decide +kernel) (by decide +kernel)
theorem wsL_law0_g : GoodIn lw_tbl wsL_law0 := (goodIn_app (goodIn_app (goodIn_app (goodIn_app (goodIn_app (goodIn_app (goodIn_app wsL_law0_i1 (goodIn_app wsL_law0_i2 (goodIn_app wsL_law0_i3 (goodIn_app wsL_law0_i4 (goodIn_app wsL_law0_i5 (goodIn_app wsL_law0_i6 (goodIn_app wsL_law0_i7 (goodIn_app wsL_law0_i8 (goodIn_app wsL_law0_i9 (goodIn_app wsL_law0_i10 (goodIn_app wsL_law0_i11 (goodIn_app wsL_law0_i12 (goodIn_app wsL_law0_i13 (goodIn_app wsL_law0_i14 (goodIn_app wsL_law0_i15 (goodIn_app wsL_law0_i16 (goodIn_app wsL_law0_i17 (goodIn_app wsL_law0_i18 (goodIn_app wsL_law0_i19 (goodIn_app wsL_law0_i20 wsL_law0_i21)))))))))))))))))))) wsL_law0_x3) wsL_law0_x4) wsL_law0_x2) wsL_law0_x1) wsL_law0_x0) (fun _ h => absurd h List.not_mem_nil))
theorem wsL_law_in0 : ∀ w ∈ wsL_law0, w ∈ lw_tbl := fun w h => (wsL_law0_g w h).1
theorem wsL_law_x0 : ∀ w ∈ (vx_atM "java/lang/ArrayIndexOutOfBoundsException" ["java/lang/IndexOutOfBoundsException", "java/lang/RuntimeException", "java/lang/Exception"]).filter goodWord, w ∈ lw_tbl := by decide +kernel
theorem wsL_law_x1 : ∀ w ∈ (vx_at0 RX3 47 "java/lang/IllegalStateException" ["java/lang/RuntimeException", "java/lang/Exception"]).filter goodWord, w ∈ lw_tbl := by decide +kernel
theorem wsL_law_x2 : ∀ w ∈ (vx_at0 RX3 67 "java/lang/IllegalArgumentException" ["java/lang/RuntimeException", "java/lang/Exception"]).filter goodWord, w ∈ lw_tbl := by decide +kernel
theorem wsL_law_x3 : ∀ w ∈ (vx_at0 RX3 155 "java/lang/IndexOutOfBoundsException" ["java/lang/RuntimeException", "java/lang/Exception"]).filter goodWord, w ∈ lw_tbl := by decide +kernel
theorem wsL_law_x4 : ∀ w ∈ (vx_at0 RX3 84 "java/lang/UnsupportedOperationException" ["java/lang/RuntimeException", "java/lang/Exception"]).filter goodWord, w ∈ lw_tbl := by decide +kernel
theorem wsL_law_x5 : ∀ w ∈ (vx_at0 RX3 120 "java/util/NoSuchElementException" ["java/lang/RuntimeException", "java/lang/Exception"]).filter goodWord, w ∈ lw_tbl := by decide +kernel
theorem wsL_law_x6 : ∀ w ∈ (vx_at0 RX3 149 "java/lang/ArithmeticException" ["java/lang/RuntimeException", "java/lang/Exception"]).filter goodWord, w ∈ lw_tbl := by decide +kernel
theorem wsL_law_in : ∀ w ∈ wsL_law, w ∈ lw_tbl := fun w h => (List.mem_append.mp h).elim (fun h => (List.mem_append.mp h).elim (fun h => (List.mem_append.mp h).elim (fun h => (List.mem_append.mp h).elim (fun h => (List.mem_append.mp h).elim (fun h => (List.mem_append.mp h).elim (fun h => (List.mem_append.mp h).elim (fun h => wsL_law_in0 w h) (fun h => wsL_law_x0 w h)) (fun h => wsL_law_x1 w h)) (fun h => wsL_law_x2 w h)) (fun h => wsL_law_x3 w h)) (fun h => wsL_law_x4 w h)) (fun h => wsL_law_x5 w h)) (fun h => wsL_law_x6 w h)
theorem inlX0 : ∀ w ∈ wsX00, w ∈ wsL_law := fun _ h => List.mem_append_left _ (List.mem_append_left _ (List.mem_append_left _ (List.mem_append_left _ (List.mem_append_left _ (List.mem_append_left _ (List.mem_append_left _ (List.mem_append_left _ (List.mem_append_right _ h))))))))
theorem inX0 : ∀ w ∈ wsX00, w ∈ lw_tbl := fun w h => wsL_law_in w (inlX0 w h)
theorem inlX1 : ∀ w ∈ wsX10, w ∈ wsL_law := fun _ h => List.mem_append_left _ (List.mem_append_left _ (List.mem_append_left _ (List.mem_append_left _ (List.mem_append_left _ (List.mem_append_left _ (List.mem_append_left _ (List.mem_append_left _ (List.mem_append_left _ (List.mem_append_right _ h)))))))))
theorem inX1 : ∀ w ∈ wsX10, w ∈ lw_tbl := fun w h => wsL_law_in w (inlX1 w h)
theorem inlX2 : ∀ w ∈ wsX20, w ∈ wsL_law := fun _ h => List.mem_append_left _ (List.mem_append_left _ (List.mem_append_left _ (List.mem_append_left _ (List.mem_append_left _ (List.mem_append_left _ (List.mem_append_left _ (List.mem_append_left _ (List.mem_append_left _ (List.mem_append_left _ (List.mem_append_right _ h))))))))))
theorem inX2 : ∀ w ∈ wsX20, w ∈ lw_tbl := fun w h => wsL_law_in w (inlX2 w h)
theorem inlX3 : ∀ w ∈ wsX30, w ∈ wsL_law := fun _ h => List.mem_append_left _ (List.mem_append_left _ (List.mem_append_left _ (List.mem_append_left _ (List.mem_append_left _ (List.mem_append_left _ (List.mem_append_left _ (List.mem_append_left _ (List.mem_append_left _ (List.mem_append_left _ (List.mem_append_left _ (List.mem_append_left _ (List.mem_append_right _ h))))))))))))
theorem inX3 : ∀ w ∈ wsX30, w ∈ lw_tbl := fun w h => wsL_law_in w (inlX3 w h)
theorem inlX4 : ∀ w ∈ wsX40, w ∈ wsL_law := fun _ h => List.mem_append_left _ (List.mem_append_left _ (List.mem_append_left _ (List.mem_append_left _ (List.mem_append_left _ (List.mem_append_left _ (List.mem_append_left _ (List.mem_append_left _ (List.mem_append_left _ (List.mem_append_left _ (List.mem_append_left _ (List.mem_append_right _ h)))))))))))
theorem inX4 : ∀ w ∈ wsX40, w ∈ lw_tbl := fun w h => wsL_law_in w (inlX4 w h)
theorem inJx145de : ∀ w ∈ wsJx145de0, w ∈ lw_tbl := by decide +kernel
theorem inJx00060 : ∀ w ∈ wsJx000600, w ∈ lw_tbl := by decide +kernel
theorem inJ9 : ∀ w ∈ wsJ90, w ∈ lw_tbl := by decide +kernel
theorem inJ0 : ∀ w ∈ wsJ00, w ∈ lw_tbl := by decide +kernel
end
section
theorem dX0_init_0 : decode cX0_init 0 = .ok (.aload_n 0, 1) := by decide +kernel
theorem dX0_init_1 : decode cX0_init 1 = .ok (.invokespecial 3, 3) := by decide +kernel
theorem dX0_init_4 : decode cX0_init 4 = .ok (.aload_n 0, 1) := by decide +kernel
theorem dX0_init_5 : decode cX0_init 5 = .ok (.bipush 120, 2) := by decide +kernel
theorem dX0_init_7 : decode cX0_init 7 = .ok (.newarray .char, 2) := by decide +kernel
theorem dX0_init_9 : decode cX0_init 9 = .ok (.putfield 9, 3) := by decide +kernel
theorem dX0_init_12 : decode cX0_init 12 = .ok (.aload_n 0, 1) := by decide +kernel
theorem dX0_init_13 : decode cX0_init 13 = .ok (.bipush 120, 2) := by decide +kernel
theorem dX0_init_15 : decode cX0_init 15 = .ok (.newarray .int, 2) := by decide +kernel
theorem dX0_init_17 : decode cX0_init 17 = .ok (.putfield 15, 3) := by decide +kernel
theorem dX0_init_20 : decode cX0_init 20 = .ok (.aload_n 0, 1) := by decide +kernel
theorem dX0_init_21 : decode cX0_init 21 = .ok (.bipush 120, 2) := by decide +kernel
theorem dX0_init_23 : decode cX0_init 23 = .ok (.newarray .int, 2) := by decide +kernel
theorem dX0_init_25 : decode cX0_init 25 = .ok (.putfield 19, 3) := by decide +kernel
theorem dX0_init_28 : decode cX0_init 28 = .ok (.iconst 0, 1) := by decide +kernel
theorem dX0_init_29 : decode cX0_init 29 = .ok (.istore_n 1, 1) := by decide +kernel
theorem dX0_init_30 : decode cX0_init 30 = .ok (.iload_n 1, 1) := by decide +kernel
theorem dX0_init_31 : decode cX0_init 31 = .ok (.bipush 120, 2) := by decide +kernel
theorem dX0_init_33 : decode cX0_init 33 = .ok (.if_icmp .ge 17, 3) := by decide +kernel
theorem dX0_init_36 : decode cX0_init 36 = .ok (.aload_n 0, 1) := by decide +kernel
theorem dX0_init_37 : decode cX0_init 37 = .ok (.getfield 9, 3) := by decide +kernel
theorem dX0_init_40 : decode cX0_init 40 = .ok (.iload_n 1, 1) := by decide +kernel
theorem dX0_init_41 : decode cX0_init 41 = .ok (.bipush 45, 2) := by decide +kernel
theorem dX0_init_43 : decode cX0_init 43 = .ok (.castore, 1) := by decide +kernel
theorem dX0_init_44 : decode cX0_init 44 = .ok (.iinc 1 1, 3) := by decide +kernel
theorem dX0_init_47 : decode cX0_init 47 = .ok (.goto (-17), 3) := by decide +kernel
theorem dX0_init_50 : decode cX0_init 50 = .ok (.return_, 1) := by decide +kernel
theorem dX0_keep_0 : decode cX0_keep 0 = .ok (.aload_n 0, 1) := by decide +kernel
theorem dX0_keep_1 : decode cX0_keep 1 = .ok (.getfield 9, 3) := by decide +kernel
theorem dX0_keep_4 : decode cX0_keep 4 = .ok (.iload_n 1, 1) := by decide +kernel
theorem dX0_keep_5 : decode cX0_keep 5 = .ok (.bipush 97, 2) := by decide +kernel
theorem dX0_keep_7 : decode cX0_keep 7 = .ok (.castore, 1) := by decide +kernel
theorem dX0_keep_8 : decode cX0_keep 8 = .ok (.aload_n 0, 1) := by decide +kernel
theorem dX0_keep_9 : decode cX0_keep 9 = .ok (.getfield 15, 3) := by decide +kernel
theorem dX0_keep_12 : decode cX0_keep 12 = .ok (.iload_n 1, 1) := by decide +kernel
theorem dX0_keep_13 : decode cX0_keep 13 = .ok (.iload_n 2, 1) := by decide +kernel
theorem dX0_keep_14 : decode cX0_keep 14 = .ok (.iastore, 1) := by decide +kernel
theorem dX0_keep_15 : decode cX0_keep 15 = .ok (.aload_n 0, 1) := by decide +kernel
theorem dX0_keep_16 : decode cX0_keep 16 = .ok (.getfield 19, 3) := by decide +kernel
theorem dX0_keep_19 : decode cX0_keep 19 = .ok (.iload_n 1, 1) := by decide +kernel
theorem dX0_keep_20 : decode cX0_keep 20 = .ok (.iload_n 3, 1) := by decide +kernel
theorem dX0_keep_21 : decode cX0_keep 21 = .ok (.iastore, 1) := by decide +kernel
theorem dX0_keep_22 : decode cX0_keep 22 = .ok (.return_, 1) := by decide +kernel
set_option maxRecDepth 20000 in
theorem ggX0_reopenIfDrifted_X0_isDrifted : GoodIn wsX0_reopenIfDrifted wsX0_isDrifted := goodIn_ca (goodIn_r _ [6, 7, 8, 9, 10, 11, 12, 13, 14, 15, 16] (by decide +kernel) (by decide +kernel)) (goodIn_sub (fun _ h => List.mem_cons_of_mem _ (List.mem_append_right _ h)) (by decide +kernel))
set_option maxRecDepth 20000 in
theorem gX0_reopenIfDrifted_X0_isDrifted : GoodIn wsX0_reopenIfDrifted (wsV RX0 22 RX0 yX0_isDrifted wsX0_isDrifted) := goodIn_app (goodIn_of _ (by decide +kernel)) ggX0_reopenIfDrifted_X0_isDrifted
theorem dX0_reopenIfDrifted_0 : decode cX0_reopenIfDrifted 0 = .ok (.aload_n 0, 1) := by decide +kernel
theorem dX0_reopenIfDrifted_1 : decode cX0_reopenIfDrifted 1 = .ok (.getfield 9, 3) := by decide +kernel
theorem dX0_reopenIfDrifted_4 : decode cX0_reopenIfDrifted 4 = .ok (.iload_n 1, 1) := by decide +kernel
theorem dX0_reopenIfDrifted_5 : decode cX0_reopenIfDrifted 5 = .ok (.caload, 1) := by decide +kernel
theorem dX0_reopenIfDrifted_6 : decode cX0_reopenIfDrifted 6 = .ok (.bipush 97, 2) := by decide +kernel
theorem dX0_reopenIfDrifted_8 : decode cX0_reopenIfDrifted 8 = .ok (.if_icmp .ne 12, 3) := by decide +kernel
theorem dX0_reopenIfDrifted_11 : decode cX0_reopenIfDrifted 11 = .ok (.aload_n 0, 1) := by decide +kernel
theorem dX0_reopenIfDrifted_12 : decode cX0_reopenIfDrifted 12 = .ok (.iload_n 1, 1) := by decide +kernel
theorem dX0_reopenIfDrifted_13 : decode cX0_reopenIfDrifted 13 = .ok (.iload_n 2, 1) := by decide +kernel
theorem dX0_reopenIfDrifted_14 : decode cX0_reopenIfDrifted 14 = .ok (.invokevirtual 22, 3) := by decide +kernel
theorem dX0_reopenIfDrifted_17 : decode cX0_reopenIfDrifted 17 = .ok (.ifCond .ne 5, 3) := by decide +kernel
theorem dX0_reopenIfDrifted_20 : decode cX0_reopenIfDrifted 20 = .ok (.iconst 0, 1) := by decide +kernel
theorem dX0_reopenIfDrifted_21 : decode cX0_reopenIfDrifted 21 = .ok (.ireturn, 1) := by decide +kernel
theorem dX0_reopenIfDrifted_22 : decode cX0_reopenIfDrifted 22 = .ok (.aload_n 0, 1) := by decide +kernel
theorem dX0_reopenIfDrifted_23 : decode cX0_reopenIfDrifted 23 = .ok (.getfield 9, 3) := by decide +kernel
theorem dX0_reopenIfDrifted_26 : decode cX0_reopenIfDrifted 26 = .ok (.iload_n 1, 1) := by decide +kernel
theorem dX0_reopenIfDrifted_27 : decode cX0_reopenIfDrifted 27 = .ok (.bipush 111, 2) := by decide +kernel
theorem dX0_reopenIfDrifted_29 : decode cX0_reopenIfDrifted 29 = .ok (.castore, 1) := by decide +kernel
theorem dX0_reopenIfDrifted_30 : decode cX0_reopenIfDrifted 30 = .ok (.iconst 1, 1) := by decide +kernel
theorem dX0_reopenIfDrifted_31 : decode cX0_reopenIfDrifted 31 = .ok (.ireturn, 1) := by decide +kernel
theorem dX0_isDrifted_0 : decode cX0_isDrifted 0 = .ok (.iload_n 2, 1) := by decide +kernel
theorem dX0_isDrifted_1 : decode cX0_isDrifted 1 = .ok (.ldc 26, 2) := by decide +kernel
theorem dX0_isDrifted_3 : decode cX0_isDrifted 3 = .ok (.if_icmp .eq 23, 3) := by decide +kernel
theorem dX0_isDrifted_6 : decode cX0_isDrifted 6 = .ok (.iload_n 2, 1) := by decide +kernel
theorem dX0_isDrifted_7 : decode cX0_isDrifted 7 = .ok (.aload_n 0, 1) := by decide +kernel
theorem dX0_isDrifted_8 : decode cX0_isDrifted 8 = .ok (.getfield 15, 3) := by decide +kernel
theorem dX0_isDrifted_11 : decode cX0_isDrifted 11 = .ok (.iload_n 1, 1) := by decide +kernel
theorem dX0_isDrifted_12 : decode cX0_isDrifted 12 = .ok (.iaload, 1) := by decide +kernel
theorem dX0_isDrifted_13 : decode cX0_isDrifted 13 = .ok (.isub, 1) := by decide +kernel
theorem dX0_isDrifted_14 : decode cX0_isDrifted 14 = .ok (.invokestatic 27, 3) := by decide +kernel
theorem dX0_isDrifted_17 : decode cX0_isDrifted 17 = .ok (.aload_n 0, 1) := by decide +kernel
theorem dX0_isDrifted_18 : decode cX0_isDrifted 18 = .ok (.getfield 19, 3) := by decide +kernel
theorem dX0_isDrifted_21 : decode cX0_isDrifted 21 = .ok (.iload_n 1, 1) := by decide +kernel
theorem dX0_isDrifted_22 : decode cX0_isDrifted 22 = .ok (.iaload, 1) := by decide +kernel
theorem dX0_isDrifted_23 : decode cX0_isDrifted 23 = .ok (.if_icmp .le 7, 3) := by decide +kernel
theorem dX0_isDrifted_26 : decode cX0_isDrifted 26 = .ok (.iconst 1, 1) := by decide +kernel
theorem dX0_isDrifted_27 : decode cX0_isDrifted 27 = .ok (.goto 4, 3) := by decide +kernel
theorem dX0_isDrifted_30 : decode cX0_isDrifted 30 = .ok (.iconst 0, 1) := by decide +kernel
theorem dX0_isDrifted_31 : decode cX0_isDrifted 31 = .ok (.ireturn, 1) := by decide +kernel
theorem dX0_countIn_0 : decode cX0_countIn 0 = .ok (.iconst 0, 1) := by decide +kernel
theorem dX0_countIn_1 : decode cX0_countIn 1 = .ok (.istore_n 2, 1) := by decide +kernel
theorem dX0_countIn_2 : decode cX0_countIn 2 = .ok (.iconst 0, 1) := by decide +kernel
theorem dX0_countIn_3 : decode cX0_countIn 3 = .ok (.istore_n 3, 1) := by decide +kernel
theorem dX0_countIn_4 : decode cX0_countIn 4 = .ok (.iload_n 3, 1) := by decide +kernel
theorem dX0_countIn_5 : decode cX0_countIn 5 = .ok (.bipush 120, 2) := by decide +kernel
theorem dX0_countIn_7 : decode cX0_countIn 7 = .ok (.if_icmp .ge 22, 3) := by decide +kernel
theorem dX0_countIn_10 : decode cX0_countIn 10 = .ok (.aload_n 0, 1) := by decide +kernel
theorem dX0_countIn_11 : decode cX0_countIn 11 = .ok (.getfield 9, 3) := by decide +kernel
theorem dX0_countIn_14 : decode cX0_countIn 14 = .ok (.iload_n 3, 1) := by decide +kernel
theorem dX0_countIn_15 : decode cX0_countIn 15 = .ok (.caload, 1) := by decide +kernel
theorem dX0_countIn_16 : decode cX0_countIn 16 = .ok (.iload_n 1, 1) := by decide +kernel
theorem dX0_countIn_17 : decode cX0_countIn 17 = .ok (.if_icmp .ne 6, 3) := by decide +kernel
theorem dX0_countIn_20 : decode cX0_countIn 20 = .ok (.iinc 2 1, 3) := by decide +kernel
theorem dX0_countIn_23 : decode cX0_countIn 23 = .ok (.iinc 3 1, 3) := by decide +kernel
theorem dX0_countIn_26 : decode cX0_countIn 26 = .ok (.goto (-22), 3) := by decide +kernel
theorem dX0_countIn_29 : decode cX0_countIn 29 = .ok (.iload_n 2, 1) := by decide +kernel
theorem dX0_countIn_30 : decode cX0_countIn 30 = .ok (.ireturn, 1) := by decide +kernel
theorem dX0_sumOfTolerances_0 : decode cX0_sumOfTolerances 0 = .ok (.iconst 0, 1) := by decide +kernel
theorem dX0_sumOfTolerances_1 : decode cX0_sumOfTolerances 1 = .ok (.istore_n 1, 1) := by decide +kernel
theorem dX0_sumOfTolerances_2 : decode cX0_sumOfTolerances 2 = .ok (.iconst 0, 1) := by decide +kernel
theorem dX0_sumOfTolerances_3 : decode cX0_sumOfTolerances 3 = .ok (.istore_n 2, 1) := by decide +kernel
theorem dX0_sumOfTolerances_4 : decode cX0_sumOfTolerances 4 = .ok (.iload_n 2, 1) := by decide +kernel
theorem dX0_sumOfTolerances_5 : decode cX0_sumOfTolerances 5 = .ok (.bipush 120, 2) := by decide +kernel
theorem dX0_sumOfTolerances_7 : decode cX0_sumOfTolerances 7 = .ok (.if_icmp .ge 18, 3) := by decide +kernel
theorem dX0_sumOfTolerances_10 : decode cX0_sumOfTolerances 10 = .ok (.iload_n 1, 1) := by decide +kernel
theorem dX0_sumOfTolerances_11 : decode cX0_sumOfTolerances 11 = .ok (.aload_n 0, 1) := by decide +kernel
theorem dX0_sumOfTolerances_12 : decode cX0_sumOfTolerances 12 = .ok (.getfield 19, 3) := by decide +kernel
theorem dX0_sumOfTolerances_15 : decode cX0_sumOfTolerances 15 = .ok (.iload_n 2, 1) := by decide +kernel
theorem dX0_sumOfTolerances_16 : decode cX0_sumOfTolerances 16 = .ok (.iaload, 1) := by decide +kernel
theorem dX0_sumOfTolerances_17 : decode cX0_sumOfTolerances 17 = .ok (.iadd, 1) := by decide +kernel
theorem dX0_sumOfTolerances_18 : decode cX0_sumOfTolerances 18 = .ok (.istore_n 1, 1) := by decide +kernel
theorem dX0_sumOfTolerances_19 : decode cX0_sumOfTolerances 19 = .ok (.iinc 2 1, 3) := by decide +kernel
theorem dX0_sumOfTolerances_22 : decode cX0_sumOfTolerances 22 = .ok (.goto (-18), 3) := by decide +kernel
theorem dX0_sumOfTolerances_25 : decode cX0_sumOfTolerances 25 = .ok (.iload_n 1, 1) := by decide +kernel
theorem dX0_sumOfTolerances_26 : decode cX0_sumOfTolerances 26 = .ok (.ireturn, 1) := by decide +kernel
theorem dX1_init_0 : decode cX1_init 0 = .ok (.aload_n 0, 1) := by decide +kernel
theorem dX1_init_1 : decode cX1_init 1 = .ok (.invokespecial 3, 3) := by decide +kernel
theorem dX1_init_4 : decode cX1_init 4 = .ok (.aload_n 0, 1) := by decide +kernel
theorem dX1_init_5 : decode cX1_init 5 = .ok (.bipush 10, 2) := by decide +kernel
theorem dX1_init_7 : decode cX1_init 7 = .ok (.newarray .char, 2) := by decide +kernel
theorem dX1_init_9 : decode cX1_init 9 = .ok (.putfield 9, 3) := by decide +kernel
theorem dX1_init_12 : decode cX1_init 12 = .ok (.aload_n 0, 1) := by decide +kernel
theorem dX1_init_13 : decode cX1_init 13 = .ok (.bipush 10, 2) := by decide +kernel
theorem dX1_init_15 : decode cX1_init 15 = .ok (.newarray .int, 2) := by decide +kernel
theorem dX1_init_17 : decode cX1_init 17 = .ok (.putfield 15, 3) := by decide +kernel
theorem dX1_init_20 : decode cX1_init 20 = .ok (.aload_n 0, 1) := by decide +kernel
theorem dX1_init_21 : decode cX1_init 21 = .ok (.bipush 10, 2) := by decide +kernel
theorem dX1_init_23 : decode cX1_init 23 = .ok (.newarray .int, 2) := by decide +kernel
theorem dX1_init_25 : decode cX1_init 25 = .ok (.putfield 19, 3) := by decide +kernel
theorem dX1_init_28 : decode cX1_init 28 = .ok (.aload_n 0, 1) := by decide +kernel
theorem dX1_init_29 : decode cX1_init 29 = .ok (.bipush 120, 2) := by decide +kernel
theorem dX1_init_31 : decode cX1_init 31 = .ok (.newarray .int, 2) := by decide +kernel
theorem dX1_init_33 : decode cX1_init 33 = .ok (.putfield 22, 3) := by decide +kernel
theorem dX1_init_36 : decode cX1_init 36 = .ok (.aload_n 0, 1) := by decide +kernel
theorem dX1_init_37 : decode cX1_init 37 = .ok (.bipush 10, 2) := by decide +kernel
theorem dX1_init_39 : decode cX1_init 39 = .ok (.newarray .boolean, 2) := by decide +kernel
theorem dX1_init_41 : decode cX1_init 41 = .ok (.putfield 25, 3) := by decide +kernel
theorem dX1_init_44 : decode cX1_init 44 = .ok (.aload_n 0, 1) := by decide +kernel
theorem dX1_init_45 : decode cX1_init 45 = .ok (.bipush 10, 2) := by decide +kernel
theorem dX1_init_47 : decode cX1_init 47 = .ok (.newarray .int, 2) := by decide +kernel
theorem dX1_init_49 : decode cX1_init 49 = .ok (.putfield 29, 3) := by decide +kernel
theorem dX1_init_52 : decode cX1_init 52 = .ok (.iconst 0, 1) := by decide +kernel
theorem dX1_init_53 : decode cX1_init 53 = .ok (.istore_n 1, 1) := by decide +kernel
theorem dX1_init_54 : decode cX1_init 54 = .ok (.iload_n 1, 1) := by decide +kernel
theorem dX1_init_55 : decode cX1_init 55 = .ok (.bipush 120, 2) := by decide +kernel
theorem dX1_init_57 : decode cX1_init 57 = .ok (.if_icmp .ge 17, 3) := by decide +kernel
theorem dX1_init_60 : decode cX1_init 60 = .ok (.aload_n 0, 1) := by decide +kernel
theorem dX1_init_61 : decode cX1_init 61 = .ok (.getfield 22, 3) := by decide +kernel
theorem dX1_init_64 : decode cX1_init 64 = .ok (.iload_n 1, 1) := by decide +kernel
theorem dX1_init_65 : decode cX1_init 65 = .ok (.ldc 32, 2) := by decide +kernel
theorem dX1_init_67 : decode cX1_init 67 = .ok (.iastore, 1) := by decide +kernel
theorem dX1_init_68 : decode cX1_init 68 = .ok (.iinc 1 1, 3) := by decide +kernel
theorem dX1_init_71 : decode cX1_init 71 = .ok (.goto (-17), 3) := by decide +kernel
theorem dX1_init_74 : decode cX1_init 74 = .ok (.return_, 1) := by decide +kernel
theorem dX1_add_0 : decode cX1_add 0 = .ok (.aload_n 0, 1) := by decide +kernel
theorem dX1_add_1 : decode cX1_add 1 = .ok (.getfield 9, 3) := by decide +kernel
theorem dX1_add_4 : decode cX1_add 4 = .ok (.aload_n 0, 1) := by decide +kernel
theorem dX1_add_5 : decode cX1_add 5 = .ok (.getfield 33, 3) := by decide +kernel
theorem dX1_add_8 : decode cX1_add 8 = .ok (.iload_n 1, 1) := by decide +kernel
theorem dX1_add_9 : decode cX1_add 9 = .ok (.castore, 1) := by decide +kernel
theorem dX1_add_10 : decode cX1_add 10 = .ok (.aload_n 0, 1) := by decide +kernel
theorem dX1_add_11 : decode cX1_add 11 = .ok (.getfield 15, 3) := by decide +kernel
theorem dX1_add_14 : decode cX1_add 14 = .ok (.aload_n 0, 1) := by decide +kernel
theorem dX1_add_15 : decode cX1_add 15 = .ok (.getfield 33, 3) := by decide +kernel
theorem dX1_add_18 : decode cX1_add 18 = .ok (.iload_n 2, 1) := by decide +kernel
theorem dX1_add_19 : decode cX1_add 19 = .ok (.iastore, 1) := by decide +kernel
theorem dX1_add_20 : decode cX1_add 20 = .ok (.aload_n 0, 1) := by decide +kernel
theorem dX1_add_21 : decode cX1_add 21 = .ok (.getfield 19, 3) := by decide +kernel
theorem dX1_add_24 : decode cX1_add 24 = .ok (.aload_n 0, 1) := by decide +kernel
theorem dX1_add_25 : decode cX1_add 25 = .ok (.getfield 33, 3) := by decide +kernel
theorem dX1_add_28 : decode cX1_add 28 = .ok (.iload_n 3, 1) := by decide +kernel
theorem dX1_add_29 : decode cX1_add 29 = .ok (.iastore, 1) := by decide +kernel
theorem dX1_add_30 : decode cX1_add 30 = .ok (.aload_n 0, 1) := by decide +kernel
theorem dX1_add_31 : decode cX1_add 31 = .ok (.dup, 1) := by decide +kernel
theorem dX1_add_32 : decode cX1_add 32 = .ok (.getfield 33, 3) := by decide +kernel
theorem dX1_add_35 : decode cX1_add 35 = .ok (.iconst 1, 1) := by decide +kernel
theorem dX1_add_36 : decode cX1_add 36 = .ok (.iadd, 1) := by decide +kernel
theorem dX1_add_37 : decode cX1_add 37 = .ok (.putfield 33, 3) := by decide +kernel
theorem dX1_add_40 : decode cX1_add 40 = .ok (.aload_n 0, 1) := by decide +kernel
theorem dX1_add_41 : decode cX1_add 41 = .ok (.getfield 33, 3) := by decide +kernel
theorem dX1_add_44 : decode cX1_add 44 = .ok (.iconst 1, 1) := by decide +kernel
theorem dX1_add_45 : decode cX1_add 45 = .ok (.isub, 1) := by decide +kernel
theorem dX1_add_46 : decode cX1_add 46 = .ok (.ireturn, 1) := by decide +kernel
set_option maxRecDepth 20000 in
theorem ggX1_markNeeded_X3_cell : GoodIn wsX1_markNeeded wsX3_cell := goodIn_r _ [9] (by decide +kernel) (by decide +kernel)
set_option maxRecDepth 20000 in
theorem gX1_markNeeded_X3_cell_n37 : GoodIn wsX1_markNeeded (wsX3_cell) := ggX1_markNeeded_X3_cell
theorem dX1_markNeeded_0 : decode cX1_markNeeded 0 = .ok (.iconst 0, 1) := by decide +kernel
theorem dX1_markNeeded_1 : decode cX1_markNeeded 1 = .ok (.istore_n 3, 1) := by decide +kernel
theorem dX1_markNeeded_2 : decode cX1_markNeeded 2 = .ok (.iload_n 3, 1) := by decide +kernel
theorem dX1_markNeeded_3 : decode cX1_markNeeded 3 = .ok (.iload_n 1, 1) := by decide +kernel
theorem dX1_markNeeded_4 : decode cX1_markNeeded 4 = .ok (.if_icmp .ge 16, 3) := by decide +kernel
theorem dX1_markNeeded_7 : decode cX1_markNeeded 7 = .ok (.aload_n 0, 1) := by decide +kernel
theorem dX1_markNeeded_8 : decode cX1_markNeeded 8 = .ok (.getfield 25, 3) := by decide +kernel
theorem dX1_markNeeded_11 : decode cX1_markNeeded 11 = .ok (.iload_n 3, 1) := by decide +kernel
theorem dX1_markNeeded_12 : decode cX1_markNeeded 12 = .ok (.iconst 0, 1) := by decide +kernel
theorem dX1_markNeeded_13 : decode cX1_markNeeded 13 = .ok (.bastore, 1) := by decide +kernel
theorem dX1_markNeeded_14 : decode cX1_markNeeded 14 = .ok (.iinc 3 1, 3) := by decide +kernel
theorem dX1_markNeeded_17 : decode cX1_markNeeded 17 = .ok (.goto (-15), 3) := by decide +kernel
theorem dX1_markNeeded_20 : decode cX1_markNeeded 20 = .ok (.aload_n 0, 1) := by decide +kernel
theorem dX1_markNeeded_21 : decode cX1_markNeeded 21 = .ok (.getfield 25, 3) := by decide +kernel
theorem dX1_markNeeded_24 : decode cX1_markNeeded 24 = .ok (.iload_n 1, 1) := by decide +kernel
theorem dX1_markNeeded_25 : decode cX1_markNeeded 25 = .ok (.iconst 1, 1) := by decide +kernel
theorem dX1_markNeeded_26 : decode cX1_markNeeded 26 = .ok (.bastore, 1) := by decide +kernel
theorem dX1_markNeeded_27 : decode cX1_markNeeded 27 = .ok (.iload_n 1, 1) := by decide +kernel
theorem dX1_markNeeded_28 : decode cX1_markNeeded 28 = .ok (.istore_n 3, 1) := by decide +kernel
theorem dX1_markNeeded_29 : decode cX1_markNeeded 29 = .ok (.iload_n 3, 1) := by decide +kernel
theorem dX1_markNeeded_30 : decode cX1_markNeeded 30 = .ok (.ifCond .le 68, 3) := by decide +kernel
theorem dX1_markNeeded_33 : decode cX1_markNeeded 33 = .ok (.aload_n 0, 1) := by decide +kernel
theorem dX1_markNeeded_34 : decode cX1_markNeeded 34 = .ok (.getfield 25, 3) := by decide +kernel
theorem dX1_markNeeded_37 : decode cX1_markNeeded 37 = .ok (.iload_n 3, 1) := by decide +kernel
theorem dX1_markNeeded_38 : decode cX1_markNeeded 38 = .ok (.baload, 1) := by decide +kernel
theorem dX1_markNeeded_39 : decode cX1_markNeeded 39 = .ok (.ifCond .eq 53, 3) := by decide +kernel
theorem dX1_markNeeded_42 : decode cX1_markNeeded 42 = .ok (.aload_n 0, 1) := by decide +kernel
theorem dX1_markNeeded_43 : decode cX1_markNeeded 43 = .ok (.getfield 9, 3) := by decide +kernel
theorem dX1_markNeeded_46 : decode cX1_markNeeded 46 = .ok (.iload_n 3, 1) := by decide +kernel
theorem dX1_markNeeded_47 : decode cX1_markNeeded 47 = .ok (.caload, 1) := by decide +kernel
theorem dX1_markNeeded_48 : decode cX1_markNeeded 48 = .ok (.bipush 100, 2) := by decide +kernel
theorem dX1_markNeeded_50 : decode cX1_markNeeded 50 = .ok (.if_icmp .eq 42, 3) := by decide +kernel
theorem dX1_markNeeded_53 : decode cX1_markNeeded 53 = .ok (.aload_n 0, 1) := by decide +kernel
theorem dX1_markNeeded_54 : decode cX1_markNeeded 54 = .ok (.getfield 22, 3) := by decide +kernel
theorem dX1_markNeeded_57 : decode cX1_markNeeded 57 = .ok (.iload_n 3, 1) := by decide +kernel
theorem dX1_markNeeded_58 : decode cX1_markNeeded 58 = .ok (.iload_n 2, 1) := by decide +kernel
theorem dX1_markNeeded_59 : decode cX1_markNeeded 59 = .ok (.invokestatic 37, 3) := by decide +kernel
theorem dX1_markNeeded_62 : decode cX1_markNeeded 62 = .ok (.iaload, 1) := by decide +kernel
theorem dX1_markNeeded_63 : decode cX1_markNeeded 63 = .ok (.ldc 32, 2) := by decide +kernel
theorem dX1_markNeeded_65 : decode cX1_markNeeded 65 = .ok (.if_icmp .ne 27, 3) := by decide +kernel
theorem dX1_markNeeded_68 : decode cX1_markNeeded 68 = .ok (.aload_n 0, 1) := by decide +kernel
theorem dX1_markNeeded_69 : decode cX1_markNeeded 69 = .ok (.getfield 25, 3) := by decide +kernel
theorem dX1_markNeeded_72 : decode cX1_markNeeded 72 = .ok (.aload_n 0, 1) := by decide +kernel
theorem dX1_markNeeded_73 : decode cX1_markNeeded 73 = .ok (.getfield 15, 3) := by decide +kernel
theorem dX1_markNeeded_76 : decode cX1_markNeeded 76 = .ok (.iload_n 3, 1) := by decide +kernel
theorem dX1_markNeeded_77 : decode cX1_markNeeded 77 = .ok (.iaload, 1) := by decide +kernel
theorem dX1_markNeeded_78 : decode cX1_markNeeded 78 = .ok (.iconst 1, 1) := by decide +kernel
theorem dX1_markNeeded_79 : decode cX1_markNeeded 79 = .ok (.bastore, 1) := by decide +kernel
theorem dX1_markNeeded_80 : decode cX1_markNeeded 80 = .ok (.aload_n 0, 1) := by decide +kernel
theorem dX1_markNeeded_81 : decode cX1_markNeeded 81 = .ok (.getfield 25, 3) := by decide +kernel
theorem dX1_markNeeded_84 : decode cX1_markNeeded 84 = .ok (.aload_n 0, 1) := by decide +kernel
theorem dX1_markNeeded_85 : decode cX1_markNeeded 85 = .ok (.getfield 19, 3) := by decide +kernel
theorem dX1_markNeeded_88 : decode cX1_markNeeded 88 = .ok (.iload_n 3, 1) := by decide +kernel
theorem dX1_markNeeded_89 : decode cX1_markNeeded 89 = .ok (.iaload, 1) := by decide +kernel
theorem dX1_markNeeded_90 : decode cX1_markNeeded 90 = .ok (.iconst 1, 1) := by decide +kernel
theorem dX1_markNeeded_91 : decode cX1_markNeeded 91 = .ok (.bastore, 1) := by decide +kernel
theorem dX1_markNeeded_92 : decode cX1_markNeeded 92 = .ok (.iinc 3 (-1), 3) := by decide +kernel
theorem dX1_markNeeded_95 : decode cX1_markNeeded 95 = .ok (.goto (-66), 3) := by decide +kernel
theorem dX1_markNeeded_98 : decode cX1_markNeeded 98 = .ok (.return_, 1) := by decide +kernel
set_option maxRecDepth 20000 in
theorem ggX1_findNeeded_X1_found : GoodIn wsX1_findNeeded wsX1_found := goodIn_ca (goodIn_r _ [7, 8, 9, 10, 11, 2, 12, 13, 14, 15, 16, 17, 6, 18, 19, 20, 21, 22, 23, 24, 25, 26, 27, 28] (by decide +kernel) (by decide +kernel)) (goodIn_sub (fun _ h => List.mem_cons_of_mem _ (List.mem_append_right _ h)) (by decide +kernel))
set_option maxRecDepth 20000 in
theorem gX1_findNeeded_X1_found : GoodIn wsX1_findNeeded (wsV RX1 41 RX1 yX1_found wsX1_found) := goodIn_app (goodIn_of _ (by decide +kernel)) ggX1_findNeeded_X1_found
theorem dX1_findNeeded_0 : decode cX1_findNeeded 0 = .ok (.iconst 0, 1) := by decide +kernel
theorem dX1_findNeeded_1 : decode cX1_findNeeded 1 = .ok (.istore 4, 2) := by decide +kernel
theorem dX1_findNeeded_3 : decode cX1_findNeeded 3 = .ok (.iload 4, 2) := by decide +kernel
theorem dX1_findNeeded_5 : decode cX1_findNeeded 5 = .ok (.iload_n 1, 1) := by decide +kernel
theorem dX1_findNeeded_6 : decode cX1_findNeeded 6 = .ok (.if_icmp .gt 34, 3) := by decide +kernel
theorem dX1_findNeeded_9 : decode cX1_findNeeded 9 = .ok (.aload_n 0, 1) := by decide +kernel
theorem dX1_findNeeded_10 : decode cX1_findNeeded 10 = .ok (.getfield 25, 3) := by decide +kernel
theorem dX1_findNeeded_13 : decode cX1_findNeeded 13 = .ok (.iload 4, 2) := by decide +kernel
theorem dX1_findNeeded_15 : decode cX1_findNeeded 15 = .ok (.baload, 1) := by decide +kernel
theorem dX1_findNeeded_16 : decode cX1_findNeeded 16 = .ok (.ifCond .eq 18, 3) := by decide +kernel
theorem dX1_findNeeded_19 : decode cX1_findNeeded 19 = .ok (.aload_n 0, 1) := by decide +kernel
theorem dX1_findNeeded_20 : decode cX1_findNeeded 20 = .ok (.getfield 29, 3) := by decide +kernel
theorem dX1_findNeeded_23 : decode cX1_findNeeded 23 = .ok (.iload 4, 2) := by decide +kernel
theorem dX1_findNeeded_25 : decode cX1_findNeeded 25 = .ok (.aload_n 0, 1) := by decide +kernel
theorem dX1_findNeeded_26 : decode cX1_findNeeded 26 = .ok (.iload 4, 2) := by decide +kernel
theorem dX1_findNeeded_28 : decode cX1_findNeeded 28 = .ok (.iload_n 2, 1) := by decide +kernel
theorem dX1_findNeeded_29 : decode cX1_findNeeded 29 = .ok (.aload_n 3, 1) := by decide +kernel
theorem dX1_findNeeded_30 : decode cX1_findNeeded 30 = .ok (.invokevirtual 41, 3) := by decide +kernel
theorem dX1_findNeeded_33 : decode cX1_findNeeded 33 = .ok (.iastore, 1) := by decide +kernel
theorem dX1_findNeeded_34 : decode cX1_findNeeded 34 = .ok (.iinc 4 1, 3) := by decide +kernel
theorem dX1_findNeeded_37 : decode cX1_findNeeded 37 = .ok (.goto (-34), 3) := by decide +kernel
theorem dX1_findNeeded_40 : decode cX1_findNeeded 40 = .ok (.aload_n 0, 1) := by decide +kernel
theorem dX1_findNeeded_41 : decode cX1_findNeeded 41 = .ok (.getfield 29, 3) := by decide +kernel
theorem dX1_findNeeded_44 : decode cX1_findNeeded 44 = .ok (.iload_n 1, 1) := by decide +kernel
theorem dX1_findNeeded_45 : decode cX1_findNeeded 45 = .ok (.iaload, 1) := by decide +kernel
theorem dX1_findNeeded_46 : decode cX1_findNeeded 46 = .ok (.ireturn, 1) := by decide +kernel
set_option maxRecDepth 20000 in
theorem ggX1_findAll_X1_found : GoodIn wsX1_findAll wsX1_found := goodIn_ca (goodIn_r _ [7, 8, 9, 10, 11, 2, 12, 13, 14, 15, 16, 17, 6, 18, 19, 20, 21, 22, 23, 24, 25, 26, 27, 28] (by decide +kernel) (by decide +kernel)) (goodIn_sub (fun _ h => List.mem_cons_of_mem _ (List.mem_append_right _ h)) (by decide +kernel))
set_option maxRecDepth 20000 in
theorem gX1_findAll_X1_found : GoodIn wsX1_findAll (wsV RX1 41 RX1 yX1_found wsX1_found) := goodIn_app (goodIn_of _ (by decide +kernel)) ggX1_findAll_X1_found
theorem dX1_findAll_0 : decode cX1_findAll 0 = .ok (.iconst 0, 1) := by decide +kernel
theorem dX1_findAll_1 : decode cX1_findAll 1 = .ok (.istore_n 3, 1) := by decide +kernel
theorem dX1_findAll_2 : decode cX1_findAll 2 = .ok (.iload_n 3, 1) := by decide +kernel
theorem dX1_findAll_3 : decode cX1_findAll 3 = .ok (.aload_n 0, 1) := by decide +kernel
theorem dX1_findAll_4 : decode cX1_findAll 4 = .ok (.getfield 33, 3) := by decide +kernel
theorem dX1_findAll_7 : decode cX1_findAll 7 = .ok (.if_icmp .ge 22, 3) := by decide +kernel
theorem dX1_findAll_10 : decode cX1_findAll 10 = .ok (.aload_n 0, 1) := by decide +kernel
theorem dX1_findAll_11 : decode cX1_findAll 11 = .ok (.getfield 29, 3) := by decide +kernel
theorem dX1_findAll_14 : decode cX1_findAll 14 = .ok (.iload_n 3, 1) := by decide +kernel
theorem dX1_findAll_15 : decode cX1_findAll 15 = .ok (.aload_n 0, 1) := by decide +kernel
theorem dX1_findAll_16 : decode cX1_findAll 16 = .ok (.iload_n 3, 1) := by decide +kernel
theorem dX1_findAll_17 : decode cX1_findAll 17 = .ok (.iload_n 1, 1) := by decide +kernel
theorem dX1_findAll_18 : decode cX1_findAll 18 = .ok (.aload_n 2, 1) := by decide +kernel
theorem dX1_findAll_19 : decode cX1_findAll 19 = .ok (.invokevirtual 41, 3) := by decide +kernel
theorem dX1_findAll_22 : decode cX1_findAll 22 = .ok (.iastore, 1) := by decide +kernel
theorem dX1_findAll_23 : decode cX1_findAll 23 = .ok (.iinc 3 1, 3) := by decide +kernel
theorem dX1_findAll_26 : decode cX1_findAll 26 = .ok (.goto (-24), 3) := by decide +kernel
theorem dX1_findAll_29 : decode cX1_findAll 29 = .ok (.return_, 1) := by decide +kernel
set_option maxRecDepth 20000 in
theorem ggX1_found_X3_cell : GoodIn wsX1_found wsX3_cell := goodIn_r _ [9] (by decide +kernel) (by decide +kernel)
set_option maxRecDepth 20000 in
theorem gX1_found_X3_cell_n37 : GoodIn wsX1_found (wsX3_cell) := ggX1_found_X3_cell
set_option maxRecDepth 20000 in
theorem ggX1_found_X1_combined : GoodIn wsX1_found wsX1_combined := goodIn_r _ [13, 2, 14, 15, 16] (by decide +kernel) (by decide +kernel)
set_option maxRecDepth 20000 in
theorem gX1_found_X1_combined : GoodIn wsX1_found (va_wsS RX1 45 yX1_combined wsX1_combined) := goodIn_app (goodIn_of _ (by decide +kernel)) ggX1_found_X1_combined
theorem dX1_found_0 : decode cX1_found 0 = .ok (.aload_n 0, 1) := by decide +kernel
theorem dX1_found_1 : decode cX1_found 1 = .ok (.getfield 22, 3) := by decide +kernel
theorem dX1_found_4 : decode cX1_found 4 = .ok (.iload_n 1, 1) := by decide +kernel
theorem dX1_found_5 : decode cX1_found 5 = .ok (.iload_n 2, 1) := by decide +kernel
theorem dX1_found_6 : decode cX1_found 6 = .ok (.invokestatic 37, 3) := by decide +kernel
theorem dX1_found_9 : decode cX1_found 9 = .ok (.iaload, 1) := by decide +kernel
theorem dX1_found_10 : decode cX1_found 10 = .ok (.istore 4, 2) := by decide +kernel
theorem dX1_found_12 : decode cX1_found 12 = .ok (.iload 4, 2) := by decide +kernel
theorem dX1_found_14 : decode cX1_found 14 = .ok (.ldc 32, 2) := by decide +kernel
theorem dX1_found_16 : decode cX1_found 16 = .ok (.if_icmp .eq 6, 3) := by decide +kernel
theorem dX1_found_19 : decode cX1_found 19 = .ok (.iload 4, 2) := by decide +kernel
theorem dX1_found_21 : decode cX1_found 21 = .ok (.ireturn, 1) := by decide +kernel
theorem dX1_found_22 : decode cX1_found 22 = .ok (.aload_n 0, 1) := by decide +kernel
theorem dX1_found_23 : decode cX1_found 23 = .ok (.getfield 9, 3) := by decide +kernel
theorem dX1_found_26 : decode cX1_found 26 = .ok (.iload_n 1, 1) := by decide +kernel
theorem dX1_found_27 : decode cX1_found 27 = .ok (.caload, 1) := by decide +kernel
theorem dX1_found_28 : decode cX1_found 28 = .ok (.bipush 100, 2) := by decide +kernel
theorem dX1_found_30 : decode cX1_found 30 = .ok (.if_icmp .ne 12, 3) := by decide +kernel
theorem dX1_found_33 : decode cX1_found 33 = .ok (.aload_n 3, 1) := by decide +kernel
theorem dX1_found_34 : decode cX1_found 34 = .ok (.aload_n 0, 1) := by decide +kernel
theorem dX1_found_35 : decode cX1_found 35 = .ok (.getfield 15, 3) := by decide +kernel
theorem dX1_found_38 : decode cX1_found 38 = .ok (.iload_n 1, 1) := by decide +kernel
theorem dX1_found_39 : decode cX1_found 39 = .ok (.iaload, 1) := by decide +kernel
theorem dX1_found_40 : decode cX1_found 40 = .ok (.iaload, 1) := by decide +kernel
theorem dX1_found_41 : decode cX1_found 41 = .ok (.ireturn, 1) := by decide +kernel
theorem dX1_found_42 : decode cX1_found 42 = .ok (.aload_n 0, 1) := by decide +kernel
theorem dX1_found_43 : decode cX1_found 43 = .ok (.getfield 9, 3) := by decide +kernel
theorem dX1_found_46 : decode cX1_found 46 = .ok (.iload_n 1, 1) := by decide +kernel
theorem dX1_found_47 : decode cX1_found 47 = .ok (.caload, 1) := by decide +kernel
theorem dX1_found_48 : decode cX1_found 48 = .ok (.aload_n 0, 1) := by decide +kernel
theorem dX1_found_49 : decode cX1_found 49 = .ok (.getfield 29, 3) := by decide +kernel
theorem dX1_found_52 : decode cX1_found 52 = .ok (.aload_n 0, 1) := by decide +kernel
theorem dX1_found_53 : decode cX1_found 53 = .ok (.getfield 15, 3) := by decide +kernel
theorem dX1_found_56 : decode cX1_found 56 = .ok (.iload_n 1, 1) := by decide +kernel
theorem dX1_found_57 : decode cX1_found 57 = .ok (.iaload, 1) := by decide +kernel
theorem dX1_found_58 : decode cX1_found 58 = .ok (.iaload, 1) := by decide +kernel
theorem dX1_found_59 : decode cX1_found 59 = .ok (.aload_n 0, 1) := by decide +kernel
theorem dX1_found_60 : decode cX1_found 60 = .ok (.getfield 29, 3) := by decide +kernel
theorem dX1_found_63 : decode cX1_found 63 = .ok (.aload_n 0, 1) := by decide +kernel
theorem dX1_found_64 : decode cX1_found 64 = .ok (.getfield 19, 3) := by decide +kernel
theorem dX1_found_67 : decode cX1_found 67 = .ok (.iload_n 1, 1) := by decide +kernel
theorem dX1_found_68 : decode cX1_found 68 = .ok (.iaload, 1) := by decide +kernel
theorem dX1_found_69 : decode cX1_found 69 = .ok (.iaload, 1) := by decide +kernel
theorem dX1_found_70 : decode cX1_found 70 = .ok (.invokestatic 45, 3) := by decide +kernel
theorem dX1_found_73 : decode cX1_found 73 = .ok (.ireturn, 1) := by decide +kernel
theorem dX1_combined_0 : decode cX1_combined 0 = .ok (.iload_n 1, 1) := by decide +kernel
theorem dX1_combined_1 : decode cX1_combined 1 = .ok (.ldc 32, 2) := by decide +kernel
theorem dX1_combined_3 : decode cX1_combined 3 = .ok (.if_icmp .eq 9, 3) := by decide +kernel
theorem dX1_combined_6 : decode cX1_combined 6 = .ok (.iload_n 2, 1) := by decide +kernel
theorem dX1_combined_7 : decode cX1_combined 7 = .ok (.ldc 32, 2) := by decide +kernel
theorem dX1_combined_9 : decode cX1_combined 9 = .ok (.if_icmp .ne 6, 3) := by decide +kernel
theorem dX1_combined_12 : decode cX1_combined 12 = .ok (.ldc 32, 2) := by decide +kernel
theorem dX1_combined_14 : decode cX1_combined 14 = .ok (.ireturn, 1) := by decide +kernel
theorem dX1_combined_15 : decode cX1_combined 15 = .ok (.iload_n 0, 1) := by decide +kernel
theorem dX1_combined_16 : decode cX1_combined 16 = .ok (.bipush 115, 2) := by decide +kernel
theorem dX1_combined_18 : decode cX1_combined 18 = .ok (.if_icmp .ne 12, 3) := by decide +kernel
theorem dX1_combined_21 : decode cX1_combined 21 = .ok (.iload_n 1, 1) := by decide +kernel
theorem dX1_combined_22 : decode cX1_combined 22 = .ok (.i2l, 1) := by decide +kernel
theorem dX1_combined_23 : decode cX1_combined 23 = .ok (.iload_n 2, 1) := by decide +kernel
theorem dX1_combined_24 : decode cX1_combined 24 = .ok (.i2l, 1) := by decide +kernel
theorem dX1_combined_25 : decode cX1_combined 25 = .ok (.ladd, 1) := by decide +kernel
theorem dX1_combined_26 : decode cX1_combined 26 = .ok (.lstore_n 3, 1) := by decide +kernel
theorem dX1_combined_27 : decode cX1_combined 27 = .ok (.goto 28, 3) := by decide +kernel
theorem dX1_combined_30 : decode cX1_combined 30 = .ok (.iload_n 0, 1) := by decide +kernel
theorem dX1_combined_31 : decode cX1_combined 31 = .ok (.bipush 109, 2) := by decide +kernel
theorem dX1_combined_33 : decode cX1_combined 33 = .ok (.if_icmp .ne 12, 3) := by decide +kernel
theorem dX1_combined_36 : decode cX1_combined 36 = .ok (.iload_n 1, 1) := by decide +kernel
theorem dX1_combined_37 : decode cX1_combined 37 = .ok (.i2l, 1) := by decide +kernel
theorem dX1_combined_38 : decode cX1_combined 38 = .ok (.iload_n 2, 1) := by decide +kernel
theorem dX1_combined_39 : decode cX1_combined 39 = .ok (.i2l, 1) := by decide +kernel
theorem dX1_combined_40 : decode cX1_combined 40 = .ok (.lsub, 1) := by decide +kernel
theorem dX1_combined_41 : decode cX1_combined 41 = .ok (.lstore_n 3, 1) := by decide +kernel
theorem dX1_combined_42 : decode cX1_combined 42 = .ok (.goto 13, 3) := by decide +kernel
theorem dX1_combined_45 : decode cX1_combined 45 = .ok (.iload_n 1, 1) := by decide +kernel
theorem dX1_combined_46 : decode cX1_combined 46 = .ok (.i2l, 1) := by decide +kernel
theorem dX1_combined_47 : decode cX1_combined 47 = .ok (.iload_n 2, 1) := by decide +kernel
theorem dX1_combined_48 : decode cX1_combined 48 = .ok (.i2l, 1) := by decide +kernel
theorem dX1_combined_49 : decode cX1_combined 49 = .ok (.lmul, 1) := by decide +kernel
theorem dX1_combined_50 : decode cX1_combined 50 = .ok (.ldc2_w 49, 3) := by decide +kernel
theorem dX1_combined_53 : decode cX1_combined 53 = .ok (.ldiv, 1) := by decide +kernel
theorem dX1_combined_54 : decode cX1_combined 54 = .ok (.lstore_n 3, 1) := by decide +kernel
theorem dX1_combined_55 : decode cX1_combined 55 = .ok (.lload_n 3, 1) := by decide +kernel
theorem dX1_combined_56 : decode cX1_combined 56 = .ok (.ldc2_w 51, 3) := by decide +kernel
theorem dX1_combined_59 : decode cX1_combined 59 = .ok (.lcmp, 1) := by decide +kernel
theorem dX1_combined_60 : decode cX1_combined 60 = .ok (.ifCond .lt 11, 3) := by decide +kernel
theorem dX1_combined_63 : decode cX1_combined 63 = .ok (.lload_n 3, 1) := by decide +kernel
theorem dX1_combined_64 : decode cX1_combined 64 = .ok (.ldc2_w 53, 3) := by decide +kernel
theorem dX1_combined_67 : decode cX1_combined 67 = .ok (.lcmp, 1) := by decide +kernel
theorem dX1_combined_68 : decode cX1_combined 68 = .ok (.ifCond .le 8, 3) := by decide +kernel
theorem dX1_combined_71 : decode cX1_combined 71 = .ok (.ldc 32, 2) := by decide +kernel
theorem dX1_combined_73 : decode cX1_combined 73 = .ok (.goto 5, 3) := by decide +kernel
theorem dX1_combined_76 : decode cX1_combined 76 = .ok (.lload_n 3, 1) := by decide +kernel
theorem dX1_combined_77 : decode cX1_combined 77 = .ok (.l2i, 1) := by decide +kernel
theorem dX1_combined_78 : decode cX1_combined 78 = .ok (.ireturn, 1) := by decide +kernel
theorem dX2_init_0 : decode cX2_init 0 = .ok (.aload_n 0, 1) := by decide +kernel
theorem dX2_init_1 : decode cX2_init 1 = .ok (.invokespecial 3, 3) := by decide +kernel
theorem dX2_init_4 : decode cX2_init 4 = .ok (.aload_n 0, 1) := by decide +kernel
theorem dX2_init_5 : decode cX2_init 5 = .ok (.iconst 4, 1) := by decide +kernel
theorem dX2_init_6 : decode cX2_init 6 = .ok (.newarray .int, 2) := by decide +kernel
theorem dX2_init_8 : decode cX2_init 8 = .ok (.putfield 9, 3) := by decide +kernel
theorem dX2_init_11 : decode cX2_init 11 = .ok (.aload_n 0, 1) := by decide +kernel
theorem dX2_init_12 : decode cX2_init 12 = .ok (.iconst 4, 1) := by decide +kernel
theorem dX2_init_13 : decode cX2_init 13 = .ok (.newarray .int, 2) := by decide +kernel
theorem dX2_init_15 : decode cX2_init 15 = .ok (.putfield 15, 3) := by decide +kernel
theorem dX2_init_18 : decode cX2_init 18 = .ok (.aload_n 0, 1) := by decide +kernel
theorem dX2_init_19 : decode cX2_init 19 = .ok (.sipush 288, 3) := by decide +kernel
theorem dX2_init_22 : decode cX2_init 22 = .ok (.newarray .int, 2) := by decide +kernel
theorem dX2_init_24 : decode cX2_init 24 = .ok (.putfield 18, 3) := by decide +kernel
theorem dX2_init_27 : decode cX2_init 27 = .ok (.aload_n 0, 1) := by decide +kernel
theorem dX2_init_28 : decode cX2_init 28 = .ok (.iconst 1, 1) := by decide +kernel
theorem dX2_init_29 : decode cX2_init 29 = .ok (.putfield 21, 3) := by decide +kernel
theorem dX2_init_32 : decode cX2_init 32 = .ok (.return_, 1) := by decide +kernel
theorem dX2_add_0 : decode cX2_add 0 = .ok (.aload_n 0, 1) := by decide +kernel
theorem dX2_add_1 : decode cX2_add 1 = .ok (.getfield 9, 3) := by decide +kernel
theorem dX2_add_4 : decode cX2_add 4 = .ok (.aload_n 0, 1) := by decide +kernel
theorem dX2_add_5 : decode cX2_add 5 = .ok (.getfield 21, 3) := by decide +kernel
theorem dX2_add_8 : decode cX2_add 8 = .ok (.iload_n 1, 1) := by decide +kernel
theorem dX2_add_9 : decode cX2_add 9 = .ok (.iastore, 1) := by decide +kernel
theorem dX2_add_10 : decode cX2_add 10 = .ok (.aload_n 0, 1) := by decide +kernel
theorem dX2_add_11 : decode cX2_add 11 = .ok (.dup, 1) := by decide +kernel
theorem dX2_add_12 : decode cX2_add 12 = .ok (.getfield 21, 3) := by decide +kernel
theorem dX2_add_15 : decode cX2_add 15 = .ok (.iconst 1, 1) := by decide +kernel
theorem dX2_add_16 : decode cX2_add 16 = .ok (.iadd, 1) := by decide +kernel
theorem dX2_add_17 : decode cX2_add 17 = .ok (.putfield 21, 3) := by decide +kernel
theorem dX2_add_20 : decode cX2_add 20 = .ok (.aload_n 0, 1) := by decide +kernel
theorem dX2_add_21 : decode cX2_add 21 = .ok (.getfield 21, 3) := by decide +kernel
theorem dX2_add_24 : decode cX2_add 24 = .ok (.iconst 1, 1) := by decide +kernel
theorem dX2_add_25 : decode cX2_add 25 = .ok (.isub, 1) := by decide +kernel
theorem dX2_add_26 : decode cX2_add 26 = .ok (.ireturn, 1) := by decide +kernel
set_option maxRecDepth 20000 in
theorem ggX2_addDifference_X2_place : GoodIn wsX2_addDifference wsX2_place := goodIn_r _ [7] (by decide +kernel) (by decide +kernel)
set_option maxRecDepth 20000 in
theorem gX2_addDifference_X2_place : GoodIn wsX2_addDifference (va_wsS RX2 25 yX2_place wsX2_place) := goodIn_app (goodIn_of _ (by decide +kernel)) ggX2_addDifference_X2_place
theorem dX2_addDifference_0 : decode cX2_addDifference 0 = .ok (.iload_n 3, 1) := by decide +kernel
theorem dX2_addDifference_1 : decode cX2_addDifference 1 = .ok (.istore 5, 2) := by decide +kernel
theorem dX2_addDifference_3 : decode cX2_addDifference 3 = .ok (.iload 5, 2) := by decide +kernel
theorem dX2_addDifference_5 : decode cX2_addDifference 5 = .ok (.bipush 12, 2) := by decide +kernel
theorem dX2_addDifference_7 : decode cX2_addDifference 7 = .ok (.if_icmp .ge 26, 3) := by decide +kernel
theorem dX2_addDifference_10 : decode cX2_addDifference 10 = .ok (.aload_n 0, 1) := by decide +kernel
theorem dX2_addDifference_11 : decode cX2_addDifference 11 = .ok (.getfield 18, 3) := by decide +kernel
theorem dX2_addDifference_14 : decode cX2_addDifference 14 = .ok (.iload_n 1, 1) := by decide +kernel
theorem dX2_addDifference_15 : decode cX2_addDifference 15 = .ok (.iload_n 2, 1) := by decide +kernel
theorem dX2_addDifference_16 : decode cX2_addDifference 16 = .ok (.iload 5, 2) := by decide +kernel
theorem dX2_addDifference_18 : decode cX2_addDifference 18 = .ok (.invokestatic 25, 3) := by decide +kernel
theorem dX2_addDifference_21 : decode cX2_addDifference 21 = .ok (.dup2, 1) := by decide +kernel
theorem dX2_addDifference_22 : decode cX2_addDifference 22 = .ok (.iaload, 1) := by decide +kernel
theorem dX2_addDifference_23 : decode cX2_addDifference 23 = .ok (.iload 4, 2) := by decide +kernel
theorem dX2_addDifference_25 : decode cX2_addDifference 25 = .ok (.iadd, 1) := by decide +kernel
theorem dX2_addDifference_26 : decode cX2_addDifference 26 = .ok (.iastore, 1) := by decide +kernel
theorem dX2_addDifference_27 : decode cX2_addDifference 27 = .ok (.iinc 5 1, 3) := by decide +kernel
theorem dX2_addDifference_30 : decode cX2_addDifference 30 = .ok (.goto (-27), 3) := by decide +kernel
theorem dX2_addDifference_33 : decode cX2_addDifference 33 = .ok (.aload_n 0, 1) := by decide +kernel
theorem dX2_addDifference_34 : decode cX2_addDifference 34 = .ok (.dup, 1) := by decide +kernel
theorem dX2_addDifference_35 : decode cX2_addDifference 35 = .ok (.getfield 29, 3) := by decide +kernel
theorem dX2_addDifference_38 : decode cX2_addDifference 38 = .ok (.iconst 1, 1) := by decide +kernel
theorem dX2_addDifference_39 : decode cX2_addDifference 39 = .ok (.iadd, 1) := by decide +kernel
theorem dX2_addDifference_40 : decode cX2_addDifference 40 = .ok (.putfield 29, 3) := by decide +kernel
theorem dX2_addDifference_43 : decode cX2_addDifference 43 = .ok (.aload_n 0, 1) := by decide +kernel
theorem dX2_addDifference_44 : decode cX2_addDifference 44 = .ok (.getfield 15, 3) := by decide +kernel
theorem dX2_addDifference_47 : decode cX2_addDifference 47 = .ok (.iload_n 1, 1) := by decide +kernel
theorem dX2_addDifference_48 : decode cX2_addDifference 48 = .ok (.dup2, 1) := by decide +kernel
theorem dX2_addDifference_49 : decode cX2_addDifference 49 = .ok (.iaload, 1) := by decide +kernel
theorem dX2_addDifference_50 : decode cX2_addDifference 50 = .ok (.iconst 1, 1) := by decide +kernel
theorem dX2_addDifference_51 : decode cX2_addDifference 51 = .ok (.iadd, 1) := by decide +kernel
theorem dX2_addDifference_52 : decode cX2_addDifference 52 = .ok (.iastore, 1) := by decide +kernel
theorem dX2_addDifference_53 : decode cX2_addDifference 53 = .ok (.aload_n 0, 1) := by decide +kernel
theorem dX2_addDifference_54 : decode cX2_addDifference 54 = .ok (.getfield 15, 3) := by decide +kernel
theorem dX2_addDifference_57 : decode cX2_addDifference 57 = .ok (.iload_n 1, 1) := by decide +kernel
theorem dX2_addDifference_58 : decode cX2_addDifference 58 = .ok (.iaload, 1) := by decide +kernel
theorem dX2_addDifference_59 : decode cX2_addDifference 59 = .ok (.ireturn, 1) := by decide +kernel
set_option maxRecDepth 20000 in
theorem ggX2_addedTo_X2_place : GoodIn wsX2_addedTo wsX2_place := goodIn_r _ [6] (by decide +kernel) (by decide +kernel)
set_option maxRecDepth 20000 in
theorem gX2_addedTo_X2_place : GoodIn wsX2_addedTo (va_wsS RX2 25 yX2_place wsX2_place) := goodIn_app (goodIn_of _ (by decide +kernel)) ggX2_addedTo_X2_place
theorem dX2_addedTo_0 : decode cX2_addedTo 0 = .ok (.iconst 0, 1) := by decide +kernel
theorem dX2_addedTo_1 : decode cX2_addedTo 1 = .ok (.istore 4, 2) := by decide +kernel
theorem dX2_addedTo_3 : decode cX2_addedTo 3 = .ok (.iload_n 1, 1) := by decide +kernel
theorem dX2_addedTo_4 : decode cX2_addedTo 4 = .ok (.istore 5, 2) := by decide +kernel
theorem dX2_addedTo_6 : decode cX2_addedTo 6 = .ok (.iload_n 1, 1) := by decide +kernel
theorem dX2_addedTo_7 : decode cX2_addedTo 7 = .ok (.istore 6, 2) := by decide +kernel
theorem dX2_addedTo_9 : decode cX2_addedTo 9 = .ok (.iload 6, 2) := by decide +kernel
theorem dX2_addedTo_11 : decode cX2_addedTo 11 = .ok (.ifCond .le 42, 3) := by decide +kernel
theorem dX2_addedTo_14 : decode cX2_addedTo 14 = .ok (.iload 6, 2) := by decide +kernel
theorem dX2_addedTo_16 : decode cX2_addedTo 16 = .ok (.iload 5, 2) := by decide +kernel
theorem dX2_addedTo_18 : decode cX2_addedTo 18 = .ok (.if_icmp .ne 29, 3) := by decide +kernel
theorem dX2_addedTo_21 : decode cX2_addedTo 21 = .ok (.iload 4, 2) := by decide +kernel
theorem dX2_addedTo_23 : decode cX2_addedTo 23 = .ok (.aload_n 0, 1) := by decide +kernel
theorem dX2_addedTo_24 : decode cX2_addedTo 24 = .ok (.getfield 18, 3) := by decide +kernel
theorem dX2_addedTo_27 : decode cX2_addedTo 27 = .ok (.iload 6, 2) := by decide +kernel
theorem dX2_addedTo_29 : decode cX2_addedTo 29 = .ok (.iload_n 2, 1) := by decide +kernel
theorem dX2_addedTo_30 : decode cX2_addedTo 30 = .ok (.iload_n 3, 1) := by decide +kernel
theorem dX2_addedTo_31 : decode cX2_addedTo 31 = .ok (.invokestatic 25, 3) := by decide +kernel
theorem dX2_addedTo_34 : decode cX2_addedTo 34 = .ok (.iaload, 1) := by decide +kernel
theorem dX2_addedTo_35 : decode cX2_addedTo 35 = .ok (.iadd, 1) := by decide +kernel
theorem dX2_addedTo_36 : decode cX2_addedTo 36 = .ok (.istore 4, 2) := by decide +kernel
theorem dX2_addedTo_38 : decode cX2_addedTo 38 = .ok (.aload_n 0, 1) := by decide +kernel
theorem dX2_addedTo_39 : decode cX2_addedTo 39 = .ok (.getfield 9, 3) := by decide +kernel
theorem dX2_addedTo_42 : decode cX2_addedTo 42 = .ok (.iload 6, 2) := by decide +kernel
theorem dX2_addedTo_44 : decode cX2_addedTo 44 = .ok (.iaload, 1) := by decide +kernel
theorem dX2_addedTo_45 : decode cX2_addedTo 45 = .ok (.istore 5, 2) := by decide +kernel
theorem dX2_addedTo_47 : decode cX2_addedTo 47 = .ok (.iinc 6 (-1), 3) := by decide +kernel
theorem dX2_addedTo_50 : decode cX2_addedTo 50 = .ok (.goto (-41), 3) := by decide +kernel
theorem dX2_addedTo_53 : decode cX2_addedTo 53 = .ok (.iload 4, 2) := by decide +kernel
theorem dX2_addedTo_55 : decode cX2_addedTo 55 = .ok (.ireturn, 1) := by decide +kernel
theorem dX2_place_0 : decode cX2_place 0 = .ok (.iload_n 0, 1) := by decide +kernel
theorem dX2_place_1 : decode cX2_place 1 = .ok (.bipush 6, 2) := by decide +kernel
theorem dX2_place_3 : decode cX2_place 3 = .ok (.imul, 1) := by decide +kernel
theorem dX2_place_4 : decode cX2_place 4 = .ok (.iload_n 1, 1) := by decide +kernel
theorem dX2_place_5 : decode cX2_place 5 = .ok (.iadd, 1) := by decide +kernel
theorem dX2_place_6 : decode cX2_place 6 = .ok (.bipush 12, 2) := by decide +kernel
theorem dX2_place_8 : decode cX2_place 8 = .ok (.imul, 1) := by decide +kernel
theorem dX2_place_9 : decode cX2_place 9 = .ok (.iload_n 2, 1) := by decide +kernel
theorem dX2_place_10 : decode cX2_place 10 = .ok (.iadd, 1) := by decide +kernel
theorem dX2_place_11 : decode cX2_place 11 = .ok (.ireturn, 1) := by decide +kernel
set_option maxRecDepth 20000 in
theorem ggX3_init_X2_init : GoodIn wsX3_init wsX2_init := goodIn_r _ [20, 21, 2, 3, 4, 22, 23, 24, 25, 51, 52, 53, 54, 55] (by decide +kernel) (by decide +kernel)
set_option maxRecDepth 20000 in
theorem gX3_init_X2_init_n15 : GoodIn wsX3_init (wsX2_init) := ggX3_init_X2_init
set_option maxRecDepth 20000 in
theorem ggX3_init_X1_init : GoodIn wsX3_init wsX1_init := goodIn_ca (goodIn_r _ [27, 28, 2, 3, 29, 30, 4, 31, 32, 33, 34, 35, 36, 37, 56, 57, 58, 59, 60, 61, 62] (by decide +kernel) (by decide +kernel)) (goodIn_sub (fun _ h => List.mem_cons_of_mem _ (List.mem_append_right _ h)) (by decide +kernel))
set_option maxRecDepth 20000 in
theorem gX3_init_X1_init_n22 : GoodIn wsX3_init (wsX1_init) := ggX3_init_X1_init
set_option maxRecDepth 20000 in
theorem ggX3_init_X0_init : GoodIn wsX3_init wsX0_init := goodIn_ca (goodIn_r _ [39, 40, 2, 3, 29, 41, 4, 42, 43, 63, 64, 65] (by decide +kernel) (by decide +kernel)) (goodIn_sub (fun _ h => List.mem_cons_of_mem _ (List.mem_append_right _ h)) (by decide +kernel))
set_option maxRecDepth 20000 in
theorem gX3_init_X0_init_n29 : GoodIn wsX3_init (wsX0_init) := ggX3_init_X0_init
theorem dX3_init_0 : decode cX3_init 0 = .ok (.aload_n 0, 1) := by decide +kernel
theorem dX3_init_1 : decode cX3_init 1 = .ok (.invokespecial 3, 3) := by decide +kernel
theorem dX3_init_4 : decode cX3_init 4 = .ok (.aload_n 0, 1) := by decide +kernel
theorem dX3_init_5 : decode cX3_init 5 = .ok (.bipush 6, 2) := by decide +kernel
theorem dX3_init_7 : decode cX3_init 7 = .ok (.newarray .int, 2) := by decide +kernel
theorem dX3_init_9 : decode cX3_init 9 = .ok (.putfield 9, 3) := by decide +kernel
theorem dX3_init_12 : decode cX3_init 12 = .ok (.aload_n 0, 1) := by decide +kernel
theorem dX3_init_13 : decode cX3_init 13 = .ok (.new 13, 3) := by decide +kernel
theorem dX3_init_16 : decode cX3_init 16 = .ok (.dup, 1) := by decide +kernel
theorem dX3_init_17 : decode cX3_init 17 = .ok (.invokespecial 15, 3) := by decide +kernel
theorem dX3_init_20 : decode cX3_init 20 = .ok (.putfield 16, 3) := by decide +kernel
theorem dX3_init_23 : decode cX3_init 23 = .ok (.aload_n 0, 1) := by decide +kernel
theorem dX3_init_24 : decode cX3_init 24 = .ok (.new 20, 3) := by decide +kernel
theorem dX3_init_27 : decode cX3_init 27 = .ok (.dup, 1) := by decide +kernel
theorem dX3_init_28 : decode cX3_init 28 = .ok (.invokespecial 22, 3) := by decide +kernel
theorem dX3_init_31 : decode cX3_init 31 = .ok (.putfield 23, 3) := by decide +kernel
theorem dX3_init_34 : decode cX3_init 34 = .ok (.aload_n 0, 1) := by decide +kernel
theorem dX3_init_35 : decode cX3_init 35 = .ok (.new 27, 3) := by decide +kernel
theorem dX3_init_38 : decode cX3_init 38 = .ok (.dup, 1) := by decide +kernel
theorem dX3_init_39 : decode cX3_init 39 = .ok (.invokespecial 29, 3) := by decide +kernel
theorem dX3_init_42 : decode cX3_init 42 = .ok (.putfield 30, 3) := by decide +kernel
theorem dX3_init_45 : decode cX3_init 45 = .ok (.aload_n 0, 1) := by decide +kernel
theorem dX3_init_46 : decode cX3_init 46 = .ok (.bipush 6, 2) := by decide +kernel
theorem dX3_init_48 : decode cX3_init 48 = .ok (.newarray .int, 2) := by decide +kernel
theorem dX3_init_50 : decode cX3_init 50 = .ok (.putfield 34, 3) := by decide +kernel
theorem dX3_init_53 : decode cX3_init 53 = .ok (.return_, 1) := by decide +kernel
set_option maxRecDepth 20000 in
theorem ggX3_addDriver_X3_requireDriverValue : GoodIn wsX3_addDriver wsX3_requireDriverValue := goodIn_ca (goodIn_r _ [8, 9, 10] (by decide +kernel) (by decide +kernel)) (goodIn_sub (fun _ h => List.mem_cons_of_mem _ (List.mem_append_right _ h)) (by decide +kernel))
set_option maxRecDepth 20000 in
theorem gX3_addDriver_X3_requireDriverValue : GoodIn wsX3_addDriver (va_wsS RX3 37 yX3_requireDriverValue wsX3_requireDriverValue) := goodIn_app (goodIn_of _ (by decide +kernel)) ggX3_addDriver_X3_requireDriverValue
theorem dX3_addDriver_0 : decode cX3_addDriver 0 = .ok (.iload_n 1, 1) := by decide +kernel
theorem dX3_addDriver_1 : decode cX3_addDriver 1 = .ok (.invokestatic 37, 3) := by decide +kernel
theorem dX3_addDriver_4 : decode cX3_addDriver 4 = .ok (.aload_n 0, 1) := by decide +kernel
theorem dX3_addDriver_5 : decode cX3_addDriver 5 = .ok (.getfield 41, 3) := by decide +kernel
theorem dX3_addDriver_8 : decode cX3_addDriver 8 = .ok (.bipush 6, 2) := by decide +kernel
theorem dX3_addDriver_10 : decode cX3_addDriver 10 = .ok (.if_icmp .lt 11, 3) := by decide +kernel
theorem dX3_addDriver_13 : decode cX3_addDriver 13 = .ok (.new 45, 3) := by decide +kernel
theorem dX3_addDriver_16 : decode cX3_addDriver 16 = .ok (.dup, 1) := by decide +kernel
theorem dX3_addDriver_17 : decode cX3_addDriver 17 = .ok (.invokespecial 47, 3) := by decide +kernel
theorem dX3_addDriver_20 : decode cX3_addDriver 20 = .ok (.athrow, 1) := by decide +kernel
theorem dX3_addDriver_21 : decode cX3_addDriver 21 = .ok (.aload_n 0, 1) := by decide +kernel
theorem dX3_addDriver_22 : decode cX3_addDriver 22 = .ok (.getfield 9, 3) := by decide +kernel
theorem dX3_addDriver_25 : decode cX3_addDriver 25 = .ok (.aload_n 0, 1) := by decide +kernel
theorem dX3_addDriver_26 : decode cX3_addDriver 26 = .ok (.getfield 41, 3) := by decide +kernel
theorem dX3_addDriver_29 : decode cX3_addDriver 29 = .ok (.iload_n 1, 1) := by decide +kernel
theorem dX3_addDriver_30 : decode cX3_addDriver 30 = .ok (.iastore, 1) := by decide +kernel
theorem dX3_addDriver_31 : decode cX3_addDriver 31 = .ok (.aload_n 0, 1) := by decide +kernel
theorem dX3_addDriver_32 : decode cX3_addDriver 32 = .ok (.dup, 1) := by decide +kernel
theorem dX3_addDriver_33 : decode cX3_addDriver 33 = .ok (.getfield 41, 3) := by decide +kernel
theorem dX3_addDriver_36 : decode cX3_addDriver 36 = .ok (.iconst 1, 1) := by decide +kernel
theorem dX3_addDriver_37 : decode cX3_addDriver 37 = .ok (.iadd, 1) := by decide +kernel
theorem dX3_addDriver_38 : decode cX3_addDriver 38 = .ok (.putfield 41, 3) := by decide +kernel
theorem dX3_addDriver_41 : decode cX3_addDriver 41 = .ok (.aload_n 0, 1) := by decide +kernel
theorem dX3_addDriver_42 : decode cX3_addDriver 42 = .ok (.getfield 41, 3) := by decide +kernel
theorem dX3_addDriver_45 : decode cX3_addDriver 45 = .ok (.iconst 1, 1) := by decide +kernel
theorem dX3_addDriver_46 : decode cX3_addDriver 46 = .ok (.isub, 1) := by decide +kernel
theorem dX3_addDriver_47 : decode cX3_addDriver 47 = .ok (.ireturn, 1) := by decide +kernel
set_option maxRecDepth 20000 in
theorem ggX3_setDriver_X3_requireDriver : GoodIn wsX3_setDriver wsX3_requireDriver := goodIn_ca (goodIn_r _ [6, 7, 8, 9, 80, 81, 82, 83, 84, 85, 86] (by decide +kernel) (by decide +kernel)) (goodIn_sub (fun _ h => List.mem_cons_of_mem _ (List.mem_append_left _ (List.mem_append_right _ h))) (by decide +kernel))
set_option maxRecDepth 20000 in
theorem gX3_setDriver_X3_requireDriver : GoodIn wsX3_setDriver (wsV RX3 48 RX3 yX3_requireDriver wsX3_requireDriver) := goodIn_app (goodIn_of _ (by decide +kernel)) ggX3_setDriver_X3_requireDriver
set_option maxRecDepth 20000 in
theorem ggX3_setDriver_X3_requireDriverValue : GoodIn wsX3_setDriver wsX3_requireDriverValue := goodIn_ca (goodIn_r _ [12, 13, 14] (by decide +kernel) (by decide +kernel)) (goodIn_sub (fun _ h => List.mem_cons_of_mem _ (List.mem_append_right _ h)) (by decide +kernel))
set_option maxRecDepth 20000 in
theorem gX3_setDriver_X3_requireDriverValue : GoodIn wsX3_setDriver (va_wsS RX3 37 yX3_requireDriverValue wsX3_requireDriverValue) := goodIn_app (goodIn_of _ (by decide +kernel)) ggX3_setDriver_X3_requireDriverValue
set_option maxRecDepth 20000 in
theorem ggX3_setDriver_X3_reopenDrifted : GoodIn wsX3_setDriver wsX3_reopenDrifted := goodIn_ca (goodIn_r _ [18, 19, 20, 21, 22, 23, 24, 5, 25, 9, 1, 26, 27, 28, 29, 30, 31, 32, 33, 34, 35, 36, 37, 38, 39, 40, 41, 42, 43, 44, 45, 46, 47, 48, 49, 50, 51, 52, 53, 54, 55, 56, 57, 58, 59, 60, 61, 62, 63, 64, 65, 66, 67, 68, 69, 70, 71, 72, 73, 74, 75, 76, 77, 78, 79, 80, 81, 82, 83, 84, 85, 86, 87, 88, 89, 90, 91, 92, 93, 94, 95, 96, 97, 98, 99, 100, 101] (by decide +kernel) (by decide +kernel)) (goodIn_sub (fun _ h => List.mem_cons_of_mem _ (List.mem_append_left _ (List.mem_append_left _ (List.mem_append_right _ h)))) (by decide +kernel))
set_option maxRecDepth 20000 in
theorem gX3_setDriver_X3_reopenDrifted : GoodIn wsX3_setDriver (wsV RX3 51 RX3 yX3_reopenDrifted wsX3_reopenDrifted) := goodIn_app (goodIn_of _ (by decide +kernel)) ggX3_setDriver_X3_reopenDrifted
theorem dX3_setDriver_0 : decode cX3_setDriver 0 = .ok (.aload_n 0, 1) := by decide +kernel
theorem dX3_setDriver_1 : decode cX3_setDriver 1 = .ok (.iload_n 1, 1) := by decide +kernel
theorem dX3_setDriver_2 : decode cX3_setDriver 2 = .ok (.invokevirtual 48, 3) := by decide +kernel
theorem dX3_setDriver_5 : decode cX3_setDriver 5 = .ok (.iload_n 2, 1) := by decide +kernel
theorem dX3_setDriver_6 : decode cX3_setDriver 6 = .ok (.invokestatic 37, 3) := by decide +kernel
theorem dX3_setDriver_9 : decode cX3_setDriver 9 = .ok (.aload_n 0, 1) := by decide +kernel
theorem dX3_setDriver_10 : decode cX3_setDriver 10 = .ok (.getfield 9, 3) := by decide +kernel
theorem dX3_setDriver_13 : decode cX3_setDriver 13 = .ok (.iload_n 1, 1) := by decide +kernel
theorem dX3_setDriver_14 : decode cX3_setDriver 14 = .ok (.iload_n 2, 1) := by decide +kernel
theorem dX3_setDriver_15 : decode cX3_setDriver 15 = .ok (.iastore, 1) := by decide +kernel
theorem dX3_setDriver_16 : decode cX3_setDriver 16 = .ok (.aload_n 0, 1) := by decide +kernel
theorem dX3_setDriver_17 : decode cX3_setDriver 17 = .ok (.invokevirtual 51, 3) := by decide +kernel
theorem dX3_setDriver_20 : decode cX3_setDriver 20 = .ok (.ireturn, 1) := by decide +kernel
set_option maxRecDepth 20000 in
theorem ggX3_driver_X3_requireScenario : GoodIn wsX3_driver wsX3_requireScenario := goodIn_ca (goodIn_r _ [5, 6, 7, 8, 31, 32, 33, 34, 35, 36, 37, 38, 39, 40, 41, 42] (by decide +kernel) (by decide +kernel)) (goodIn_sub (fun _ h => List.mem_cons_of_mem _ (List.mem_append_left _ (List.mem_append_right _ h))) (by decide +kernel))
set_option maxRecDepth 20000 in
theorem gX3_driver_X3_requireScenario : GoodIn wsX3_driver (wsV RX3 55 RX3 yX3_requireScenario wsX3_requireScenario) := goodIn_app (goodIn_of _ (by decide +kernel)) ggX3_driver_X3_requireScenario
set_option maxRecDepth 20000 in
theorem ggX3_driver_X3_requireDriver : GoodIn wsX3_driver wsX3_requireDriver := goodIn_ca (goodIn_r _ [12, 6, 7, 13, 31, 32, 33, 34, 35, 36, 37] (by decide +kernel) (by decide +kernel)) (goodIn_sub (fun _ h => List.mem_cons_of_mem _ (List.mem_append_left _ (List.mem_append_right _ h))) (by decide +kernel))
set_option maxRecDepth 20000 in
theorem gX3_driver_X3_requireDriver : GoodIn wsX3_driver (wsV RX3 48 RX3 yX3_requireDriver wsX3_requireDriver) := goodIn_app (goodIn_of _ (by decide +kernel)) ggX3_driver_X3_requireDriver
set_option maxRecDepth 20000 in
theorem ggX3_driver_X3_requireMonth : GoodIn wsX3_driver wsX3_requireMonth := goodIn_ca (goodIn_r _ [16, 6, 7] (by decide +kernel) (by decide +kernel)) (goodIn_sub (fun _ h => List.mem_cons_of_mem _ (List.mem_append_left _ (List.mem_append_right _ h))) (by decide +kernel))
set_option maxRecDepth 20000 in
theorem gX3_driver_X3_requireMonth : GoodIn wsX3_driver (va_wsS RX3 58 yX3_requireMonth wsX3_requireMonth) := goodIn_app (goodIn_of _ (by decide +kernel)) ggX3_driver_X3_requireMonth
set_option maxRecDepth 20000 in
theorem ggX3_driver_X3_valueIn : GoodIn wsX3_driver wsX3_valueIn := goodIn_ca (goodIn_r _ [20, 21, 8, 22, 23, 24, 25, 26, 27, 28, 29, 30, 31, 32, 33, 34, 35, 36, 37, 38, 39, 40, 41, 42] (by decide +kernel) (by decide +kernel)) (goodIn_sub (fun _ h => List.mem_cons_of_mem _ (List.mem_append_right _ h)) (by decide +kernel))
set_option maxRecDepth 20000 in
theorem gX3_driver_X3_valueIn : GoodIn wsX3_driver (wsV RX3 61 RX3 yX3_valueIn wsX3_valueIn) := goodIn_app (goodIn_of _ (by decide +kernel)) ggX3_driver_X3_valueIn
theorem dX3_driver_0 : decode cX3_driver 0 = .ok (.aload_n 0, 1) := by decide +kernel
theorem dX3_driver_1 : decode cX3_driver 1 = .ok (.iload_n 1, 1) := by decide +kernel
theorem dX3_driver_2 : decode cX3_driver 2 = .ok (.invokevirtual 55, 3) := by decide +kernel
theorem dX3_driver_5 : decode cX3_driver 5 = .ok (.aload_n 0, 1) := by decide +kernel
theorem dX3_driver_6 : decode cX3_driver 6 = .ok (.iload_n 2, 1) := by decide +kernel
theorem dX3_driver_7 : decode cX3_driver 7 = .ok (.invokevirtual 48, 3) := by decide +kernel
theorem dX3_driver_10 : decode cX3_driver 10 = .ok (.iload_n 3, 1) := by decide +kernel
theorem dX3_driver_11 : decode cX3_driver 11 = .ok (.invokestatic 58, 3) := by decide +kernel
theorem dX3_driver_14 : decode cX3_driver 14 = .ok (.aload_n 0, 1) := by decide +kernel
theorem dX3_driver_15 : decode cX3_driver 15 = .ok (.iload_n 1, 1) := by decide +kernel
theorem dX3_driver_16 : decode cX3_driver 16 = .ok (.iload_n 2, 1) := by decide +kernel
theorem dX3_driver_17 : decode cX3_driver 17 = .ok (.iload_n 3, 1) := by decide +kernel
theorem dX3_driver_18 : decode cX3_driver 18 = .ok (.invokevirtual 61, 3) := by decide +kernel
theorem dX3_driver_21 : decode cX3_driver 21 = .ok (.ireturn, 1) := by decide +kernel
set_option maxRecDepth 20000 in
theorem ggX3_addLine_X3_requireDriver : GoodIn wsX3_addLine wsX3_requireDriver := goodIn_ca (goodIn_r _ [10, 11, 12, 13, 26, 27, 28, 29, 30, 31, 32] (by decide +kernel) (by decide +kernel)) (goodIn_sub (fun _ h => List.mem_cons_of_mem _ (List.mem_append_left _ (List.mem_append_right _ h))) (by decide +kernel))
set_option maxRecDepth 20000 in
theorem gX3_addLine_X3_requireDriver : GoodIn wsX3_addLine (wsV RX3 48 RX3 yX3_requireDriver wsX3_requireDriver) := goodIn_app (goodIn_of _ (by decide +kernel)) ggX3_addLine_X3_requireDriver
set_option maxRecDepth 20000 in
theorem ggX3_addLine_X3_requireLine : GoodIn wsX3_addLine wsX3_requireLine := goodIn_ca (goodIn_r _ [17, 11, 12, 5, 26, 27, 28, 29, 30, 31, 32, 33, 34, 35, 36, 37, 38, 39] (by decide +kernel) (by decide +kernel)) (goodIn_sub (fun _ h => List.mem_cons_of_mem _ (List.mem_append_left _ (List.mem_append_right _ h))) (by decide +kernel))
set_option maxRecDepth 20000 in
theorem gX3_addLine_X3_requireLine : GoodIn wsX3_addLine (wsV RX3 68 RX3 yX3_requireLine wsX3_requireLine) := goodIn_app (goodIn_of _ (by decide +kernel)) ggX3_addLine_X3_requireLine
set_option maxRecDepth 20000 in
theorem ggX3_addLine_X1_add : GoodIn wsX3_addLine wsX1_add := goodIn_ca (goodIn_r _ [21, 22, 23, 24, 25, 33, 34, 35, 36, 37, 38, 39] (by decide +kernel) (by decide +kernel)) (goodIn_sub (fun _ h => List.mem_cons_of_mem _ (List.mem_append_right _ h)) (by decide +kernel))
set_option maxRecDepth 20000 in
theorem gX3_addLine_X1_add_n74 : GoodIn wsX3_addLine (wsX1_add) := ggX3_addLine_X1_add
theorem dX3_addLine_0 : decode cX3_addLine 0 = .ok (.iload_n 1, 1) := by decide +kernel
theorem dX3_addLine_1 : decode cX3_addLine 1 = .ok (.bipush 100, 2) := by decide +kernel
theorem dX3_addLine_3 : decode cX3_addLine 3 = .ok (.if_icmp .eq 29, 3) := by decide +kernel
theorem dX3_addLine_6 : decode cX3_addLine 6 = .ok (.iload_n 1, 1) := by decide +kernel
theorem dX3_addLine_7 : decode cX3_addLine 7 = .ok (.bipush 115, 2) := by decide +kernel
theorem dX3_addLine_9 : decode cX3_addLine 9 = .ok (.if_icmp .eq 23, 3) := by decide +kernel
theorem dX3_addLine_12 : decode cX3_addLine 12 = .ok (.iload_n 1, 1) := by decide +kernel
theorem dX3_addLine_13 : decode cX3_addLine 13 = .ok (.bipush 109, 2) := by decide +kernel
theorem dX3_addLine_15 : decode cX3_addLine 15 = .ok (.if_icmp .eq 17, 3) := by decide +kernel
theorem dX3_addLine_18 : decode cX3_addLine 18 = .ok (.iload_n 1, 1) := by decide +kernel
theorem dX3_addLine_19 : decode cX3_addLine 19 = .ok (.bipush 112, 2) := by decide +kernel
theorem dX3_addLine_21 : decode cX3_addLine 21 = .ok (.if_icmp .eq 11, 3) := by decide +kernel
theorem dX3_addLine_24 : decode cX3_addLine 24 = .ok (.new 65, 3) := by decide +kernel
theorem dX3_addLine_27 : decode cX3_addLine 27 = .ok (.dup, 1) := by decide +kernel
theorem dX3_addLine_28 : decode cX3_addLine 28 = .ok (.invokespecial 67, 3) := by decide +kernel
theorem dX3_addLine_31 : decode cX3_addLine 31 = .ok (.athrow, 1) := by decide +kernel
theorem dX3_addLine_32 : decode cX3_addLine 32 = .ok (.iload_n 1, 1) := by decide +kernel
theorem dX3_addLine_33 : decode cX3_addLine 33 = .ok (.bipush 100, 2) := by decide +kernel
theorem dX3_addLine_35 : decode cX3_addLine 35 = .ok (.if_icmp .ne 11, 3) := by decide +kernel
theorem dX3_addLine_38 : decode cX3_addLine 38 = .ok (.aload_n 0, 1) := by decide +kernel
theorem dX3_addLine_39 : decode cX3_addLine 39 = .ok (.iload_n 2, 1) := by decide +kernel
theorem dX3_addLine_40 : decode cX3_addLine 40 = .ok (.invokevirtual 48, 3) := by decide +kernel
theorem dX3_addLine_43 : decode cX3_addLine 43 = .ok (.goto 13, 3) := by decide +kernel
theorem dX3_addLine_46 : decode cX3_addLine 46 = .ok (.aload_n 0, 1) := by decide +kernel
theorem dX3_addLine_47 : decode cX3_addLine 47 = .ok (.iload_n 2, 1) := by decide +kernel
theorem dX3_addLine_48 : decode cX3_addLine 48 = .ok (.invokevirtual 68, 3) := by decide +kernel
theorem dX3_addLine_51 : decode cX3_addLine 51 = .ok (.aload_n 0, 1) := by decide +kernel
theorem dX3_addLine_52 : decode cX3_addLine 52 = .ok (.iload_n 3, 1) := by decide +kernel
theorem dX3_addLine_53 : decode cX3_addLine 53 = .ok (.invokevirtual 68, 3) := by decide +kernel
theorem dX3_addLine_56 : decode cX3_addLine 56 = .ok (.aload_n 0, 1) := by decide +kernel
theorem dX3_addLine_57 : decode cX3_addLine 57 = .ok (.getfield 23, 3) := by decide +kernel
theorem dX3_addLine_60 : decode cX3_addLine 60 = .ok (.getfield 71, 3) := by decide +kernel
theorem dX3_addLine_63 : decode cX3_addLine 63 = .ok (.bipush 10, 2) := by decide +kernel
theorem dX3_addLine_65 : decode cX3_addLine 65 = .ok (.if_icmp .lt 11, 3) := by decide +kernel
theorem dX3_addLine_68 : decode cX3_addLine 68 = .ok (.new 45, 3) := by decide +kernel
theorem dX3_addLine_71 : decode cX3_addLine 71 = .ok (.dup, 1) := by decide +kernel
theorem dX3_addLine_72 : decode cX3_addLine 72 = .ok (.invokespecial 47, 3) := by decide +kernel
theorem dX3_addLine_75 : decode cX3_addLine 75 = .ok (.athrow, 1) := by decide +kernel
theorem dX3_addLine_76 : decode cX3_addLine 76 = .ok (.aload_n 0, 1) := by decide +kernel
theorem dX3_addLine_77 : decode cX3_addLine 77 = .ok (.getfield 23, 3) := by decide +kernel
theorem dX3_addLine_80 : decode cX3_addLine 80 = .ok (.iload_n 1, 1) := by decide +kernel
theorem dX3_addLine_81 : decode cX3_addLine 81 = .ok (.iload_n 2, 1) := by decide +kernel
theorem dX3_addLine_82 : decode cX3_addLine 82 = .ok (.iload_n 3, 1) := by decide +kernel
theorem dX3_addLine_83 : decode cX3_addLine 83 = .ok (.invokevirtual 74, 3) := by decide +kernel
theorem dX3_addLine_86 : decode cX3_addLine 86 = .ok (.ireturn, 1) := by decide +kernel
set_option maxRecDepth 20000 in
theorem ggX3_addScenario_X3_requireScenario : GoodIn wsX3_addScenario wsX3_requireScenario := goodIn_ca (goodIn_r _ [8, 9, 10, 3, 17, 18, 19, 20, 21, 22, 23, 24, 25, 26, 27, 28] (by decide +kernel) (by decide +kernel)) (goodIn_sub (fun _ h => List.mem_cons_of_mem _ (List.mem_append_left _ (List.mem_append_right _ h))) (by decide +kernel))
set_option maxRecDepth 20000 in
theorem gX3_addScenario_X3_requireScenario : GoodIn wsX3_addScenario (wsV RX3 55 RX3 yX3_requireScenario wsX3_requireScenario) := goodIn_app (goodIn_of _ (by decide +kernel)) ggX3_addScenario_X3_requireScenario
set_option maxRecDepth 20000 in
theorem ggX3_addScenario_X2_add : GoodIn wsX3_addScenario wsX2_add := goodIn_ca (goodIn_r _ [14, 15, 16, 24, 25, 26, 27, 28] (by decide +kernel) (by decide +kernel)) (goodIn_sub (fun _ h => List.mem_cons_of_mem _ (List.mem_append_right _ h)) (by decide +kernel))
set_option maxRecDepth 20000 in
theorem gX3_addScenario_X2_add_n79 : GoodIn wsX3_addScenario (wsX2_add) := ggX3_addScenario_X2_add
theorem dX3_addScenario_0 : decode cX3_addScenario 0 = .ok (.aload_n 0, 1) := by decide +kernel
theorem dX3_addScenario_1 : decode cX3_addScenario 1 = .ok (.iload_n 1, 1) := by decide +kernel
theorem dX3_addScenario_2 : decode cX3_addScenario 2 = .ok (.invokevirtual 55, 3) := by decide +kernel
theorem dX3_addScenario_5 : decode cX3_addScenario 5 = .ok (.aload_n 0, 1) := by decide +kernel
theorem dX3_addScenario_6 : decode cX3_addScenario 6 = .ok (.getfield 16, 3) := by decide +kernel
theorem dX3_addScenario_9 : decode cX3_addScenario 9 = .ok (.getfield 78, 3) := by decide +kernel
theorem dX3_addScenario_12 : decode cX3_addScenario 12 = .ok (.iconst 4, 1) := by decide +kernel
theorem dX3_addScenario_13 : decode cX3_addScenario 13 = .ok (.if_icmp .lt 11, 3) := by decide +kernel
theorem dX3_addScenario_16 : decode cX3_addScenario 16 = .ok (.new 45, 3) := by decide +kernel
theorem dX3_addScenario_19 : decode cX3_addScenario 19 = .ok (.dup, 1) := by decide +kernel
theorem dX3_addScenario_20 : decode cX3_addScenario 20 = .ok (.invokespecial 47, 3) := by decide +kernel
theorem dX3_addScenario_23 : decode cX3_addScenario 23 = .ok (.athrow, 1) := by decide +kernel
theorem dX3_addScenario_24 : decode cX3_addScenario 24 = .ok (.aload_n 0, 1) := by decide +kernel
theorem dX3_addScenario_25 : decode cX3_addScenario 25 = .ok (.getfield 16, 3) := by decide +kernel
theorem dX3_addScenario_28 : decode cX3_addScenario 28 = .ok (.iload_n 1, 1) := by decide +kernel
theorem dX3_addScenario_29 : decode cX3_addScenario 29 = .ok (.invokevirtual 79, 3) := by decide +kernel
theorem dX3_addScenario_32 : decode cX3_addScenario 32 = .ok (.ireturn, 1) := by decide +kernel
set_option maxRecDepth 20000 in
theorem ggX3_differ_X3_requireScenario : GoodIn wsX3_differ wsX3_requireScenario := goodIn_ca (goodIn_r _ [12, 13, 14, 7, 33, 34, 35, 36, 37, 38, 39, 40, 41, 42, 43, 44] (by decide +kernel) (by decide +kernel)) (goodIn_sub (fun _ h => List.mem_cons_of_mem _ (List.mem_append_left _ (List.mem_append_right _ h))) (by decide +kernel))
set_option maxRecDepth 20000 in
theorem gX3_differ_X3_requireScenario : GoodIn wsX3_differ (wsV RX3 55 RX3 yX3_requireScenario wsX3_requireScenario) := goodIn_app (goodIn_of _ (by decide +kernel)) ggX3_differ_X3_requireScenario
set_option maxRecDepth 20000 in
theorem ggX3_differ_X3_requireDriver : GoodIn wsX3_differ wsX3_requireDriver := goodIn_ca (goodIn_r _ [18, 13, 14, 19, 33, 34, 35, 36, 37, 38, 39] (by decide +kernel) (by decide +kernel)) (goodIn_sub (fun _ h => List.mem_cons_of_mem _ (List.mem_append_left _ (List.mem_append_right _ h))) (by decide +kernel))
set_option maxRecDepth 20000 in
theorem gX3_differ_X3_requireDriver : GoodIn wsX3_differ (wsV RX3 48 RX3 yX3_requireDriver wsX3_requireDriver) := goodIn_app (goodIn_of _ (by decide +kernel)) ggX3_differ_X3_requireDriver
set_option maxRecDepth 20000 in
theorem ggX3_differ_X3_requireMonth : GoodIn wsX3_differ wsX3_requireMonth := goodIn_ca (goodIn_r _ [22, 13, 14] (by decide +kernel) (by decide +kernel)) (goodIn_sub (fun _ h => List.mem_cons_of_mem _ (List.mem_append_left _ (List.mem_append_right _ h))) (by decide +kernel))
set_option maxRecDepth 20000 in
theorem gX3_differ_X3_requireMonth : GoodIn wsX3_differ (va_wsS RX3 58 yX3_requireMonth wsX3_requireMonth) := goodIn_app (goodIn_of _ (by decide +kernel)) ggX3_differ_X3_requireMonth
set_option maxRecDepth 20000 in
theorem ggX3_differ_X2_addDifference : GoodIn wsX3_differ wsX2_addDifference := goodIn_ca (goodIn_r _ [26, 27, 28, 29, 30, 31, 24, 32, 40, 41, 42, 43, 44] (by decide +kernel) (by decide +kernel)) (goodIn_sub (fun _ h => List.mem_cons_of_mem _ (List.mem_append_right _ h)) (by decide +kernel))
set_option maxRecDepth 20000 in
theorem gX3_differ_X2_addDifference_n88 : GoodIn wsX3_differ (wsX2_addDifference) := ggX3_differ_X2_addDifference
theorem dX3_differ_0 : decode cX3_differ 0 = .ok (.aload_n 0, 1) := by decide +kernel
theorem dX3_differ_1 : decode cX3_differ 1 = .ok (.iload_n 1, 1) := by decide +kernel
theorem dX3_differ_2 : decode cX3_differ 2 = .ok (.invokevirtual 55, 3) := by decide +kernel
theorem dX3_differ_5 : decode cX3_differ 5 = .ok (.aload_n 0, 1) := by decide +kernel
theorem dX3_differ_6 : decode cX3_differ 6 = .ok (.iload_n 2, 1) := by decide +kernel
theorem dX3_differ_7 : decode cX3_differ 7 = .ok (.invokevirtual 48, 3) := by decide +kernel
theorem dX3_differ_10 : decode cX3_differ 10 = .ok (.iload_n 3, 1) := by decide +kernel
theorem dX3_differ_11 : decode cX3_differ 11 = .ok (.invokestatic 58, 3) := by decide +kernel
theorem dX3_differ_14 : decode cX3_differ 14 = .ok (.iload 4, 2) := by decide +kernel
theorem dX3_differ_16 : decode cX3_differ 16 = .ok (.sipush (-999), 3) := by decide +kernel
theorem dX3_differ_19 : decode cX3_differ 19 = .ok (.if_icmp .lt 11, 3) := by decide +kernel
theorem dX3_differ_22 : decode cX3_differ 22 = .ok (.iload 4, 2) := by decide +kernel
theorem dX3_differ_24 : decode cX3_differ 24 = .ok (.sipush 999, 3) := by decide +kernel
theorem dX3_differ_27 : decode cX3_differ 27 = .ok (.if_icmp .le 11, 3) := by decide +kernel
theorem dX3_differ_30 : decode cX3_differ 30 = .ok (.new 65, 3) := by decide +kernel
theorem dX3_differ_33 : decode cX3_differ 33 = .ok (.dup, 1) := by decide +kernel
theorem dX3_differ_34 : decode cX3_differ 34 = .ok (.invokespecial 67, 3) := by decide +kernel
theorem dX3_differ_37 : decode cX3_differ 37 = .ok (.athrow, 1) := by decide +kernel
theorem dX3_differ_38 : decode cX3_differ 38 = .ok (.iload_n 1, 1) := by decide +kernel
theorem dX3_differ_39 : decode cX3_differ 39 = .ok (.ifCond .ne 11, 3) := by decide +kernel
theorem dX3_differ_42 : decode cX3_differ 42 = .ok (.new 82, 3) := by decide +kernel
theorem dX3_differ_45 : decode cX3_differ 45 = .ok (.dup, 1) := by decide +kernel
theorem dX3_differ_46 : decode cX3_differ 46 = .ok (.invokespecial 84, 3) := by decide +kernel
theorem dX3_differ_49 : decode cX3_differ 49 = .ok (.athrow, 1) := by decide +kernel
theorem dX3_differ_50 : decode cX3_differ 50 = .ok (.aload_n 0, 1) := by decide +kernel
theorem dX3_differ_51 : decode cX3_differ 51 = .ok (.getfield 16, 3) := by decide +kernel
theorem dX3_differ_54 : decode cX3_differ 54 = .ok (.getfield 85, 3) := by decide +kernel
theorem dX3_differ_57 : decode cX3_differ 57 = .ok (.bipush 12, 2) := by decide +kernel
theorem dX3_differ_59 : decode cX3_differ 59 = .ok (.if_icmp .lt 11, 3) := by decide +kernel
theorem dX3_differ_62 : decode cX3_differ 62 = .ok (.new 45, 3) := by decide +kernel
theorem dX3_differ_65 : decode cX3_differ 65 = .ok (.dup, 1) := by decide +kernel
theorem dX3_differ_66 : decode cX3_differ 66 = .ok (.invokespecial 47, 3) := by decide +kernel
theorem dX3_differ_69 : decode cX3_differ 69 = .ok (.athrow, 1) := by decide +kernel
theorem dX3_differ_70 : decode cX3_differ 70 = .ok (.aload_n 0, 1) := by decide +kernel
theorem dX3_differ_71 : decode cX3_differ 71 = .ok (.getfield 16, 3) := by decide +kernel
theorem dX3_differ_74 : decode cX3_differ 74 = .ok (.iload_n 1, 1) := by decide +kernel
theorem dX3_differ_75 : decode cX3_differ 75 = .ok (.iload_n 2, 1) := by decide +kernel
theorem dX3_differ_76 : decode cX3_differ 76 = .ok (.iload_n 3, 1) := by decide +kernel
theorem dX3_differ_77 : decode cX3_differ 77 = .ok (.iload 4, 2) := by decide +kernel
theorem dX3_differ_79 : decode cX3_differ 79 = .ok (.invokevirtual 88, 3) := by decide +kernel
theorem dX3_differ_82 : decode cX3_differ 82 = .ok (.ireturn, 1) := by decide +kernel
set_option maxRecDepth 20000 in
theorem ggX3_number_X3_requireScenario : GoodIn wsX3_number wsX3_requireScenario := goodIn_ca (goodIn_r _ [5, 6, 7, 8, 73, 74, 75, 76, 77, 78, 79, 80, 81, 82, 83, 84] (by decide +kernel) (by decide +kernel)) (goodIn_sub (fun _ h => List.mem_cons_of_mem _ (List.mem_append_left _ (List.mem_append_left _ (List.mem_append_right _ h)))) (by decide +kernel))
set_option maxRecDepth 20000 in
theorem gX3_number_X3_requireScenario : GoodIn wsX3_number (wsV RX3 55 RX3 yX3_requireScenario wsX3_requireScenario) := goodIn_app (goodIn_of _ (by decide +kernel)) ggX3_number_X3_requireScenario
set_option maxRecDepth 20000 in
theorem ggX3_number_X3_requireLine : GoodIn wsX3_number wsX3_requireLine := goodIn_ca (goodIn_r _ [12, 6, 7, 13, 73, 74, 75, 76, 77, 78, 79, 85, 86, 87, 88, 89, 90, 91] (by decide +kernel) (by decide +kernel)) (goodIn_sub (fun _ h => List.mem_cons_of_mem _ (List.mem_append_left _ (List.mem_append_left _ (List.mem_append_right _ h)))) (by decide +kernel))
set_option maxRecDepth 20000 in
theorem gX3_number_X3_requireLine : GoodIn wsX3_number (wsV RX3 68 RX3 yX3_requireLine wsX3_requireLine) := goodIn_app (goodIn_of _ (by decide +kernel)) ggX3_number_X3_requireLine
set_option maxRecDepth 20000 in
theorem ggX3_number_X3_requireMonth : GoodIn wsX3_number wsX3_requireMonth := goodIn_ca (goodIn_r _ [16, 6, 7] (by decide +kernel) (by decide +kernel)) (goodIn_sub (fun _ h => List.mem_cons_of_mem _ (List.mem_append_left _ (List.mem_append_left _ (List.mem_append_right _ h)))) (by decide +kernel))
set_option maxRecDepth 20000 in
theorem gX3_number_X3_requireMonth : GoodIn wsX3_number (va_wsS RX3 58 yX3_requireMonth wsX3_requireMonth) := goodIn_app (goodIn_of _ (by decide +kernel)) ggX3_number_X3_requireMonth
set_option maxRecDepth 20000 in
theorem ggX3_number_X3_numberIn : GoodIn wsX3_number wsX3_numberIn := goodIn_ca (goodIn_r _ [20, 13, 21, 22, 23, 24, 4, 25, 26, 27, 28, 29, 30, 31, 8, 32, 33, 34, 35, 36, 37, 38, 39, 40, 41, 42, 43, 44, 45, 46, 47, 48, 49, 50, 51, 52, 53, 54, 55, 56, 57, 58, 59, 60, 61, 62, 63, 64, 65, 66, 73, 74, 75, 76, 77, 78, 79, 80, 81, 82, 83, 84, 85, 86, 87, 88, 89, 90, 91] (by decide +kernel) (by decide +kernel)) (goodIn_sub (fun _ h => List.mem_cons_of_mem _ (List.mem_append_left _ (List.mem_append_right _ h))) (by decide +kernel))
set_option maxRecDepth 20000 in
theorem gX3_number_X3_numberIn : GoodIn wsX3_number (wsV RX3 92 RX3 yX3_numberIn wsX3_numberIn) := goodIn_app (goodIn_of _ (by decide +kernel)) ggX3_number_X3_numberIn
set_option maxRecDepth 20000 in
theorem ggX3_number_X3_required : GoodIn wsX3_number wsX3_required := goodIn_ca (goodIn_r _ [69, 70, 71, 72] (by decide +kernel) (by decide +kernel)) (goodIn_sub (fun _ h => List.mem_cons_of_mem _ (List.mem_append_right _ h)) (by decide +kernel))
set_option maxRecDepth 20000 in
theorem gX3_number_X3_required : GoodIn wsX3_number (va_wsS RX3 95 yX3_required wsX3_required) := goodIn_app (goodIn_of _ (by decide +kernel)) ggX3_number_X3_required
theorem dX3_number_0 : decode cX3_number 0 = .ok (.aload_n 0, 1) := by decide +kernel
theorem dX3_number_1 : decode cX3_number 1 = .ok (.iload_n 1, 1) := by decide +kernel
theorem dX3_number_2 : decode cX3_number 2 = .ok (.invokevirtual 55, 3) := by decide +kernel
theorem dX3_number_5 : decode cX3_number 5 = .ok (.aload_n 0, 1) := by decide +kernel
theorem dX3_number_6 : decode cX3_number 6 = .ok (.iload_n 2, 1) := by decide +kernel
theorem dX3_number_7 : decode cX3_number 7 = .ok (.invokevirtual 68, 3) := by decide +kernel
theorem dX3_number_10 : decode cX3_number 10 = .ok (.iload_n 3, 1) := by decide +kernel
theorem dX3_number_11 : decode cX3_number 11 = .ok (.invokestatic 58, 3) := by decide +kernel
theorem dX3_number_14 : decode cX3_number 14 = .ok (.aload_n 0, 1) := by decide +kernel
theorem dX3_number_15 : decode cX3_number 15 = .ok (.iload_n 1, 1) := by decide +kernel
end
section
theorem dX3_number_16 : decode cX3_number 16 = .ok (.iload_n 2, 1) := by decide +kernel
theorem dX3_number_17 : decode cX3_number 17 = .ok (.iload_n 3, 1) := by decide +kernel
theorem dX3_number_18 : decode cX3_number 18 = .ok (.bipush 6, 2) := by decide +kernel
theorem dX3_number_20 : decode cX3_number 20 = .ok (.invokevirtual 92, 3) := by decide +kernel
theorem dX3_number_23 : decode cX3_number 23 = .ok (.invokestatic 95, 3) := by decide +kernel
theorem dX3_number_26 : decode cX3_number 26 = .ok (.ireturn, 1) := by decide +kernel
set_option maxRecDepth 20000 in
theorem ggX3_numberByHand_X3_requireScenario : GoodIn wsX3_numberByHand wsX3_requireScenario := goodIn_ca (goodIn_r _ [7, 8, 9, 10, 66, 67, 68, 69, 70, 71, 72, 80, 81, 82, 83, 84] (by decide +kernel) (by decide +kernel)) (goodIn_sub (fun _ h => List.mem_cons_of_mem _ (List.mem_append_left _ (List.mem_append_right _ h))) (by decide +kernel))
set_option maxRecDepth 20000 in
theorem gX3_numberByHand_X3_requireScenario : GoodIn wsX3_numberByHand (wsV RX3 55 RX3 yX3_requireScenario wsX3_requireScenario) := goodIn_app (goodIn_of _ (by decide +kernel)) ggX3_numberByHand_X3_requireScenario
set_option maxRecDepth 20000 in
theorem ggX3_numberByHand_X3_requireLine : GoodIn wsX3_numberByHand wsX3_requireLine := goodIn_ca (goodIn_r _ [14, 8, 9, 1, 66, 67, 68, 69, 70, 71, 72, 73, 74, 75, 76, 77, 78, 79] (by decide +kernel) (by decide +kernel)) (goodIn_sub (fun _ h => List.mem_cons_of_mem _ (List.mem_append_left _ (List.mem_append_right _ h))) (by decide +kernel))
set_option maxRecDepth 20000 in
theorem gX3_numberByHand_X3_requireLine : GoodIn wsX3_numberByHand (wsV RX3 68 RX3 yX3_requireLine wsX3_requireLine) := goodIn_app (goodIn_of _ (by decide +kernel)) ggX3_numberByHand_X3_requireLine
set_option maxRecDepth 20000 in
theorem ggX3_numberByHand_X3_requireMonth : GoodIn wsX3_numberByHand wsX3_requireMonth := goodIn_ca (goodIn_r _ [17, 8, 9] (by decide +kernel) (by decide +kernel)) (goodIn_sub (fun _ h => List.mem_cons_of_mem _ (List.mem_append_left _ (List.mem_append_right _ h))) (by decide +kernel))
set_option maxRecDepth 20000 in
theorem gX3_numberByHand_X3_requireMonth : GoodIn wsX3_numberByHand (va_wsS RX3 58 yX3_requireMonth wsX3_requireMonth) := goodIn_app (goodIn_of _ (by decide +kernel)) ggX3_numberByHand_X3_requireMonth
set_option maxRecDepth 20000 in
theorem ggX3_numberByHand_X3_fillInputs : GoodIn wsX3_numberByHand wsX3_fillInputs := goodIn_ca (goodIn_r _ [21, 22, 2, 23, 24, 25, 26, 6, 27, 10, 28, 29, 30, 31, 32, 33, 34, 35, 36, 66, 67, 68, 69, 70, 71, 72, 80, 81, 82, 83, 84] (by decide +kernel) (by decide +kernel)) (goodIn_sub (fun _ h => List.mem_cons_of_mem _ (List.mem_append_left _ (List.mem_append_left _ (List.mem_append_right _ h)))) (by decide +kernel))
set_option maxRecDepth 20000 in
theorem gX3_numberByHand_X3_fillInputs : GoodIn wsX3_numberByHand (wsV RX3 98 RX3 yX3_fillInputs wsX3_fillInputs) := goodIn_app (goodIn_of _ (by decide +kernel)) ggX3_numberByHand_X3_fillInputs
set_option maxRecDepth 20000 in
theorem ggX3_numberByHand_X1_findAll : GoodIn wsX3_numberByHand wsX1_findAll := goodIn_ca (goodIn_r _ [40, 41, 42, 43, 44, 45, 38, 46, 47, 48, 49, 50, 51, 52, 6, 53, 54, 55, 56, 57, 58, 59, 73, 74, 75, 76, 77, 78, 79] (by decide +kernel) (by decide +kernel)) (goodIn_sub (fun _ h => List.mem_cons_of_mem _ (List.mem_append_left _ (List.mem_append_left _ (List.mem_append_right _ h)))) (by decide +kernel))
set_option maxRecDepth 20000 in
theorem gX3_numberByHand_X1_findAll_n102 : GoodIn wsX3_numberByHand (wsX1_findAll) := ggX3_numberByHand_X1_findAll
set_option maxRecDepth 20000 in
theorem ggX3_numberByHand_X3_required : GoodIn wsX3_numberByHand wsX3_required := goodIn_ca (goodIn_r _ [62, 63, 64, 65] (by decide +kernel) (by decide +kernel)) (goodIn_sub (fun _ h => List.mem_cons_of_mem _ (List.mem_append_right _ h)) (by decide +kernel))
set_option maxRecDepth 20000 in
theorem gX3_numberByHand_X3_required : GoodIn wsX3_numberByHand (va_wsS RX3 95 yX3_required wsX3_required) := goodIn_app (goodIn_of _ (by decide +kernel)) ggX3_numberByHand_X3_required
theorem dX3_numberByHand_0 : decode cX3_numberByHand 0 = .ok (.aload_n 0, 1) := by decide +kernel
theorem dX3_numberByHand_1 : decode cX3_numberByHand 1 = .ok (.iload_n 1, 1) := by decide +kernel
theorem dX3_numberByHand_2 : decode cX3_numberByHand 2 = .ok (.invokevirtual 55, 3) := by decide +kernel
theorem dX3_numberByHand_5 : decode cX3_numberByHand 5 = .ok (.aload_n 0, 1) := by decide +kernel
theorem dX3_numberByHand_6 : decode cX3_numberByHand 6 = .ok (.iload_n 2, 1) := by decide +kernel
theorem dX3_numberByHand_7 : decode cX3_numberByHand 7 = .ok (.invokevirtual 68, 3) := by decide +kernel
theorem dX3_numberByHand_10 : decode cX3_numberByHand 10 = .ok (.iload_n 3, 1) := by decide +kernel
theorem dX3_numberByHand_11 : decode cX3_numberByHand 11 = .ok (.invokestatic 58, 3) := by decide +kernel
theorem dX3_numberByHand_14 : decode cX3_numberByHand 14 = .ok (.aload_n 0, 1) := by decide +kernel
theorem dX3_numberByHand_15 : decode cX3_numberByHand 15 = .ok (.iload_n 1, 1) := by decide +kernel
theorem dX3_numberByHand_16 : decode cX3_numberByHand 16 = .ok (.iload_n 3, 1) := by decide +kernel
theorem dX3_numberByHand_17 : decode cX3_numberByHand 17 = .ok (.bipush 6, 2) := by decide +kernel
theorem dX3_numberByHand_19 : decode cX3_numberByHand 19 = .ok (.invokevirtual 98, 3) := by decide +kernel
theorem dX3_numberByHand_22 : decode cX3_numberByHand 22 = .ok (.aload_n 0, 1) := by decide +kernel
theorem dX3_numberByHand_23 : decode cX3_numberByHand 23 = .ok (.getfield 23, 3) := by decide +kernel
theorem dX3_numberByHand_26 : decode cX3_numberByHand 26 = .ok (.iload_n 3, 1) := by decide +kernel
theorem dX3_numberByHand_27 : decode cX3_numberByHand 27 = .ok (.aload_n 0, 1) := by decide +kernel
theorem dX3_numberByHand_28 : decode cX3_numberByHand 28 = .ok (.getfield 34, 3) := by decide +kernel
theorem dX3_numberByHand_31 : decode cX3_numberByHand 31 = .ok (.invokevirtual 102, 3) := by decide +kernel
theorem dX3_numberByHand_34 : decode cX3_numberByHand 34 = .ok (.aload_n 0, 1) := by decide +kernel
theorem dX3_numberByHand_35 : decode cX3_numberByHand 35 = .ok (.getfield 23, 3) := by decide +kernel
theorem dX3_numberByHand_38 : decode cX3_numberByHand 38 = .ok (.getfield 106, 3) := by decide +kernel
theorem dX3_numberByHand_41 : decode cX3_numberByHand 41 = .ok (.iload_n 2, 1) := by decide +kernel
theorem dX3_numberByHand_42 : decode cX3_numberByHand 42 = .ok (.iaload, 1) := by decide +kernel
theorem dX3_numberByHand_43 : decode cX3_numberByHand 43 = .ok (.invokestatic 95, 3) := by decide +kernel
theorem dX3_numberByHand_46 : decode cX3_numberByHand 46 = .ok (.ireturn, 1) := by decide +kernel
set_option maxRecDepth 20000 in
theorem ggX3_year_X3_requireScenario : GoodIn wsX3_year wsX3_requireScenario := goodIn_ca (goodIn_r _ [5, 6, 7, 8, 70, 71, 72, 73, 74, 75, 76, 77, 78, 79, 80, 81] (by decide +kernel) (by decide +kernel)) (goodIn_sub (fun _ h => List.mem_cons_of_mem _ (List.mem_append_left _ (List.mem_append_left _ (List.mem_append_right _ h)))) (by decide +kernel))
set_option maxRecDepth 20000 in
theorem gX3_year_X3_requireScenario : GoodIn wsX3_year (wsV RX3 55 RX3 yX3_requireScenario wsX3_requireScenario) := goodIn_app (goodIn_of _ (by decide +kernel)) ggX3_year_X3_requireScenario
set_option maxRecDepth 20000 in
theorem ggX3_year_X3_requireLine : GoodIn wsX3_year wsX3_requireLine := goodIn_ca (goodIn_r _ [12, 6, 7, 13, 70, 71, 72, 73, 74, 75, 76, 82, 83, 84, 85, 86, 87, 88] (by decide +kernel) (by decide +kernel)) (goodIn_sub (fun _ h => List.mem_cons_of_mem _ (List.mem_append_left _ (List.mem_append_left _ (List.mem_append_right _ h)))) (by decide +kernel))
set_option maxRecDepth 20000 in
theorem gX3_year_X3_requireLine : GoodIn wsX3_year (wsV RX3 68 RX3 yX3_requireLine wsX3_requireLine) := goodIn_app (goodIn_of _ (by decide +kernel)) ggX3_year_X3_requireLine
set_option maxRecDepth 20000 in
theorem ggX3_year_X3_numberIn : GoodIn wsX3_year wsX3_numberIn := goodIn_ca (goodIn_r _ [17, 13, 18, 19, 20, 21, 4, 22, 23, 24, 25, 26, 27, 28, 8, 29, 30, 31, 32, 33, 34, 35, 36, 37, 38, 39, 40, 41, 42, 43, 44, 45, 46, 47, 48, 49, 50, 51, 52, 53, 54, 55, 56, 57, 58, 59, 60, 61, 62, 63, 70, 71, 72, 73, 74, 75, 76, 77, 78, 79, 80, 81, 82, 83, 84, 85, 86, 87, 88] (by decide +kernel) (by decide +kernel)) (goodIn_sub (fun _ h => List.mem_cons_of_mem _ (List.mem_append_left _ (List.mem_append_right _ h))) (by decide +kernel))
set_option maxRecDepth 20000 in
theorem gX3_year_X3_numberIn : GoodIn wsX3_year (wsV RX3 92 RX3 yX3_numberIn wsX3_numberIn) := goodIn_app (goodIn_of _ (by decide +kernel)) ggX3_year_X3_numberIn
set_option maxRecDepth 20000 in
theorem ggX3_year_X3_required : GoodIn wsX3_year wsX3_required := goodIn_ca (goodIn_r _ [66, 67, 68, 69] (by decide +kernel) (by decide +kernel)) (goodIn_sub (fun _ h => List.mem_cons_of_mem _ (List.mem_append_right _ h)) (by decide +kernel))
set_option maxRecDepth 20000 in
theorem gX3_year_X3_required : GoodIn wsX3_year (va_wsS RX3 95 yX3_required wsX3_required) := goodIn_app (goodIn_of _ (by decide +kernel)) ggX3_year_X3_required
theorem dX3_year_0 : decode cX3_year 0 = .ok (.aload_n 0, 1) := by decide +kernel
theorem dX3_year_1 : decode cX3_year 1 = .ok (.iload_n 1, 1) := by decide +kernel
theorem dX3_year_2 : decode cX3_year 2 = .ok (.invokevirtual 55, 3) := by decide +kernel
theorem dX3_year_5 : decode cX3_year 5 = .ok (.aload_n 0, 1) := by decide +kernel
theorem dX3_year_6 : decode cX3_year 6 = .ok (.iload_n 2, 1) := by decide +kernel
theorem dX3_year_7 : decode cX3_year 7 = .ok (.invokevirtual 68, 3) := by decide +kernel
theorem dX3_year_10 : decode cX3_year 10 = .ok (.lconst 0, 1) := by decide +kernel
theorem dX3_year_11 : decode cX3_year 11 = .ok (.lstore_n 3, 1) := by decide +kernel
theorem dX3_year_12 : decode cX3_year 12 = .ok (.iconst 0, 1) := by decide +kernel
theorem dX3_year_13 : decode cX3_year 13 = .ok (.istore 5, 2) := by decide +kernel
theorem dX3_year_15 : decode cX3_year 15 = .ok (.iload 5, 2) := by decide +kernel
theorem dX3_year_17 : decode cX3_year 17 = .ok (.bipush 12, 2) := by decide +kernel
theorem dX3_year_19 : decode cX3_year 19 = .ok (.if_icmp .ge 26, 3) := by decide +kernel
theorem dX3_year_22 : decode cX3_year 22 = .ok (.lload_n 3, 1) := by decide +kernel
theorem dX3_year_23 : decode cX3_year 23 = .ok (.aload_n 0, 1) := by decide +kernel
theorem dX3_year_24 : decode cX3_year 24 = .ok (.iload_n 1, 1) := by decide +kernel
theorem dX3_year_25 : decode cX3_year 25 = .ok (.iload_n 2, 1) := by decide +kernel
theorem dX3_year_26 : decode cX3_year 26 = .ok (.iload 5, 2) := by decide +kernel
theorem dX3_year_28 : decode cX3_year 28 = .ok (.bipush 6, 2) := by decide +kernel
theorem dX3_year_30 : decode cX3_year 30 = .ok (.invokevirtual 92, 3) := by decide +kernel
theorem dX3_year_33 : decode cX3_year 33 = .ok (.invokestatic 95, 3) := by decide +kernel
theorem dX3_year_36 : decode cX3_year 36 = .ok (.i2l, 1) := by decide +kernel
theorem dX3_year_37 : decode cX3_year 37 = .ok (.ladd, 1) := by decide +kernel
theorem dX3_year_38 : decode cX3_year 38 = .ok (.lstore_n 3, 1) := by decide +kernel
theorem dX3_year_39 : decode cX3_year 39 = .ok (.iinc 5 1, 3) := by decide +kernel
theorem dX3_year_42 : decode cX3_year 42 = .ok (.goto (-27), 3) := by decide +kernel
theorem dX3_year_45 : decode cX3_year 45 = .ok (.lload_n 3, 1) := by decide +kernel
theorem dX3_year_46 : decode cX3_year 46 = .ok (.lreturn, 1) := by decide +kernel
set_option maxRecDepth 20000 in
theorem ggX3_effect_X3_requireScenario : GoodIn wsX3_effect wsX3_requireScenario := goodIn_ca (goodIn_r _ [5, 6, 7, 8, 77, 78, 79, 80, 81, 82, 83, 84, 85, 86, 87, 88] (by decide +kernel) (by decide +kernel)) (goodIn_sub (fun _ h => List.mem_cons_of_mem _ (List.mem_append_left _ (List.mem_append_left _ (List.mem_append_right _ h)))) (by decide +kernel))
set_option maxRecDepth 20000 in
theorem gX3_effect_X3_requireScenario : GoodIn wsX3_effect (wsV RX3 55 RX3 yX3_requireScenario wsX3_requireScenario) := goodIn_app (goodIn_of _ (by decide +kernel)) ggX3_effect_X3_requireScenario
set_option maxRecDepth 20000 in
theorem ggX3_effect_X3_requireDriver : GoodIn wsX3_effect wsX3_requireDriver := goodIn_ca (goodIn_r _ [12, 6, 7, 13, 77, 78, 79, 80, 81, 82, 83] (by decide +kernel) (by decide +kernel)) (goodIn_sub (fun _ h => List.mem_cons_of_mem _ (List.mem_append_left _ (List.mem_append_left _ (List.mem_append_right _ h)))) (by decide +kernel))
set_option maxRecDepth 20000 in
theorem gX3_effect_X3_requireDriver : GoodIn wsX3_effect (wsV RX3 48 RX3 yX3_requireDriver wsX3_requireDriver) := goodIn_app (goodIn_of _ (by decide +kernel)) ggX3_effect_X3_requireDriver
set_option maxRecDepth 20000 in
theorem ggX3_effect_X3_requireLine : GoodIn wsX3_effect wsX3_requireLine := goodIn_ca (goodIn_r _ [17, 6, 7, 18, 77, 78, 79, 80, 81, 82, 83, 89, 90, 91, 92, 93, 94, 95] (by decide +kernel) (by decide +kernel)) (goodIn_sub (fun _ h => List.mem_cons_of_mem _ (List.mem_append_left _ (List.mem_append_left _ (List.mem_append_right _ h)))) (by decide +kernel))
set_option maxRecDepth 20000 in
theorem gX3_effect_X3_requireLine : GoodIn wsX3_effect (wsV RX3 68 RX3 yX3_requireLine wsX3_requireLine) := goodIn_app (goodIn_of _ (by decide +kernel)) ggX3_effect_X3_requireLine
set_option maxRecDepth 20000 in
theorem ggX3_effect_X3_requireMonth : GoodIn wsX3_effect wsX3_requireMonth := goodIn_ca (goodIn_r _ [21, 6, 7] (by decide +kernel) (by decide +kernel)) (goodIn_sub (fun _ h => List.mem_cons_of_mem _ (List.mem_append_left _ (List.mem_append_left _ (List.mem_append_right _ h)))) (by decide +kernel))
set_option maxRecDepth 20000 in
theorem gX3_effect_X3_requireMonth : GoodIn wsX3_effect (va_wsS RX3 58 yX3_requireMonth wsX3_requireMonth) := goodIn_app (goodIn_of _ (by decide +kernel)) ggX3_effect_X3_requireMonth
set_option maxRecDepth 20000 in
theorem ggX3_effect_X3_numberIn : GoodIn wsX3_effect wsX3_numberIn := goodIn_ca (goodIn_r _ [25, 18, 26, 27, 28, 29, 4, 30, 13, 31, 32, 33, 34, 35, 8, 36, 37, 38, 39, 40, 41, 42, 43, 44, 45, 46, 47, 48, 49, 50, 51, 52, 53, 54, 55, 56, 57, 58, 59, 60, 61, 62, 63, 64, 65, 66, 67, 68, 69, 70, 77, 78, 79, 80, 81, 82, 83, 84, 85, 86, 87, 88, 89, 90, 91, 92, 93, 94, 95] (by decide +kernel) (by decide +kernel)) (goodIn_sub (fun _ h => List.mem_cons_of_mem _ (List.mem_append_left _ (List.mem_append_right _ h))) (by decide +kernel))
set_option maxRecDepth 20000 in
theorem gX3_effect_X3_numberIn : GoodIn wsX3_effect (wsV RX3 92 RX3 yX3_numberIn wsX3_numberIn) := goodIn_app (goodIn_of _ (by decide +kernel)) ggX3_effect_X3_numberIn
set_option maxRecDepth 20000 in
theorem ggX3_effect_X3_required : GoodIn wsX3_effect wsX3_required := goodIn_ca (goodIn_r _ [73, 74, 75, 76] (by decide +kernel) (by decide +kernel)) (goodIn_sub (fun _ h => List.mem_cons_of_mem _ (List.mem_append_right _ h)) (by decide +kernel))
set_option maxRecDepth 20000 in
theorem gX3_effect_X3_required : GoodIn wsX3_effect (va_wsS RX3 95 yX3_required wsX3_required) := goodIn_app (goodIn_of _ (by decide +kernel)) ggX3_effect_X3_required
theorem dX3_effect_0 : decode cX3_effect 0 = .ok (.aload_n 0, 1) := by decide +kernel
theorem dX3_effect_1 : decode cX3_effect 1 = .ok (.iload_n 1, 1) := by decide +kernel
theorem dX3_effect_2 : decode cX3_effect 2 = .ok (.invokevirtual 55, 3) := by decide +kernel
theorem dX3_effect_5 : decode cX3_effect 5 = .ok (.aload_n 0, 1) := by decide +kernel
theorem dX3_effect_6 : decode cX3_effect 6 = .ok (.iload_n 2, 1) := by decide +kernel
theorem dX3_effect_7 : decode cX3_effect 7 = .ok (.invokevirtual 48, 3) := by decide +kernel
theorem dX3_effect_10 : decode cX3_effect 10 = .ok (.aload_n 0, 1) := by decide +kernel
theorem dX3_effect_11 : decode cX3_effect 11 = .ok (.iload_n 3, 1) := by decide +kernel
theorem dX3_effect_12 : decode cX3_effect 12 = .ok (.invokevirtual 68, 3) := by decide +kernel
theorem dX3_effect_15 : decode cX3_effect 15 = .ok (.iload 4, 2) := by decide +kernel
theorem dX3_effect_17 : decode cX3_effect 17 = .ok (.invokestatic 58, 3) := by decide +kernel
theorem dX3_effect_20 : decode cX3_effect 20 = .ok (.aload_n 0, 1) := by decide +kernel
theorem dX3_effect_21 : decode cX3_effect 21 = .ok (.iload_n 1, 1) := by decide +kernel
theorem dX3_effect_22 : decode cX3_effect 22 = .ok (.iload_n 3, 1) := by decide +kernel
theorem dX3_effect_23 : decode cX3_effect 23 = .ok (.iload 4, 2) := by decide +kernel
theorem dX3_effect_25 : decode cX3_effect 25 = .ok (.iload_n 2, 1) := by decide +kernel
theorem dX3_effect_26 : decode cX3_effect 26 = .ok (.iconst 1, 1) := by decide +kernel
theorem dX3_effect_27 : decode cX3_effect 27 = .ok (.iadd, 1) := by decide +kernel
theorem dX3_effect_28 : decode cX3_effect 28 = .ok (.invokevirtual 92, 3) := by decide +kernel
theorem dX3_effect_31 : decode cX3_effect 31 = .ok (.invokestatic 95, 3) := by decide +kernel
theorem dX3_effect_34 : decode cX3_effect 34 = .ok (.istore 5, 2) := by decide +kernel
theorem dX3_effect_36 : decode cX3_effect 36 = .ok (.aload_n 0, 1) := by decide +kernel
theorem dX3_effect_37 : decode cX3_effect 37 = .ok (.iload_n 1, 1) := by decide +kernel
theorem dX3_effect_38 : decode cX3_effect 38 = .ok (.iload_n 3, 1) := by decide +kernel
theorem dX3_effect_39 : decode cX3_effect 39 = .ok (.iload 4, 2) := by decide +kernel
theorem dX3_effect_41 : decode cX3_effect 41 = .ok (.iload_n 2, 1) := by decide +kernel
theorem dX3_effect_42 : decode cX3_effect 42 = .ok (.invokevirtual 92, 3) := by decide +kernel
theorem dX3_effect_45 : decode cX3_effect 45 = .ok (.invokestatic 95, 3) := by decide +kernel
theorem dX3_effect_48 : decode cX3_effect 48 = .ok (.istore 6, 2) := by decide +kernel
theorem dX3_effect_50 : decode cX3_effect 50 = .ok (.iload 5, 2) := by decide +kernel
theorem dX3_effect_52 : decode cX3_effect 52 = .ok (.iload 6, 2) := by decide +kernel
theorem dX3_effect_54 : decode cX3_effect 54 = .ok (.isub, 1) := by decide +kernel
theorem dX3_effect_55 : decode cX3_effect 55 = .ok (.ireturn, 1) := by decide +kernel
set_option maxRecDepth 20000 in
theorem ggX3_seek_X3_requireDriver : GoodIn wsX3_seek wsX3_requireDriver := goodIn_ca (goodIn_r _ [10, 11, 12, 13, 66, 67, 68, 69, 70, 71, 72] (by decide +kernel) (by decide +kernel)) (goodIn_sub (fun _ h => List.mem_cons_of_mem _ (List.mem_append_right _ h)) (by decide +kernel))
set_option maxRecDepth 20000 in
theorem gX3_seek_X3_requireDriver : GoodIn wsX3_seek (wsV RX3 48 RX3 yX3_requireDriver wsX3_requireDriver) := goodIn_app (goodIn_of _ (by decide +kernel)) ggX3_seek_X3_requireDriver
set_option maxRecDepth 20000 in
theorem ggX3_seek_X3_requireLine : GoodIn wsX3_seek wsX3_requireLine := goodIn_ca (goodIn_r _ [17, 11, 12, 3, 66, 67, 68, 69, 70, 71, 72, 73, 74, 75, 76, 77, 78, 79] (by decide +kernel) (by decide +kernel)) (goodIn_sub (fun _ h => List.mem_cons_of_mem _ (List.mem_append_right _ h)) (by decide +kernel))
set_option maxRecDepth 20000 in
theorem gX3_seek_X3_requireLine : GoodIn wsX3_seek (wsV RX3 68 RX3 yX3_requireLine wsX3_requireLine) := goodIn_app (goodIn_of _ (by decide +kernel)) ggX3_seek_X3_requireLine
set_option maxRecDepth 20000 in
theorem ggX3_seek_X3_requireMonth : GoodIn wsX3_seek wsX3_requireMonth := goodIn_ca (goodIn_r _ [20, 11, 12] (by decide +kernel) (by decide +kernel)) (goodIn_sub (fun _ h => List.mem_cons_of_mem _ (List.mem_append_right _ h)) (by decide +kernel))
set_option maxRecDepth 20000 in
theorem gX3_seek_X3_requireMonth : GoodIn wsX3_seek (va_wsS RX3 58 yX3_requireMonth wsX3_requireMonth) := goodIn_app (goodIn_of _ (by decide +kernel)) ggX3_seek_X3_requireMonth
set_option maxRecDepth 20000 in
theorem ggX3_seek_X3_fillInputs : GoodIn wsX3_seek wsX3_fillInputs := goodIn_ca (goodIn_r _ [24, 13, 4, 25, 26, 27, 28, 9, 29, 30, 31, 32, 33, 34, 35, 36, 37, 38, 39, 66, 67, 68, 69, 70, 71, 72, 80, 81, 82, 83, 84] (by decide +kernel) (by decide +kernel)) (goodIn_sub (fun _ h => List.mem_cons_of_mem _ (List.mem_append_left _ (List.mem_append_left _ (List.mem_append_right _ h)))) (by decide +kernel))
set_option maxRecDepth 20000 in
theorem gX3_seek_X3_fillInputs : GoodIn wsX3_seek (wsV RX3 98 RX3 yX3_fillInputs wsX3_fillInputs) := goodIn_app (goodIn_of _ (by decide +kernel)) ggX3_seek_X3_fillInputs
set_option maxRecDepth 20000 in
theorem ggX3_seek_X1_markNeeded : GoodIn wsX3_seek wsX1_markNeeded := goodIn_ca (goodIn_r _ [43, 44, 45, 46, 47, 48, 49, 50, 9, 51, 73, 74, 75, 76, 77, 78, 79] (by decide +kernel) (by decide +kernel)) (goodIn_sub (fun _ h => List.mem_cons_of_mem _ (List.mem_append_left _ (List.mem_append_left _ (List.mem_append_right _ h)))) (by decide +kernel))
set_option maxRecDepth 20000 in
theorem gX3_seek_X1_markNeeded_n109 : GoodIn wsX3_seek (wsX1_markNeeded) := ggX3_seek_X1_markNeeded
set_option maxRecDepth 20000 in
theorem ggX3_seek_X1_findNeeded : GoodIn wsX3_seek wsX1_findNeeded := goodIn_ca (goodIn_r _ [54, 44, 55, 56, 57, 58, 41, 59, 46, 47, 45, 48, 49, 50, 9, 51, 60, 61, 62, 63, 64, 65, 73, 74, 75, 76, 77, 78, 79] (by decide +kernel) (by decide +kernel)) (goodIn_sub (fun _ h => List.mem_cons_of_mem _ (List.mem_append_left _ (List.mem_append_left _ (List.mem_append_right _ h)))) (by decide +kernel))
set_option maxRecDepth 20000 in
theorem gX3_seek_X1_findNeeded_n113 : GoodIn wsX3_seek (wsX1_findNeeded) := ggX3_seek_X1_findNeeded
theorem dX3_seek_0 : decode cX3_seek 0 = .ok (.aload_n 0, 1) := by decide +kernel
theorem dX3_seek_1 : decode cX3_seek 1 = .ok (.iload_n 1, 1) := by decide +kernel
theorem dX3_seek_2 : decode cX3_seek 2 = .ok (.invokevirtual 48, 3) := by decide +kernel
theorem dX3_seek_5 : decode cX3_seek 5 = .ok (.aload_n 0, 1) := by decide +kernel
theorem dX3_seek_6 : decode cX3_seek 6 = .ok (.iload_n 2, 1) := by decide +kernel
theorem dX3_seek_7 : decode cX3_seek 7 = .ok (.invokevirtual 68, 3) := by decide +kernel
theorem dX3_seek_10 : decode cX3_seek 10 = .ok (.iload_n 3, 1) := by decide +kernel
theorem dX3_seek_11 : decode cX3_seek 11 = .ok (.invokestatic 58, 3) := by decide +kernel
theorem dX3_seek_14 : decode cX3_seek 14 = .ok (.aload_n 0, 1) := by decide +kernel
theorem dX3_seek_15 : decode cX3_seek 15 = .ok (.iconst 0, 1) := by decide +kernel
theorem dX3_seek_16 : decode cX3_seek 16 = .ok (.iload_n 3, 1) := by decide +kernel
theorem dX3_seek_17 : decode cX3_seek 17 = .ok (.bipush 6, 2) := by decide +kernel
theorem dX3_seek_19 : decode cX3_seek 19 = .ok (.invokevirtual 98, 3) := by decide +kernel
theorem dX3_seek_22 : decode cX3_seek 22 = .ok (.aload_n 0, 1) := by decide +kernel
theorem dX3_seek_23 : decode cX3_seek 23 = .ok (.getfield 23, 3) := by decide +kernel
theorem dX3_seek_26 : decode cX3_seek 26 = .ok (.iload_n 2, 1) := by decide +kernel
theorem dX3_seek_27 : decode cX3_seek 27 = .ok (.iload_n 3, 1) := by decide +kernel
theorem dX3_seek_28 : decode cX3_seek 28 = .ok (.invokevirtual 109, 3) := by decide +kernel
theorem dX3_seek_31 : decode cX3_seek 31 = .ok (.iconst 0, 1) := by decide +kernel
theorem dX3_seek_32 : decode cX3_seek 32 = .ok (.istore 5, 2) := by decide +kernel
theorem dX3_seek_34 : decode cX3_seek 34 = .ok (.iload 5, 2) := by decide +kernel
theorem dX3_seek_36 : decode cX3_seek 36 = .ok (.sipush 999, 3) := by decide +kernel
theorem dX3_seek_39 : decode cX3_seek 39 = .ok (.if_icmp .gt 49, 3) := by decide +kernel
theorem dX3_seek_42 : decode cX3_seek 42 = .ok (.aload_n 0, 1) := by decide +kernel
theorem dX3_seek_43 : decode cX3_seek 43 = .ok (.getfield 34, 3) := by decide +kernel
theorem dX3_seek_46 : decode cX3_seek 46 = .ok (.iload_n 1, 1) := by decide +kernel
theorem dX3_seek_47 : decode cX3_seek 47 = .ok (.iload 5, 2) := by decide +kernel
theorem dX3_seek_49 : decode cX3_seek 49 = .ok (.iastore, 1) := by decide +kernel
theorem dX3_seek_50 : decode cX3_seek 50 = .ok (.aload_n 0, 1) := by decide +kernel
theorem dX3_seek_51 : decode cX3_seek 51 = .ok (.getfield 23, 3) := by decide +kernel
theorem dX3_seek_54 : decode cX3_seek 54 = .ok (.iload_n 2, 1) := by decide +kernel
theorem dX3_seek_55 : decode cX3_seek 55 = .ok (.iload_n 3, 1) := by decide +kernel
theorem dX3_seek_56 : decode cX3_seek 56 = .ok (.aload_n 0, 1) := by decide +kernel
theorem dX3_seek_57 : decode cX3_seek 57 = .ok (.getfield 34, 3) := by decide +kernel
theorem dX3_seek_60 : decode cX3_seek 60 = .ok (.invokevirtual 113, 3) := by decide +kernel
theorem dX3_seek_63 : decode cX3_seek 63 = .ok (.istore 6, 2) := by decide +kernel
theorem dX3_seek_65 : decode cX3_seek 65 = .ok (.iload 6, 2) := by decide +kernel
theorem dX3_seek_67 : decode cX3_seek 67 = .ok (.ldc 117, 2) := by decide +kernel
theorem dX3_seek_69 : decode cX3_seek 69 = .ok (.if_icmp .eq 13, 3) := by decide +kernel
theorem dX3_seek_72 : decode cX3_seek 72 = .ok (.iload 6, 2) := by decide +kernel
theorem dX3_seek_74 : decode cX3_seek 74 = .ok (.iload 4, 2) := by decide +kernel
theorem dX3_seek_76 : decode cX3_seek 76 = .ok (.if_icmp .lt 6, 3) := by decide +kernel
theorem dX3_seek_79 : decode cX3_seek 79 = .ok (.iload 5, 2) := by decide +kernel
theorem dX3_seek_81 : decode cX3_seek 81 = .ok (.ireturn, 1) := by decide +kernel
theorem dX3_seek_82 : decode cX3_seek 82 = .ok (.iinc 5 1, 3) := by decide +kernel
theorem dX3_seek_85 : decode cX3_seek 85 = .ok (.goto (-51), 3) := by decide +kernel
theorem dX3_seek_88 : decode cX3_seek 88 = .ok (.new 118, 3) := by decide +kernel
theorem dX3_seek_91 : decode cX3_seek 91 = .ok (.dup, 1) := by decide +kernel
theorem dX3_seek_92 : decode cX3_seek 92 = .ok (.invokespecial 120, 3) := by decide +kernel
theorem dX3_seek_95 : decode cX3_seek 95 = .ok (.athrow, 1) := by decide +kernel
set_option maxRecDepth 20000 in
theorem ggX3_actual_X3_requireLine : GoodIn wsX3_actual wsX3_requireLine := goodIn_ca (goodIn_r _ [11, 12, 13, 6, 83, 84, 85, 86, 87, 88, 89, 90, 91, 92, 93, 94, 95, 96] (by decide +kernel) (by decide +kernel)) (goodIn_sub (fun _ h => List.mem_cons_of_mem _ (List.mem_append_right _ h)) (by decide +kernel))
set_option maxRecDepth 20000 in
theorem gX3_actual_X3_requireLine : GoodIn wsX3_actual (wsV RX3 68 RX3 yX3_requireLine wsX3_requireLine) := goodIn_app (goodIn_of _ (by decide +kernel)) ggX3_actual_X3_requireLine
set_option maxRecDepth 20000 in
theorem ggX3_actual_X3_requireMonth : GoodIn wsX3_actual wsX3_requireMonth := goodIn_ca (goodIn_r _ [16, 12, 13] (by decide +kernel) (by decide +kernel)) (goodIn_sub (fun _ h => List.mem_cons_of_mem _ (List.mem_append_right _ h)) (by decide +kernel))
set_option maxRecDepth 20000 in
theorem gX3_actual_X3_requireMonth : GoodIn wsX3_actual (va_wsS RX3 58 yX3_requireMonth wsX3_requireMonth) := goodIn_app (goodIn_of _ (by decide +kernel)) ggX3_actual_X3_requireMonth
set_option maxRecDepth 20000 in
theorem ggX3_actual_X3_cell : GoodIn wsX3_actual wsX3_cell := goodIn_r _ [19] (by decide +kernel) (by decide +kernel)
set_option maxRecDepth 20000 in
theorem gX3_actual_X3_cell : GoodIn wsX3_actual (va_wsS RX3 129 yX3_cell wsX3_cell) := goodIn_app (goodIn_of _ (by decide +kernel)) ggX3_actual_X3_cell
set_option maxRecDepth 20000 in
theorem ggX3_actual_X3_reopenDrifted : GoodIn wsX3_actual wsX3_reopenDrifted := goodIn_ca (goodIn_r _ [23, 6, 24, 25, 26, 27, 28, 10, 29, 30, 31, 32, 33, 34, 35, 36, 37, 38, 39, 40, 41, 42, 43, 44, 45, 46, 47, 48, 49, 50, 51, 52, 53, 54, 55, 56, 57, 58, 59, 60, 18, 19, 61, 62, 63, 64, 65, 66, 17, 67, 68, 69, 70, 71, 72, 73, 74, 75, 76, 77, 78, 79, 80, 81, 82, 83, 84, 85, 86, 87, 88, 89, 90, 91, 92, 93, 94, 95, 96, 97, 98, 99, 100, 101, 102, 103, 104] (by decide +kernel) (by decide +kernel)) (goodIn_sub (fun _ h => List.mem_cons_of_mem _ (List.mem_append_left _ (List.mem_append_right _ h))) (by decide +kernel))
set_option maxRecDepth 20000 in
theorem gX3_actual_X3_reopenDrifted : GoodIn wsX3_actual (wsV RX3 51 RX3 yX3_reopenDrifted wsX3_reopenDrifted) := goodIn_app (goodIn_of _ (by decide +kernel)) ggX3_actual_X3_reopenDrifted
theorem dX3_actual_0 : decode cX3_actual 0 = .ok (.aload_n 0, 1) := by decide +kernel
theorem dX3_actual_1 : decode cX3_actual 1 = .ok (.iload_n 1, 1) := by decide +kernel
theorem dX3_actual_2 : decode cX3_actual 2 = .ok (.invokevirtual 68, 3) := by decide +kernel
theorem dX3_actual_5 : decode cX3_actual 5 = .ok (.iload_n 2, 1) := by decide +kernel
theorem dX3_actual_6 : decode cX3_actual 6 = .ok (.invokestatic 58, 3) := by decide +kernel
theorem dX3_actual_9 : decode cX3_actual 9 = .ok (.iload_n 2, 1) := by decide +kernel
theorem dX3_actual_10 : decode cX3_actual 10 = .ok (.aload_n 0, 1) := by decide +kernel
theorem dX3_actual_11 : decode cX3_actual 11 = .ok (.getfield 121, 3) := by decide +kernel
theorem dX3_actual_14 : decode cX3_actual 14 = .ok (.if_icmp .gt 15, 3) := by decide +kernel
theorem dX3_actual_17 : decode cX3_actual 17 = .ok (.iload_n 3, 1) := by decide +kernel
theorem dX3_actual_18 : decode cX3_actual 18 = .ok (.ldc 124, 2) := by decide +kernel
theorem dX3_actual_20 : decode cX3_actual 20 = .ok (.if_icmp .lt 9, 3) := by decide +kernel
theorem dX3_actual_23 : decode cX3_actual 23 = .ok (.iload_n 3, 1) := by decide +kernel
theorem dX3_actual_24 : decode cX3_actual 24 = .ok (.ldc 125, 2) := by decide +kernel
theorem dX3_actual_26 : decode cX3_actual 26 = .ok (.if_icmp .le 11, 3) := by decide +kernel
theorem dX3_actual_29 : decode cX3_actual 29 = .ok (.new 65, 3) := by decide +kernel
theorem dX3_actual_32 : decode cX3_actual 32 = .ok (.dup, 1) := by decide +kernel
theorem dX3_actual_33 : decode cX3_actual 33 = .ok (.invokespecial 67, 3) := by decide +kernel
theorem dX3_actual_36 : decode cX3_actual 36 = .ok (.athrow, 1) := by decide +kernel
theorem dX3_actual_37 : decode cX3_actual 37 = .ok (.aload_n 0, 1) := by decide +kernel
theorem dX3_actual_38 : decode cX3_actual 38 = .ok (.getfield 23, 3) := by decide +kernel
theorem dX3_actual_41 : decode cX3_actual 41 = .ok (.getfield 126, 3) := by decide +kernel
theorem dX3_actual_44 : decode cX3_actual 44 = .ok (.iload_n 1, 1) := by decide +kernel
theorem dX3_actual_45 : decode cX3_actual 45 = .ok (.iload_n 2, 1) := by decide +kernel
theorem dX3_actual_46 : decode cX3_actual 46 = .ok (.invokestatic 129, 3) := by decide +kernel
theorem dX3_actual_49 : decode cX3_actual 49 = .ok (.iload_n 3, 1) := by decide +kernel
theorem dX3_actual_50 : decode cX3_actual 50 = .ok (.iastore, 1) := by decide +kernel
theorem dX3_actual_51 : decode cX3_actual 51 = .ok (.aload_n 0, 1) := by decide +kernel
theorem dX3_actual_52 : decode cX3_actual 52 = .ok (.invokevirtual 51, 3) := by decide +kernel
theorem dX3_actual_55 : decode cX3_actual 55 = .ok (.ireturn, 1) := by decide +kernel
set_option maxRecDepth 20000 in
theorem ggX3_takeActual_X3_requireLine : GoodIn wsX3_takeActual wsX3_requireLine := goodIn_ca (goodIn_r _ [9, 10, 11, 3, 81, 82, 83, 84, 85, 86, 87, 88, 89, 90, 91, 92, 93, 94] (by decide +kernel) (by decide +kernel)) (goodIn_sub (fun _ h => List.mem_cons_of_mem _ (List.mem_append_right _ h)) (by decide +kernel))
set_option maxRecDepth 20000 in
theorem gX3_takeActual_X3_requireLine : GoodIn wsX3_takeActual (wsV RX3 68 RX3 yX3_requireLine wsX3_requireLine) := goodIn_app (goodIn_of _ (by decide +kernel)) ggX3_takeActual_X3_requireLine
set_option maxRecDepth 20000 in
theorem ggX3_takeActual_X3_requireMonth : GoodIn wsX3_takeActual wsX3_requireMonth := goodIn_ca (goodIn_r _ [14, 10, 11] (by decide +kernel) (by decide +kernel)) (goodIn_sub (fun _ h => List.mem_cons_of_mem _ (List.mem_append_right _ h)) (by decide +kernel))
set_option maxRecDepth 20000 in
theorem gX3_takeActual_X3_requireMonth : GoodIn wsX3_takeActual (va_wsS RX3 58 yX3_requireMonth wsX3_requireMonth) := goodIn_app (goodIn_of _ (by decide +kernel)) ggX3_takeActual_X3_requireMonth
set_option maxRecDepth 20000 in
theorem ggX3_takeActual_X3_cell : GoodIn wsX3_takeActual wsX3_cell := goodIn_r _ [17] (by decide +kernel) (by decide +kernel)
set_option maxRecDepth 20000 in
theorem gX3_takeActual_X3_cell : GoodIn wsX3_takeActual (va_wsS RX3 129 yX3_cell wsX3_cell) := goodIn_app (goodIn_of _ (by decide +kernel)) ggX3_takeActual_X3_cell
set_option maxRecDepth 20000 in
theorem ggX3_takeActual_X3_reopenDrifted : GoodIn wsX3_takeActual wsX3_reopenDrifted := goodIn_ca (goodIn_r _ [21, 3, 22, 23, 24, 25, 26, 8, 27, 28, 29, 30, 31, 32, 33, 34, 35, 36, 37, 38, 39, 40, 41, 42, 43, 44, 45, 46, 47, 48, 49, 50, 51, 52, 53, 54, 55, 56, 57, 58, 16, 17, 59, 60, 61, 62, 63, 64, 15, 65, 66, 67, 68, 69, 70, 71, 72, 73, 74, 75, 76, 77, 78, 79, 80, 81, 82, 83, 84, 85, 86, 87, 88, 89, 90, 91, 92, 93, 94, 95, 96, 97, 98, 99, 100, 101, 102] (by decide +kernel) (by decide +kernel)) (goodIn_sub (fun _ h => List.mem_cons_of_mem _ (List.mem_append_left _ (List.mem_append_left _ (List.mem_append_right _ h)))) (by decide +kernel))
set_option maxRecDepth 20000 in
theorem gX3_takeActual_X3_reopenDrifted : GoodIn wsX3_takeActual (wsV RX3 51 RX3 yX3_reopenDrifted wsX3_reopenDrifted) := goodIn_app (goodIn_of _ (by decide +kernel)) ggX3_takeActual_X3_reopenDrifted
theorem dX3_takeActual_0 : decode cX3_takeActual 0 = .ok (.aload_n 0, 1) := by decide +kernel
theorem dX3_takeActual_1 : decode cX3_takeActual 1 = .ok (.iload_n 1, 1) := by decide +kernel
theorem dX3_takeActual_2 : decode cX3_takeActual 2 = .ok (.invokevirtual 68, 3) := by decide +kernel
theorem dX3_takeActual_5 : decode cX3_takeActual 5 = .ok (.iload_n 2, 1) := by decide +kernel
theorem dX3_takeActual_6 : decode cX3_takeActual 6 = .ok (.invokestatic 58, 3) := by decide +kernel
theorem dX3_takeActual_9 : decode cX3_takeActual 9 = .ok (.aload_n 0, 1) := by decide +kernel
theorem dX3_takeActual_10 : decode cX3_takeActual 10 = .ok (.getfield 23, 3) := by decide +kernel
theorem dX3_takeActual_13 : decode cX3_takeActual 13 = .ok (.getfield 126, 3) := by decide +kernel
theorem dX3_takeActual_16 : decode cX3_takeActual 16 = .ok (.iload_n 1, 1) := by decide +kernel
theorem dX3_takeActual_17 : decode cX3_takeActual 17 = .ok (.iload_n 2, 1) := by decide +kernel
theorem dX3_takeActual_18 : decode cX3_takeActual 18 = .ok (.invokestatic 129, 3) := by decide +kernel
theorem dX3_takeActual_21 : decode cX3_takeActual 21 = .ok (.iaload, 1) := by decide +kernel
theorem dX3_takeActual_22 : decode cX3_takeActual 22 = .ok (.ldc 117, 2) := by decide +kernel
theorem dX3_takeActual_24 : decode cX3_takeActual 24 = .ok (.if_icmp .ne 11, 3) := by decide +kernel
theorem dX3_takeActual_27 : decode cX3_takeActual 27 = .ok (.new 118, 3) := by decide +kernel
theorem dX3_takeActual_30 : decode cX3_takeActual 30 = .ok (.dup, 1) := by decide +kernel
theorem dX3_takeActual_31 : decode cX3_takeActual 31 = .ok (.invokespecial 120, 3) := by decide +kernel
theorem dX3_takeActual_34 : decode cX3_takeActual 34 = .ok (.athrow, 1) := by decide +kernel
theorem dX3_takeActual_35 : decode cX3_takeActual 35 = .ok (.aload_n 0, 1) := by decide +kernel
theorem dX3_takeActual_36 : decode cX3_takeActual 36 = .ok (.getfield 23, 3) := by decide +kernel
theorem dX3_takeActual_39 : decode cX3_takeActual 39 = .ok (.getfield 126, 3) := by decide +kernel
theorem dX3_takeActual_42 : decode cX3_takeActual 42 = .ok (.iload_n 1, 1) := by decide +kernel
theorem dX3_takeActual_43 : decode cX3_takeActual 43 = .ok (.iload_n 2, 1) := by decide +kernel
theorem dX3_takeActual_44 : decode cX3_takeActual 44 = .ok (.invokestatic 129, 3) := by decide +kernel
theorem dX3_takeActual_47 : decode cX3_takeActual 47 = .ok (.ldc 117, 2) := by decide +kernel
theorem dX3_takeActual_49 : decode cX3_takeActual 49 = .ok (.iastore, 1) := by decide +kernel
theorem dX3_takeActual_50 : decode cX3_takeActual 50 = .ok (.aload_n 0, 1) := by decide +kernel
theorem dX3_takeActual_51 : decode cX3_takeActual 51 = .ok (.invokevirtual 51, 3) := by decide +kernel
theorem dX3_takeActual_54 : decode cX3_takeActual 54 = .ok (.ireturn, 1) := by decide +kernel
theorem dX3_pass_0 : decode cX3_pass 0 = .ok (.aload_n 0, 1) := by decide +kernel
theorem dX3_pass_1 : decode cX3_pass 1 = .ok (.getfield 121, 3) := by decide +kernel
theorem dX3_pass_4 : decode cX3_pass 4 = .ok (.bipush 11, 2) := by decide +kernel
theorem dX3_pass_6 : decode cX3_pass 6 = .ok (.if_icmp .lt 11, 3) := by decide +kernel
theorem dX3_pass_9 : decode cX3_pass 9 = .ok (.new 45, 3) := by decide +kernel
theorem dX3_pass_12 : decode cX3_pass 12 = .ok (.dup, 1) := by decide +kernel
theorem dX3_pass_13 : decode cX3_pass 13 = .ok (.invokespecial 47, 3) := by decide +kernel
theorem dX3_pass_16 : decode cX3_pass 16 = .ok (.athrow, 1) := by decide +kernel
theorem dX3_pass_17 : decode cX3_pass 17 = .ok (.aload_n 0, 1) := by decide +kernel
theorem dX3_pass_18 : decode cX3_pass 18 = .ok (.dup, 1) := by decide +kernel
theorem dX3_pass_19 : decode cX3_pass 19 = .ok (.getfield 121, 3) := by decide +kernel
theorem dX3_pass_22 : decode cX3_pass 22 = .ok (.iconst 1, 1) := by decide +kernel
theorem dX3_pass_23 : decode cX3_pass 23 = .ok (.iadd, 1) := by decide +kernel
theorem dX3_pass_24 : decode cX3_pass 24 = .ok (.putfield 121, 3) := by decide +kernel
theorem dX3_pass_27 : decode cX3_pass 27 = .ok (.aload_n 0, 1) := by decide +kernel
theorem dX3_pass_28 : decode cX3_pass 28 = .ok (.getfield 121, 3) := by decide +kernel
theorem dX3_pass_31 : decode cX3_pass 31 = .ok (.ireturn, 1) := by decide +kernel
theorem dX3_month_0 : decode cX3_month 0 = .ok (.aload_n 0, 1) := by decide +kernel
theorem dX3_month_1 : decode cX3_month 1 = .ok (.getfield 121, 3) := by decide +kernel
theorem dX3_month_4 : decode cX3_month 4 = .ok (.ireturn, 1) := by decide +kernel
set_option maxRecDepth 20000 in
theorem ggX3_approve_X3_requireLine : GoodIn wsX3_approve wsX3_requireLine := goodIn_ca (goodIn_r _ [8, 9, 10, 11, 80, 81, 82, 83, 84, 85, 86, 87, 88, 89, 90, 91, 92, 93] (by decide +kernel) (by decide +kernel)) (goodIn_sub (fun _ h => List.mem_cons_of_mem _ (List.mem_append_left _ (List.mem_append_left _ (List.mem_append_right _ h)))) (by decide +kernel))
set_option maxRecDepth 20000 in
theorem gX3_approve_X3_requireLine : GoodIn wsX3_approve (wsV RX3 68 RX3 yX3_requireLine wsX3_requireLine) := goodIn_app (goodIn_of _ (by decide +kernel)) ggX3_approve_X3_requireLine
set_option maxRecDepth 20000 in
theorem ggX3_approve_X3_requireMonth : GoodIn wsX3_approve wsX3_requireMonth := goodIn_ca (goodIn_r _ [14, 9, 10] (by decide +kernel) (by decide +kernel)) (goodIn_sub (fun _ h => List.mem_cons_of_mem _ (List.mem_append_left _ (List.mem_append_left _ (List.mem_append_right _ h)))) (by decide +kernel))
set_option maxRecDepth 20000 in
theorem gX3_approve_X3_requireMonth : GoodIn wsX3_approve (va_wsS RX3 58 yX3_requireMonth wsX3_requireMonth) := goodIn_app (goodIn_of _ (by decide +kernel)) ggX3_approve_X3_requireMonth
set_option maxRecDepth 20000 in
theorem ggX3_approve_X3_numberIn : GoodIn wsX3_approve wsX3_numberIn := goodIn_ca (goodIn_r _ [18, 11, 19, 20, 21, 22, 7, 23, 24, 25, 26, 27, 28, 29, 30, 31, 32, 33, 34, 35, 36, 37, 38, 39, 40, 41, 42, 43, 44, 45, 46, 47, 48, 49, 50, 51, 52, 53, 54, 55, 56, 57, 58, 59, 60, 61, 62, 63, 64, 65, 80, 81, 82, 83, 84, 85, 86, 94, 95, 96, 97, 98, 87, 88, 89, 90, 91, 92, 93] (by decide +kernel) (by decide +kernel)) (goodIn_sub (fun _ h => List.mem_cons_of_mem _ (List.mem_append_left _ (List.mem_append_right _ h))) (by decide +kernel))
set_option maxRecDepth 20000 in
theorem gX3_approve_X3_numberIn : GoodIn wsX3_approve (wsV RX3 92 RX3 yX3_numberIn wsX3_numberIn) := goodIn_app (goodIn_of _ (by decide +kernel)) ggX3_approve_X3_numberIn
set_option maxRecDepth 20000 in
theorem ggX3_approve_X3_required : GoodIn wsX3_approve wsX3_required := goodIn_ca (goodIn_r _ [68, 69, 70, 71] (by decide +kernel) (by decide +kernel)) (goodIn_sub (fun _ h => List.mem_cons_of_mem _ (List.mem_append_right _ h)) (by decide +kernel))
set_option maxRecDepth 20000 in
theorem gX3_approve_X3_required : GoodIn wsX3_approve (va_wsS RX3 95 yX3_required wsX3_required) := goodIn_app (goodIn_of _ (by decide +kernel)) ggX3_approve_X3_required
set_option maxRecDepth 20000 in
theorem ggX3_approve_X3_cell : GoodIn wsX3_approve wsX3_cell := goodIn_r _ [51] (by decide +kernel) (by decide +kernel)
set_option maxRecDepth 20000 in
theorem gX3_approve_X3_cell : GoodIn wsX3_approve (va_wsS RX3 129 yX3_cell wsX3_cell) := goodIn_app (goodIn_of _ (by decide +kernel)) ggX3_approve_X3_cell
set_option maxRecDepth 20000 in
theorem ggX3_approve_X0_keep : GoodIn wsX3_approve wsX0_keep := goodIn_ca (goodIn_r _ [76, 77, 78, 79, 99, 100, 101] (by decide +kernel) (by decide +kernel)) (goodIn_sub (fun _ h => List.mem_cons_of_mem _ (List.mem_append_left _ (List.mem_append_right _ h))) (by decide +kernel))
set_option maxRecDepth 20000 in
theorem gX3_approve_X0_keep_n133 : GoodIn wsX3_approve (wsX0_keep) := ggX3_approve_X0_keep
theorem dX3_approve_0 : decode cX3_approve 0 = .ok (.aload_n 0, 1) := by decide +kernel
theorem dX3_approve_1 : decode cX3_approve 1 = .ok (.iload_n 1, 1) := by decide +kernel
theorem dX3_approve_2 : decode cX3_approve 2 = .ok (.invokevirtual 68, 3) := by decide +kernel
theorem dX3_approve_5 : decode cX3_approve 5 = .ok (.iload_n 2, 1) := by decide +kernel
theorem dX3_approve_6 : decode cX3_approve 6 = .ok (.invokestatic 58, 3) := by decide +kernel
theorem dX3_approve_9 : decode cX3_approve 9 = .ok (.iload_n 3, 1) := by decide +kernel
theorem dX3_approve_10 : decode cX3_approve 10 = .ok (.ifCond .lt 10, 3) := by decide +kernel
theorem dX3_approve_13 : decode cX3_approve 13 = .ok (.iload_n 3, 1) := by decide +kernel
theorem dX3_approve_14 : decode cX3_approve 14 = .ok (.sipush 9999, 3) := by decide +kernel
theorem dX3_approve_17 : decode cX3_approve 17 = .ok (.if_icmp .le 11, 3) := by decide +kernel
theorem dX3_approve_20 : decode cX3_approve 20 = .ok (.new 65, 3) := by decide +kernel
theorem dX3_approve_23 : decode cX3_approve 23 = .ok (.dup, 1) := by decide +kernel
theorem dX3_approve_24 : decode cX3_approve 24 = .ok (.invokespecial 67, 3) := by decide +kernel
theorem dX3_approve_27 : decode cX3_approve 27 = .ok (.athrow, 1) := by decide +kernel
theorem dX3_approve_28 : decode cX3_approve 28 = .ok (.aload_n 0, 1) := by decide +kernel
theorem dX3_approve_29 : decode cX3_approve 29 = .ok (.iconst 0, 1) := by decide +kernel
theorem dX3_approve_30 : decode cX3_approve 30 = .ok (.iload_n 1, 1) := by decide +kernel
theorem dX3_approve_31 : decode cX3_approve 31 = .ok (.iload_n 2, 1) := by decide +kernel
theorem dX3_approve_32 : decode cX3_approve 32 = .ok (.bipush 6, 2) := by decide +kernel
theorem dX3_approve_34 : decode cX3_approve 34 = .ok (.invokevirtual 92, 3) := by decide +kernel
theorem dX3_approve_37 : decode cX3_approve 37 = .ok (.invokestatic 95, 3) := by decide +kernel
theorem dX3_approve_40 : decode cX3_approve 40 = .ok (.istore 4, 2) := by decide +kernel
theorem dX3_approve_42 : decode cX3_approve 42 = .ok (.aload_n 0, 1) := by decide +kernel
theorem dX3_approve_43 : decode cX3_approve 43 = .ok (.getfield 30, 3) := by decide +kernel
theorem dX3_approve_46 : decode cX3_approve 46 = .ok (.iload_n 1, 1) := by decide +kernel
theorem dX3_approve_47 : decode cX3_approve 47 = .ok (.iload_n 2, 1) := by decide +kernel
theorem dX3_approve_48 : decode cX3_approve 48 = .ok (.invokestatic 129, 3) := by decide +kernel
theorem dX3_approve_51 : decode cX3_approve 51 = .ok (.iload 4, 2) := by decide +kernel
theorem dX3_approve_53 : decode cX3_approve 53 = .ok (.iload_n 3, 1) := by decide +kernel
theorem dX3_approve_54 : decode cX3_approve 54 = .ok (.invokevirtual 133, 3) := by decide +kernel
theorem dX3_approve_57 : decode cX3_approve 57 = .ok (.iload 4, 2) := by decide +kernel
theorem dX3_approve_59 : decode cX3_approve 59 = .ok (.ireturn, 1) := by decide +kernel
set_option maxRecDepth 20000 in
theorem ggX3_state_X3_requireLine : GoodIn wsX3_state wsX3_requireLine := goodIn_ca (goodIn_r _ [6, 7, 8, 9, 16, 17, 18, 19, 20, 21, 22, 26, 27, 28, 29, 30, 31, 32] (by decide +kernel) (by decide +kernel)) (goodIn_sub (fun _ h => List.mem_cons_of_mem _ (List.mem_append_right _ h)) (by decide +kernel))
set_option maxRecDepth 20000 in
theorem gX3_state_X3_requireLine : GoodIn wsX3_state (wsV RX3 68 RX3 yX3_requireLine wsX3_requireLine) := goodIn_app (goodIn_of _ (by decide +kernel)) ggX3_state_X3_requireLine
set_option maxRecDepth 20000 in
theorem ggX3_state_X3_requireMonth : GoodIn wsX3_state wsX3_requireMonth := goodIn_ca (goodIn_r _ [12, 7, 8] (by decide +kernel) (by decide +kernel)) (goodIn_sub (fun _ h => List.mem_cons_of_mem _ (List.mem_append_right _ h)) (by decide +kernel))
set_option maxRecDepth 20000 in
theorem gX3_state_X3_requireMonth : GoodIn wsX3_state (va_wsS RX3 58 yX3_requireMonth wsX3_requireMonth) := goodIn_app (goodIn_of _ (by decide +kernel)) ggX3_state_X3_requireMonth
set_option maxRecDepth 20000 in
theorem ggX3_state_X3_cell : GoodIn wsX3_state wsX3_cell := goodIn_r _ [15] (by decide +kernel) (by decide +kernel)
set_option maxRecDepth 20000 in
theorem gX3_state_X3_cell : GoodIn wsX3_state (va_wsS RX3 129 yX3_cell wsX3_cell) := goodIn_app (goodIn_of _ (by decide +kernel)) ggX3_state_X3_cell
theorem dX3_state_0 : decode cX3_state 0 = .ok (.aload_n 0, 1) := by decide +kernel
theorem dX3_state_1 : decode cX3_state 1 = .ok (.iload_n 1, 1) := by decide +kernel
theorem dX3_state_2 : decode cX3_state 2 = .ok (.invokevirtual 68, 3) := by decide +kernel
theorem dX3_state_5 : decode cX3_state 5 = .ok (.iload_n 2, 1) := by decide +kernel
theorem dX3_state_6 : decode cX3_state 6 = .ok (.invokestatic 58, 3) := by decide +kernel
theorem dX3_state_9 : decode cX3_state 9 = .ok (.aload_n 0, 1) := by decide +kernel
theorem dX3_state_10 : decode cX3_state 10 = .ok (.getfield 30, 3) := by decide +kernel
theorem dX3_state_13 : decode cX3_state 13 = .ok (.getfield 136, 3) := by decide +kernel
theorem dX3_state_16 : decode cX3_state 16 = .ok (.iload_n 1, 1) := by decide +kernel
theorem dX3_state_17 : decode cX3_state 17 = .ok (.iload_n 2, 1) := by decide +kernel
theorem dX3_state_18 : decode cX3_state 18 = .ok (.invokestatic 129, 3) := by decide +kernel
theorem dX3_state_21 : decode cX3_state 21 = .ok (.caload, 1) := by decide +kernel
theorem dX3_state_22 : decode cX3_state 22 = .ok (.ireturn, 1) := by decide +kernel
set_option maxRecDepth 20000 in
theorem ggX3_drift_X3_requireLine : GoodIn wsX3_drift wsX3_requireLine := goodIn_ca (goodIn_r _ [8, 9, 10, 11, 73, 74, 75, 76, 77, 78, 79, 83, 84, 85, 86, 87, 88, 89] (by decide +kernel) (by decide +kernel)) (goodIn_sub (fun _ h => List.mem_cons_of_mem _ (List.mem_append_left _ (List.mem_append_right _ h))) (by decide +kernel))
set_option maxRecDepth 20000 in
theorem gX3_drift_X3_requireLine : GoodIn wsX3_drift (wsV RX3 68 RX3 yX3_requireLine wsX3_requireLine) := goodIn_app (goodIn_of _ (by decide +kernel)) ggX3_drift_X3_requireLine
set_option maxRecDepth 20000 in
theorem ggX3_drift_X3_requireMonth : GoodIn wsX3_drift wsX3_requireMonth := goodIn_ca (goodIn_r _ [14, 9, 10] (by decide +kernel) (by decide +kernel)) (goodIn_sub (fun _ h => List.mem_cons_of_mem _ (List.mem_append_left _ (List.mem_append_right _ h))) (by decide +kernel))
set_option maxRecDepth 20000 in
theorem gX3_drift_X3_requireMonth : GoodIn wsX3_drift (va_wsS RX3 58 yX3_requireMonth wsX3_requireMonth) := goodIn_app (goodIn_of _ (by decide +kernel)) ggX3_drift_X3_requireMonth
set_option maxRecDepth 20000 in
theorem ggX3_drift_X3_cell : GoodIn wsX3_drift wsX3_cell := goodIn_r _ [17] (by decide +kernel) (by decide +kernel)
set_option maxRecDepth 20000 in
theorem gX3_drift_X3_cell : GoodIn wsX3_drift (va_wsS RX3 129 yX3_cell wsX3_cell) := goodIn_app (goodIn_of _ (by decide +kernel)) ggX3_drift_X3_cell
set_option maxRecDepth 20000 in
theorem ggX3_drift_X3_numberIn : GoodIn wsX3_drift wsX3_numberIn := goodIn_ca (goodIn_r _ [21, 11, 22, 23, 24, 25, 7, 26, 27, 28, 29, 30, 31, 32, 33, 34, 35, 36, 37, 38, 39, 40, 41, 42, 43, 44, 45, 46, 47, 48, 49, 50, 51, 52, 16, 17, 53, 54, 55, 56, 57, 58, 59, 60, 61, 62, 63, 64, 65, 66, 73, 74, 75, 76, 77, 78, 79, 90, 91, 92, 93, 94, 83, 84, 85, 86, 87, 88, 89] (by decide +kernel) (by decide +kernel)) (goodIn_sub (fun _ h => List.mem_cons_of_mem _ (List.mem_append_left _ (List.mem_append_left _ (List.mem_append_left _ (List.mem_append_right _ h))))) (by decide +kernel))
set_option maxRecDepth 20000 in
theorem gX3_drift_X3_numberIn : GoodIn wsX3_drift (wsV RX3 92 RX3 yX3_numberIn wsX3_numberIn) := goodIn_app (goodIn_of _ (by decide +kernel)) ggX3_drift_X3_numberIn
set_option maxRecDepth 20000 in
theorem ggX3_drift_X3_required : GoodIn wsX3_drift wsX3_required := goodIn_ca (goodIn_r _ [69, 70, 71, 72] (by decide +kernel) (by decide +kernel)) (goodIn_sub (fun _ h => List.mem_cons_of_mem _ (List.mem_append_right _ h)) (by decide +kernel))
set_option maxRecDepth 20000 in
theorem gX3_drift_X3_required : GoodIn wsX3_drift (va_wsS RX3 95 yX3_required wsX3_required) := goodIn_app (goodIn_of _ (by decide +kernel)) ggX3_drift_X3_required
theorem dX3_drift_0 : decode cX3_drift 0 = .ok (.aload_n 0, 1) := by decide +kernel
theorem dX3_drift_1 : decode cX3_drift 1 = .ok (.iload_n 1, 1) := by decide +kernel
theorem dX3_drift_2 : decode cX3_drift 2 = .ok (.invokevirtual 68, 3) := by decide +kernel
theorem dX3_drift_5 : decode cX3_drift 5 = .ok (.iload_n 2, 1) := by decide +kernel
theorem dX3_drift_6 : decode cX3_drift 6 = .ok (.invokestatic 58, 3) := by decide +kernel
theorem dX3_drift_9 : decode cX3_drift 9 = .ok (.aload_n 0, 1) := by decide +kernel
theorem dX3_drift_10 : decode cX3_drift 10 = .ok (.getfield 30, 3) := by decide +kernel
theorem dX3_drift_13 : decode cX3_drift 13 = .ok (.getfield 136, 3) := by decide +kernel
theorem dX3_drift_16 : decode cX3_drift 16 = .ok (.iload_n 1, 1) := by decide +kernel
theorem dX3_drift_17 : decode cX3_drift 17 = .ok (.iload_n 2, 1) := by decide +kernel
theorem dX3_drift_18 : decode cX3_drift 18 = .ok (.invokestatic 129, 3) := by decide +kernel
theorem dX3_drift_21 : decode cX3_drift 21 = .ok (.caload, 1) := by decide +kernel
theorem dX3_drift_22 : decode cX3_drift 22 = .ok (.bipush 45, 2) := by decide +kernel
theorem dX3_drift_24 : decode cX3_drift 24 = .ok (.if_icmp .ne 11, 3) := by decide +kernel
theorem dX3_drift_27 : decode cX3_drift 27 = .ok (.new 118, 3) := by decide +kernel
theorem dX3_drift_30 : decode cX3_drift 30 = .ok (.dup, 1) := by decide +kernel
theorem dX3_drift_31 : decode cX3_drift 31 = .ok (.invokespecial 120, 3) := by decide +kernel
theorem dX3_drift_34 : decode cX3_drift 34 = .ok (.athrow, 1) := by decide +kernel
theorem dX3_drift_35 : decode cX3_drift 35 = .ok (.aload_n 0, 1) := by decide +kernel
theorem dX3_drift_36 : decode cX3_drift 36 = .ok (.iconst 0, 1) := by decide +kernel
theorem dX3_drift_37 : decode cX3_drift 37 = .ok (.iload_n 1, 1) := by decide +kernel
theorem dX3_drift_38 : decode cX3_drift 38 = .ok (.iload_n 2, 1) := by decide +kernel
theorem dX3_drift_39 : decode cX3_drift 39 = .ok (.bipush 6, 2) := by decide +kernel
theorem dX3_drift_41 : decode cX3_drift 41 = .ok (.invokevirtual 92, 3) := by decide +kernel
theorem dX3_drift_44 : decode cX3_drift 44 = .ok (.invokestatic 95, 3) := by decide +kernel
theorem dX3_drift_47 : decode cX3_drift 47 = .ok (.istore_n 3, 1) := by decide +kernel
theorem dX3_drift_48 : decode cX3_drift 48 = .ok (.iload_n 3, 1) := by decide +kernel
theorem dX3_drift_49 : decode cX3_drift 49 = .ok (.aload_n 0, 1) := by decide +kernel
theorem dX3_drift_50 : decode cX3_drift 50 = .ok (.getfield 30, 3) := by decide +kernel
theorem dX3_drift_53 : decode cX3_drift 53 = .ok (.getfield 140, 3) := by decide +kernel
theorem dX3_drift_56 : decode cX3_drift 56 = .ok (.iload_n 1, 1) := by decide +kernel
theorem dX3_drift_57 : decode cX3_drift 57 = .ok (.iload_n 2, 1) := by decide +kernel
theorem dX3_drift_58 : decode cX3_drift 58 = .ok (.invokestatic 129, 3) := by decide +kernel
theorem dX3_drift_61 : decode cX3_drift 61 = .ok (.iaload, 1) := by decide +kernel
theorem dX3_drift_62 : decode cX3_drift 62 = .ok (.isub, 1) := by decide +kernel
theorem dX3_drift_63 : decode cX3_drift 63 = .ok (.ireturn, 1) := by decide +kernel
set_option maxRecDepth 20000 in
theorem ggX3_open_X0_countIn : GoodIn wsX3_open wsX0_countIn := goodIn_ca (goodIn_r _ [5, 6, 14, 15, 16] (by decide +kernel) (by decide +kernel)) (goodIn_sub (fun _ h => List.mem_cons_of_mem _ (List.mem_append_right _ h)) (by decide +kernel))
set_option maxRecDepth 20000 in
theorem gX3_open_X0_countIn_n143 : GoodIn wsX3_open (wsX0_countIn) := ggX3_open_X0_countIn
theorem dX3_open_0 : decode cX3_open 0 = .ok (.aload_n 0, 1) := by decide +kernel
theorem dX3_open_1 : decode cX3_open 1 = .ok (.getfield 30, 3) := by decide +kernel
theorem dX3_open_4 : decode cX3_open 4 = .ok (.bipush 111, 2) := by decide +kernel
theorem dX3_open_6 : decode cX3_open 6 = .ok (.invokevirtual 143, 3) := by decide +kernel
theorem dX3_open_9 : decode cX3_open 9 = .ok (.ireturn, 1) := by decide +kernel
set_option maxRecDepth 20000 in
theorem ggX3_approvedShare_X0_countIn : GoodIn wsX3_approvedShare wsX0_countIn := goodIn_ca (goodIn_r _ [7, 8, 16, 17, 18] (by decide +kernel) (by decide +kernel)) (goodIn_sub (fun _ h => List.mem_cons_of_mem _ (List.mem_append_right _ h)) (by decide +kernel))
set_option maxRecDepth 20000 in
theorem gX3_approvedShare_X0_countIn_n143 : GoodIn wsX3_approvedShare (wsX0_countIn) := ggX3_approvedShare_X0_countIn
theorem dX3_approvedShare_0 : decode cX3_approvedShare 0 = .ok (.aload_n 0, 1) := by decide +kernel
theorem dX3_approvedShare_1 : decode cX3_approvedShare 1 = .ok (.getfield 30, 3) := by decide +kernel
theorem dX3_approvedShare_4 : decode cX3_approvedShare 4 = .ok (.bipush 97, 2) := by decide +kernel
theorem dX3_approvedShare_6 : decode cX3_approvedShare 6 = .ok (.invokevirtual 143, 3) := by decide +kernel
theorem dX3_approvedShare_9 : decode cX3_approvedShare 9 = .ok (.istore_n 1, 1) := by decide +kernel
theorem dX3_approvedShare_10 : decode cX3_approvedShare 10 = .ok (.iload_n 1, 1) := by decide +kernel
theorem dX3_approvedShare_11 : decode cX3_approvedShare 11 = .ok (.aload_n 0, 1) := by decide +kernel
theorem dX3_approvedShare_12 : decode cX3_approvedShare 12 = .ok (.getfield 30, 3) := by decide +kernel
theorem dX3_approvedShare_15 : decode cX3_approvedShare 15 = .ok (.bipush 111, 2) := by decide +kernel
theorem dX3_approvedShare_17 : decode cX3_approvedShare 17 = .ok (.invokevirtual 143, 3) := by decide +kernel
theorem dX3_approvedShare_20 : decode cX3_approvedShare 20 = .ok (.iadd, 1) := by decide +kernel
theorem dX3_approvedShare_21 : decode cX3_approvedShare 21 = .ok (.istore_n 2, 1) := by decide +kernel
theorem dX3_approvedShare_22 : decode cX3_approvedShare 22 = .ok (.iload_n 2, 1) := by decide +kernel
theorem dX3_approvedShare_23 : decode cX3_approvedShare 23 = .ok (.ifCond .ne 11, 3) := by decide +kernel
theorem dX3_approvedShare_26 : decode cX3_approvedShare 26 = .ok (.new 147, 3) := by decide +kernel
theorem dX3_approvedShare_29 : decode cX3_approvedShare 29 = .ok (.dup, 1) := by decide +kernel
theorem dX3_approvedShare_30 : decode cX3_approvedShare 30 = .ok (.invokespecial 149, 3) := by decide +kernel
theorem dX3_approvedShare_33 : decode cX3_approvedShare 33 = .ok (.athrow, 1) := by decide +kernel
theorem dX3_approvedShare_34 : decode cX3_approvedShare 34 = .ok (.iload_n 1, 1) := by decide +kernel
theorem dX3_approvedShare_35 : decode cX3_approvedShare 35 = .ok (.i2f, 1) := by decide +kernel
theorem dX3_approvedShare_36 : decode cX3_approvedShare 36 = .ok (.iload_n 2, 1) := by decide +kernel
theorem dX3_approvedShare_37 : decode cX3_approvedShare 37 = .ok (.i2f, 1) := by decide +kernel
theorem dX3_approvedShare_38 : decode cX3_approvedShare 38 = .ok (.fdiv, 1) := by decide +kernel
theorem dX3_approvedShare_39 : decode cX3_approvedShare 39 = .ok (.freturn, 1) := by decide +kernel
set_option maxRecDepth 20000 in
theorem ggX3_meanTolerance_X0_countIn : GoodIn wsX3_meanTolerance wsX0_countIn := goodIn_ca (goodIn_r _ [7, 8, 20, 21, 22] (by decide +kernel) (by decide +kernel)) (goodIn_sub (fun _ h => List.mem_cons_of_mem _ (List.mem_append_right _ h)) (by decide +kernel))
set_option maxRecDepth 20000 in
theorem gX3_meanTolerance_X0_countIn_n143 : GoodIn wsX3_meanTolerance (wsX0_countIn) := ggX3_meanTolerance_X0_countIn
set_option maxRecDepth 20000 in
theorem ggX3_meanTolerance_X0_sumOfTolerances : GoodIn wsX3_meanTolerance wsX0_sumOfTolerances := goodIn_ca (goodIn_r _ [11, 12, 20, 21, 22] (by decide +kernel) (by decide +kernel)) (goodIn_sub (fun _ h => List.mem_cons_of_mem _ (List.mem_append_right _ h)) (by decide +kernel))
set_option maxRecDepth 20000 in
theorem gX3_meanTolerance_X0_sumOfTolerances_n150 : GoodIn wsX3_meanTolerance (wsX0_sumOfTolerances) := ggX3_meanTolerance_X0_sumOfTolerances
theorem dX3_meanTolerance_0 : decode cX3_meanTolerance 0 = .ok (.aload_n 0, 1) := by decide +kernel
theorem dX3_meanTolerance_1 : decode cX3_meanTolerance 1 = .ok (.getfield 30, 3) := by decide +kernel
theorem dX3_meanTolerance_4 : decode cX3_meanTolerance 4 = .ok (.bipush 97, 2) := by decide +kernel
theorem dX3_meanTolerance_6 : decode cX3_meanTolerance 6 = .ok (.invokevirtual 143, 3) := by decide +kernel
theorem dX3_meanTolerance_9 : decode cX3_meanTolerance 9 = .ok (.aload_n 0, 1) := by decide +kernel
theorem dX3_meanTolerance_10 : decode cX3_meanTolerance 10 = .ok (.getfield 30, 3) := by decide +kernel
theorem dX3_meanTolerance_13 : decode cX3_meanTolerance 13 = .ok (.bipush 111, 2) := by decide +kernel
theorem dX3_meanTolerance_15 : decode cX3_meanTolerance 15 = .ok (.invokevirtual 143, 3) := by decide +kernel
theorem dX3_meanTolerance_18 : decode cX3_meanTolerance 18 = .ok (.iadd, 1) := by decide +kernel
theorem dX3_meanTolerance_19 : decode cX3_meanTolerance 19 = .ok (.istore_n 1, 1) := by decide +kernel
theorem dX3_meanTolerance_20 : decode cX3_meanTolerance 20 = .ok (.iload_n 1, 1) := by decide +kernel
theorem dX3_meanTolerance_21 : decode cX3_meanTolerance 21 = .ok (.ifCond .ne 11, 3) := by decide +kernel
theorem dX3_meanTolerance_24 : decode cX3_meanTolerance 24 = .ok (.new 147, 3) := by decide +kernel
theorem dX3_meanTolerance_27 : decode cX3_meanTolerance 27 = .ok (.dup, 1) := by decide +kernel
theorem dX3_meanTolerance_28 : decode cX3_meanTolerance 28 = .ok (.invokespecial 149, 3) := by decide +kernel
theorem dX3_meanTolerance_31 : decode cX3_meanTolerance 31 = .ok (.athrow, 1) := by decide +kernel
theorem dX3_meanTolerance_32 : decode cX3_meanTolerance 32 = .ok (.aload_n 0, 1) := by decide +kernel
theorem dX3_meanTolerance_33 : decode cX3_meanTolerance 33 = .ok (.getfield 30, 3) := by decide +kernel
theorem dX3_meanTolerance_36 : decode cX3_meanTolerance 36 = .ok (.invokevirtual 150, 3) := by decide +kernel
theorem dX3_meanTolerance_39 : decode cX3_meanTolerance 39 = .ok (.i2d, 1) := by decide +kernel
theorem dX3_meanTolerance_40 : decode cX3_meanTolerance 40 = .ok (.iload_n 1, 1) := by decide +kernel
theorem dX3_meanTolerance_41 : decode cX3_meanTolerance 41 = .ok (.i2d, 1) := by decide +kernel
theorem dX3_meanTolerance_42 : decode cX3_meanTolerance 42 = .ok (.ddiv, 1) := by decide +kernel
theorem dX3_meanTolerance_43 : decode cX3_meanTolerance 43 = .ok (.dreturn, 1) := by decide +kernel
theorem dX3_requireDriver_0 : decode cX3_requireDriver 0 = .ok (.iload_n 1, 1) := by decide +kernel
theorem dX3_requireDriver_1 : decode cX3_requireDriver 1 = .ok (.ifCond .lt 11, 3) := by decide +kernel
theorem dX3_requireDriver_4 : decode cX3_requireDriver 4 = .ok (.iload_n 1, 1) := by decide +kernel
theorem dX3_requireDriver_5 : decode cX3_requireDriver 5 = .ok (.aload_n 0, 1) := by decide +kernel
theorem dX3_requireDriver_6 : decode cX3_requireDriver 6 = .ok (.getfield 41, 3) := by decide +kernel
theorem dX3_requireDriver_9 : decode cX3_requireDriver 9 = .ok (.if_icmp .lt 11, 3) := by decide +kernel
theorem dX3_requireDriver_12 : decode cX3_requireDriver 12 = .ok (.new 153, 3) := by decide +kernel
theorem dX3_requireDriver_15 : decode cX3_requireDriver 15 = .ok (.dup, 1) := by decide +kernel
theorem dX3_requireDriver_16 : decode cX3_requireDriver 16 = .ok (.invokespecial 155, 3) := by decide +kernel
theorem dX3_requireDriver_19 : decode cX3_requireDriver 19 = .ok (.athrow, 1) := by decide +kernel
theorem dX3_requireDriver_20 : decode cX3_requireDriver 20 = .ok (.return_, 1) := by decide +kernel
theorem dX3_requireScenario_0 : decode cX3_requireScenario 0 = .ok (.iload_n 1, 1) := by decide +kernel
theorem dX3_requireScenario_1 : decode cX3_requireScenario 1 = .ok (.ifCond .lt 14, 3) := by decide +kernel
theorem dX3_requireScenario_4 : decode cX3_requireScenario 4 = .ok (.iload_n 1, 1) := by decide +kernel
theorem dX3_requireScenario_5 : decode cX3_requireScenario 5 = .ok (.aload_n 0, 1) := by decide +kernel
theorem dX3_requireScenario_6 : decode cX3_requireScenario 6 = .ok (.getfield 16, 3) := by decide +kernel
theorem dX3_requireScenario_9 : decode cX3_requireScenario 9 = .ok (.getfield 78, 3) := by decide +kernel
theorem dX3_requireScenario_12 : decode cX3_requireScenario 12 = .ok (.if_icmp .lt 11, 3) := by decide +kernel
theorem dX3_requireScenario_15 : decode cX3_requireScenario 15 = .ok (.new 153, 3) := by decide +kernel
theorem dX3_requireScenario_18 : decode cX3_requireScenario 18 = .ok (.dup, 1) := by decide +kernel
theorem dX3_requireScenario_19 : decode cX3_requireScenario 19 = .ok (.invokespecial 155, 3) := by decide +kernel
theorem dX3_requireScenario_22 : decode cX3_requireScenario 22 = .ok (.athrow, 1) := by decide +kernel
theorem dX3_requireScenario_23 : decode cX3_requireScenario 23 = .ok (.return_, 1) := by decide +kernel
theorem dX3_requireLine_0 : decode cX3_requireLine 0 = .ok (.iload_n 1, 1) := by decide +kernel
theorem dX3_requireLine_1 : decode cX3_requireLine 1 = .ok (.ifCond .lt 14, 3) := by decide +kernel
theorem dX3_requireLine_4 : decode cX3_requireLine 4 = .ok (.iload_n 1, 1) := by decide +kernel
theorem dX3_requireLine_5 : decode cX3_requireLine 5 = .ok (.aload_n 0, 1) := by decide +kernel
theorem dX3_requireLine_6 : decode cX3_requireLine 6 = .ok (.getfield 23, 3) := by decide +kernel
theorem dX3_requireLine_9 : decode cX3_requireLine 9 = .ok (.getfield 71, 3) := by decide +kernel
theorem dX3_requireLine_12 : decode cX3_requireLine 12 = .ok (.if_icmp .lt 11, 3) := by decide +kernel
theorem dX3_requireLine_15 : decode cX3_requireLine 15 = .ok (.new 153, 3) := by decide +kernel
theorem dX3_requireLine_18 : decode cX3_requireLine 18 = .ok (.dup, 1) := by decide +kernel
theorem dX3_requireLine_19 : decode cX3_requireLine 19 = .ok (.invokespecial 155, 3) := by decide +kernel
theorem dX3_requireLine_22 : decode cX3_requireLine 22 = .ok (.athrow, 1) := by decide +kernel
theorem dX3_requireLine_23 : decode cX3_requireLine 23 = .ok (.return_, 1) := by decide +kernel
theorem dX3_requireMonth_0 : decode cX3_requireMonth 0 = .ok (.iload_n 0, 1) := by decide +kernel
theorem dX3_requireMonth_1 : decode cX3_requireMonth 1 = .ok (.ifCond .lt 9, 3) := by decide +kernel
theorem dX3_requireMonth_4 : decode cX3_requireMonth 4 = .ok (.iload_n 0, 1) := by decide +kernel
theorem dX3_requireMonth_5 : decode cX3_requireMonth 5 = .ok (.bipush 12, 2) := by decide +kernel
theorem dX3_requireMonth_7 : decode cX3_requireMonth 7 = .ok (.if_icmp .lt 11, 3) := by decide +kernel
theorem dX3_requireMonth_10 : decode cX3_requireMonth 10 = .ok (.new 153, 3) := by decide +kernel
theorem dX3_requireMonth_13 : decode cX3_requireMonth 13 = .ok (.dup, 1) := by decide +kernel
theorem dX3_requireMonth_14 : decode cX3_requireMonth 14 = .ok (.invokespecial 155, 3) := by decide +kernel
theorem dX3_requireMonth_17 : decode cX3_requireMonth 17 = .ok (.athrow, 1) := by decide +kernel
theorem dX3_requireMonth_18 : decode cX3_requireMonth 18 = .ok (.return_, 1) := by decide +kernel
theorem dX3_requireDriverValue_0 : decode cX3_requireDriverValue 0 = .ok (.iload_n 0, 1) := by decide +kernel
theorem dX3_requireDriverValue_1 : decode cX3_requireDriverValue 1 = .ok (.ifCond .lt 10, 3) := by decide +kernel
theorem dX3_requireDriverValue_4 : decode cX3_requireDriverValue 4 = .ok (.iload_n 0, 1) := by decide +kernel
theorem dX3_requireDriverValue_5 : decode cX3_requireDriverValue 5 = .ok (.sipush 9999, 3) := by decide +kernel
theorem dX3_requireDriverValue_8 : decode cX3_requireDriverValue 8 = .ok (.if_icmp .le 11, 3) := by decide +kernel
theorem dX3_requireDriverValue_11 : decode cX3_requireDriverValue 11 = .ok (.new 65, 3) := by decide +kernel
theorem dX3_requireDriverValue_14 : decode cX3_requireDriverValue 14 = .ok (.dup, 1) := by decide +kernel
theorem dX3_requireDriverValue_15 : decode cX3_requireDriverValue 15 = .ok (.invokespecial 67, 3) := by decide +kernel
theorem dX3_requireDriverValue_18 : decode cX3_requireDriverValue 18 = .ok (.athrow, 1) := by decide +kernel
theorem dX3_requireDriverValue_19 : decode cX3_requireDriverValue 19 = .ok (.return_, 1) := by decide +kernel
theorem dX3_required_0 : decode cX3_required 0 = .ok (.iload_n 0, 1) := by decide +kernel
theorem dX3_required_1 : decode cX3_required 1 = .ok (.ldc 117, 2) := by decide +kernel
theorem dX3_required_3 : decode cX3_required 3 = .ok (.if_icmp .ne 11, 3) := by decide +kernel
theorem dX3_required_6 : decode cX3_required 6 = .ok (.new 82, 3) := by decide +kernel
theorem dX3_required_9 : decode cX3_required 9 = .ok (.dup, 1) := by decide +kernel
theorem dX3_required_10 : decode cX3_required 10 = .ok (.invokespecial 84, 3) := by decide +kernel
theorem dX3_required_13 : decode cX3_required 13 = .ok (.athrow, 1) := by decide +kernel
theorem dX3_required_14 : decode cX3_required 14 = .ok (.iload_n 0, 1) := by decide +kernel
theorem dX3_required_15 : decode cX3_required 15 = .ok (.ireturn, 1) := by decide +kernel
theorem dX3_cell_0 : decode cX3_cell 0 = .ok (.iload_n 0, 1) := by decide +kernel
theorem dX3_cell_1 : decode cX3_cell 1 = .ok (.bipush 12, 2) := by decide +kernel
theorem dX3_cell_3 : decode cX3_cell 3 = .ok (.imul, 1) := by decide +kernel
theorem dX3_cell_4 : decode cX3_cell 4 = .ok (.iload_n 1, 1) := by decide +kernel
theorem dX3_cell_5 : decode cX3_cell 5 = .ok (.iadd, 1) := by decide +kernel
theorem dX3_cell_6 : decode cX3_cell 6 = .ok (.ireturn, 1) := by decide +kernel
set_option maxRecDepth 20000 in
theorem ggX3_valueIn_X2_addedTo : GoodIn wsX3_valueIn wsX2_addedTo := goodIn_ca (goodIn_r _ [6, 7, 8, 9, 10, 4, 11, 19, 20, 21, 22, 23] (by decide +kernel) (by decide +kernel)) (goodIn_sub (fun _ h => List.mem_cons_of_mem _ (List.mem_append_right _ h)) (by decide +kernel))
set_option maxRecDepth 20000 in
theorem gX3_valueIn_X2_addedTo_n156 : GoodIn wsX3_valueIn (wsX2_addedTo) := ggX3_valueIn_X2_addedTo
theorem dX3_valueIn_0 : decode cX3_valueIn 0 = .ok (.aload_n 0, 1) := by decide +kernel
theorem dX3_valueIn_1 : decode cX3_valueIn 1 = .ok (.getfield 9, 3) := by decide +kernel
theorem dX3_valueIn_4 : decode cX3_valueIn 4 = .ok (.iload_n 2, 1) := by decide +kernel
theorem dX3_valueIn_5 : decode cX3_valueIn 5 = .ok (.iaload, 1) := by decide +kernel
theorem dX3_valueIn_6 : decode cX3_valueIn 6 = .ok (.aload_n 0, 1) := by decide +kernel
theorem dX3_valueIn_7 : decode cX3_valueIn 7 = .ok (.getfield 16, 3) := by decide +kernel
theorem dX3_valueIn_10 : decode cX3_valueIn 10 = .ok (.iload_n 1, 1) := by decide +kernel
theorem dX3_valueIn_11 : decode cX3_valueIn 11 = .ok (.iload_n 2, 1) := by decide +kernel
theorem dX3_valueIn_12 : decode cX3_valueIn 12 = .ok (.iload_n 3, 1) := by decide +kernel
theorem dX3_valueIn_13 : decode cX3_valueIn 13 = .ok (.invokevirtual 156, 3) := by decide +kernel
theorem dX3_valueIn_16 : decode cX3_valueIn 16 = .ok (.iadd, 1) := by decide +kernel
theorem dX3_valueIn_17 : decode cX3_valueIn 17 = .ok (.ireturn, 1) := by decide +kernel
set_option maxRecDepth 20000 in
theorem ggX3_fillInputs_X3_valueIn : GoodIn wsX3_fillInputs wsX3_valueIn := goodIn_ca (goodIn_r _ [8, 3, 9, 10, 11, 12, 13, 14, 15, 16, 17, 18, 19, 20, 21, 22, 23, 24, 25, 26, 27, 28, 29, 30] (by decide +kernel) (by decide +kernel)) (goodIn_sub (fun _ h => List.mem_cons_of_mem _ (List.mem_append_right _ h)) (by decide +kernel))
set_option maxRecDepth 20000 in
theorem gX3_fillInputs_X3_valueIn : GoodIn wsX3_fillInputs (wsV RX3 61 RX3 yX3_valueIn wsX3_valueIn) := goodIn_app (goodIn_of _ (by decide +kernel)) ggX3_fillInputs_X3_valueIn
theorem dX3_fillInputs_0 : decode cX3_fillInputs 0 = .ok (.iconst 0, 1) := by decide +kernel
theorem dX3_fillInputs_1 : decode cX3_fillInputs 1 = .ok (.istore 4, 2) := by decide +kernel
theorem dX3_fillInputs_3 : decode cX3_fillInputs 3 = .ok (.iload 4, 2) := by decide +kernel
theorem dX3_fillInputs_5 : decode cX3_fillInputs 5 = .ok (.aload_n 0, 1) := by decide +kernel
theorem dX3_fillInputs_6 : decode cX3_fillInputs 6 = .ok (.getfield 41, 3) := by decide +kernel
theorem dX3_fillInputs_9 : decode cX3_fillInputs 9 = .ok (.if_icmp .ge 40, 3) := by decide +kernel
theorem dX3_fillInputs_12 : decode cX3_fillInputs 12 = .ok (.aload_n 0, 1) := by decide +kernel
theorem dX3_fillInputs_13 : decode cX3_fillInputs 13 = .ok (.getfield 34, 3) := by decide +kernel
theorem dX3_fillInputs_16 : decode cX3_fillInputs 16 = .ok (.iload 4, 2) := by decide +kernel
theorem dX3_fillInputs_18 : decode cX3_fillInputs 18 = .ok (.iload 4, 2) := by decide +kernel
theorem dX3_fillInputs_20 : decode cX3_fillInputs 20 = .ok (.iload_n 3, 1) := by decide +kernel
theorem dX3_fillInputs_21 : decode cX3_fillInputs 21 = .ok (.if_icmp .ge 14, 3) := by decide +kernel
theorem dX3_fillInputs_24 : decode cX3_fillInputs 24 = .ok (.aload_n 0, 1) := by decide +kernel
theorem dX3_fillInputs_25 : decode cX3_fillInputs 25 = .ok (.iload_n 1, 1) := by decide +kernel
theorem dX3_fillInputs_26 : decode cX3_fillInputs 26 = .ok (.iload 4, 2) := by decide +kernel
theorem dX3_fillInputs_28 : decode cX3_fillInputs 28 = .ok (.iload_n 2, 1) := by decide +kernel
theorem dX3_fillInputs_29 : decode cX3_fillInputs 29 = .ok (.invokevirtual 61, 3) := by decide +kernel
theorem dX3_fillInputs_32 : decode cX3_fillInputs 32 = .ok (.goto 10, 3) := by decide +kernel
theorem dX3_fillInputs_35 : decode cX3_fillInputs 35 = .ok (.aload_n 0, 1) := by decide +kernel
theorem dX3_fillInputs_36 : decode cX3_fillInputs 36 = .ok (.getfield 9, 3) := by decide +kernel
theorem dX3_fillInputs_39 : decode cX3_fillInputs 39 = .ok (.iload 4, 2) := by decide +kernel
theorem dX3_fillInputs_41 : decode cX3_fillInputs 41 = .ok (.iaload, 1) := by decide +kernel
theorem dX3_fillInputs_42 : decode cX3_fillInputs 42 = .ok (.iastore, 1) := by decide +kernel
theorem dX3_fillInputs_43 : decode cX3_fillInputs 43 = .ok (.iinc 4 1, 3) := by decide +kernel
theorem dX3_fillInputs_46 : decode cX3_fillInputs 46 = .ok (.goto (-43), 3) := by decide +kernel
theorem dX3_fillInputs_49 : decode cX3_fillInputs 49 = .ok (.return_, 1) := by decide +kernel
set_option maxRecDepth 20000 in
theorem ggX3_numberIn_X3_fillInputs : GoodIn wsX3_numberIn wsX3_fillInputs := goodIn_ca (goodIn_r _ [7, 8, 2, 9, 10, 11, 12, 6, 13, 14, 15, 16, 17, 18, 19, 20, 21, 22, 23, 50, 51, 52, 53, 54, 55, 56, 57, 58, 59, 60, 61] (by decide +kernel) (by decide +kernel)) (goodIn_sub (fun _ h => List.mem_cons_of_mem _ (List.mem_append_right _ h)) (by decide +kernel))
set_option maxRecDepth 20000 in
theorem gX3_numberIn_X3_fillInputs : GoodIn wsX3_numberIn (wsV RX3 98 RX3 yX3_fillInputs wsX3_fillInputs) := goodIn_app (goodIn_of _ (by decide +kernel)) ggX3_numberIn_X3_fillInputs
set_option maxRecDepth 20000 in
theorem ggX3_numberIn_X1_markNeeded : GoodIn wsX3_numberIn wsX1_markNeeded := goodIn_ca (goodIn_r _ [27, 28, 29, 30, 31, 32, 33, 34, 6, 35, 62, 63, 64, 65, 66, 67, 68] (by decide +kernel) (by decide +kernel)) (goodIn_sub (fun _ h => List.mem_cons_of_mem _ (List.mem_append_right _ h)) (by decide +kernel))
set_option maxRecDepth 20000 in
theorem gX3_numberIn_X1_markNeeded_n109 : GoodIn wsX3_numberIn (wsX1_markNeeded) := ggX3_numberIn_X1_markNeeded
set_option maxRecDepth 20000 in
theorem ggX3_numberIn_X1_findNeeded : GoodIn wsX3_numberIn wsX1_findNeeded := goodIn_ca (goodIn_r _ [38, 28, 39, 40, 41, 42, 25, 43, 30, 31, 29, 32, 33, 34, 6, 35, 44, 45, 46, 47, 48, 49, 62, 63, 64, 65, 66, 67, 68] (by decide +kernel) (by decide +kernel)) (goodIn_sub (fun _ h => List.mem_cons_of_mem _ (List.mem_append_right _ h)) (by decide +kernel))
set_option maxRecDepth 20000 in
theorem gX3_numberIn_X1_findNeeded_n113 : GoodIn wsX3_numberIn (wsX1_findNeeded) := ggX3_numberIn_X1_findNeeded
theorem dX3_numberIn_0 : decode cX3_numberIn 0 = .ok (.aload_n 0, 1) := by decide +kernel
theorem dX3_numberIn_1 : decode cX3_numberIn 1 = .ok (.iload_n 1, 1) := by decide +kernel
theorem dX3_numberIn_2 : decode cX3_numberIn 2 = .ok (.iload_n 3, 1) := by decide +kernel
theorem dX3_numberIn_3 : decode cX3_numberIn 3 = .ok (.iload 4, 2) := by decide +kernel
theorem dX3_numberIn_5 : decode cX3_numberIn 5 = .ok (.invokevirtual 98, 3) := by decide +kernel
theorem dX3_numberIn_8 : decode cX3_numberIn 8 = .ok (.aload_n 0, 1) := by decide +kernel
theorem dX3_numberIn_9 : decode cX3_numberIn 9 = .ok (.getfield 23, 3) := by decide +kernel
theorem dX3_numberIn_12 : decode cX3_numberIn 12 = .ok (.iload_n 2, 1) := by decide +kernel
theorem dX3_numberIn_13 : decode cX3_numberIn 13 = .ok (.iload_n 3, 1) := by decide +kernel
theorem dX3_numberIn_14 : decode cX3_numberIn 14 = .ok (.invokevirtual 109, 3) := by decide +kernel
theorem dX3_numberIn_17 : decode cX3_numberIn 17 = .ok (.aload_n 0, 1) := by decide +kernel
theorem dX3_numberIn_18 : decode cX3_numberIn 18 = .ok (.getfield 23, 3) := by decide +kernel
theorem dX3_numberIn_21 : decode cX3_numberIn 21 = .ok (.iload_n 2, 1) := by decide +kernel
theorem dX3_numberIn_22 : decode cX3_numberIn 22 = .ok (.iload_n 3, 1) := by decide +kernel
theorem dX3_numberIn_23 : decode cX3_numberIn 23 = .ok (.aload_n 0, 1) := by decide +kernel
theorem dX3_numberIn_24 : decode cX3_numberIn 24 = .ok (.getfield 34, 3) := by decide +kernel
theorem dX3_numberIn_27 : decode cX3_numberIn 27 = .ok (.invokevirtual 113, 3) := by decide +kernel
theorem dX3_numberIn_30 : decode cX3_numberIn 30 = .ok (.ireturn, 1) := by decide +kernel
set_option maxRecDepth 20000 in
theorem ggX3_reopenDrifted_X3_fillInputs : GoodIn wsX3_reopenDrifted wsX3_fillInputs := goodIn_ca (goodIn_r _ [8, 9, 2, 10, 11, 12, 13, 7, 14, 15, 16, 17, 18, 19, 20, 21, 22, 23, 24, 65, 66, 67, 68, 69, 70, 71, 79, 80, 81, 82, 83] (by decide +kernel) (by decide +kernel)) (goodIn_sub (fun _ h => List.mem_cons_of_mem _ (List.mem_append_right _ h)) (by decide +kernel))
set_option maxRecDepth 20000 in
theorem gX3_reopenDrifted_X3_fillInputs : GoodIn wsX3_reopenDrifted (wsV RX3 98 RX3 yX3_fillInputs wsX3_fillInputs) := goodIn_app (goodIn_of _ (by decide +kernel)) ggX3_reopenDrifted_X3_fillInputs
set_option maxRecDepth 20000 in
theorem ggX3_reopenDrifted_X1_findAll : GoodIn wsX3_reopenDrifted wsX1_findAll := goodIn_ca (goodIn_r _ [28, 29, 30, 31, 32, 33, 26, 34, 35, 36, 37, 38, 39, 40, 7, 41, 42, 43, 44, 45, 46, 47, 72, 73, 74, 75, 76, 77, 78] (by decide +kernel) (by decide +kernel)) (goodIn_sub (fun _ h => List.mem_cons_of_mem _ (List.mem_append_right _ h)) (by decide +kernel))
set_option maxRecDepth 20000 in
theorem gX3_reopenDrifted_X1_findAll_n102 : GoodIn wsX3_reopenDrifted (wsX1_findAll) := ggX3_reopenDrifted_X1_findAll
set_option maxRecDepth 20000 in
theorem ggX3_reopenDrifted_X3_cell : GoodIn wsX3_reopenDrifted wsX3_cell := goodIn_r _ [41] (by decide +kernel) (by decide +kernel)
set_option maxRecDepth 20000 in
theorem gX3_reopenDrifted_X3_cell : GoodIn wsX3_reopenDrifted (va_wsS RX3 129 yX3_cell wsX3_cell) := goodIn_app (goodIn_of _ (by decide +kernel)) ggX3_reopenDrifted_X3_cell
set_option maxRecDepth 20000 in
theorem ggX3_reopenDrifted_X0_reopenIfDrifted : GoodIn wsX3_reopenDrifted wsX0_reopenIfDrifted := goodIn_ca (goodIn_r _ [52, 53, 54, 55, 56, 50, 57, 58, 59, 60, 61, 62, 63, 64, 84, 85, 86] (by decide +kernel) (by decide +kernel)) (goodIn_sub (fun _ h => List.mem_cons_of_mem _ (List.mem_append_right _ h)) (by decide +kernel))
set_option maxRecDepth 20000 in
theorem gX3_reopenDrifted_X0_reopenIfDrifted_n159 : GoodIn wsX3_reopenDrifted (wsX0_reopenIfDrifted) := ggX3_reopenDrifted_X0_reopenIfDrifted
theorem dX3_reopenDrifted_0 : decode cX3_reopenDrifted 0 = .ok (.iconst 0, 1) := by decide +kernel
theorem dX3_reopenDrifted_1 : decode cX3_reopenDrifted 1 = .ok (.istore_n 1, 1) := by decide +kernel
theorem dX3_reopenDrifted_2 : decode cX3_reopenDrifted 2 = .ok (.iconst 0, 1) := by decide +kernel
theorem dX3_reopenDrifted_3 : decode cX3_reopenDrifted 3 = .ok (.istore_n 2, 1) := by decide +kernel
theorem dX3_reopenDrifted_4 : decode cX3_reopenDrifted 4 = .ok (.iload_n 2, 1) := by decide +kernel
theorem dX3_reopenDrifted_5 : decode cX3_reopenDrifted 5 = .ok (.bipush 12, 2) := by decide +kernel
theorem dX3_reopenDrifted_7 : decode cX3_reopenDrifted 7 = .ok (.if_icmp .ge 75, 3) := by decide +kernel
theorem dX3_reopenDrifted_10 : decode cX3_reopenDrifted 10 = .ok (.aload_n 0, 1) := by decide +kernel
theorem dX3_reopenDrifted_11 : decode cX3_reopenDrifted 11 = .ok (.iconst 0, 1) := by decide +kernel
theorem dX3_reopenDrifted_12 : decode cX3_reopenDrifted 12 = .ok (.iload_n 2, 1) := by decide +kernel
theorem dX3_reopenDrifted_13 : decode cX3_reopenDrifted 13 = .ok (.bipush 6, 2) := by decide +kernel
theorem dX3_reopenDrifted_15 : decode cX3_reopenDrifted 15 = .ok (.invokevirtual 98, 3) := by decide +kernel
theorem dX3_reopenDrifted_18 : decode cX3_reopenDrifted 18 = .ok (.aload_n 0, 1) := by decide +kernel
theorem dX3_reopenDrifted_19 : decode cX3_reopenDrifted 19 = .ok (.getfield 23, 3) := by decide +kernel
theorem dX3_reopenDrifted_22 : decode cX3_reopenDrifted 22 = .ok (.iload_n 2, 1) := by decide +kernel
theorem dX3_reopenDrifted_23 : decode cX3_reopenDrifted 23 = .ok (.aload_n 0, 1) := by decide +kernel
theorem dX3_reopenDrifted_24 : decode cX3_reopenDrifted 24 = .ok (.getfield 34, 3) := by decide +kernel
theorem dX3_reopenDrifted_27 : decode cX3_reopenDrifted 27 = .ok (.invokevirtual 102, 3) := by decide +kernel
theorem dX3_reopenDrifted_30 : decode cX3_reopenDrifted 30 = .ok (.iconst 0, 1) := by decide +kernel
theorem dX3_reopenDrifted_31 : decode cX3_reopenDrifted 31 = .ok (.istore_n 3, 1) := by decide +kernel
theorem dX3_reopenDrifted_32 : decode cX3_reopenDrifted 32 = .ok (.iload_n 3, 1) := by decide +kernel
theorem dX3_reopenDrifted_33 : decode cX3_reopenDrifted 33 = .ok (.aload_n 0, 1) := by decide +kernel
theorem dX3_reopenDrifted_34 : decode cX3_reopenDrifted 34 = .ok (.getfield 23, 3) := by decide +kernel
theorem dX3_reopenDrifted_37 : decode cX3_reopenDrifted 37 = .ok (.getfield 71, 3) := by decide +kernel
theorem dX3_reopenDrifted_40 : decode cX3_reopenDrifted 40 = .ok (.if_icmp .ge 36, 3) := by decide +kernel
theorem dX3_reopenDrifted_43 : decode cX3_reopenDrifted 43 = .ok (.aload_n 0, 1) := by decide +kernel
theorem dX3_reopenDrifted_44 : decode cX3_reopenDrifted 44 = .ok (.getfield 30, 3) := by decide +kernel
theorem dX3_reopenDrifted_47 : decode cX3_reopenDrifted 47 = .ok (.iload_n 3, 1) := by decide +kernel
theorem dX3_reopenDrifted_48 : decode cX3_reopenDrifted 48 = .ok (.iload_n 2, 1) := by decide +kernel
theorem dX3_reopenDrifted_49 : decode cX3_reopenDrifted 49 = .ok (.invokestatic 129, 3) := by decide +kernel
theorem dX3_reopenDrifted_52 : decode cX3_reopenDrifted 52 = .ok (.aload_n 0, 1) := by decide +kernel
theorem dX3_reopenDrifted_53 : decode cX3_reopenDrifted 53 = .ok (.getfield 23, 3) := by decide +kernel
theorem dX3_reopenDrifted_56 : decode cX3_reopenDrifted 56 = .ok (.getfield 106, 3) := by decide +kernel
theorem dX3_reopenDrifted_59 : decode cX3_reopenDrifted 59 = .ok (.iload_n 3, 1) := by decide +kernel
theorem dX3_reopenDrifted_60 : decode cX3_reopenDrifted 60 = .ok (.iaload, 1) := by decide +kernel
theorem dX3_reopenDrifted_61 : decode cX3_reopenDrifted 61 = .ok (.invokevirtual 159, 3) := by decide +kernel
theorem dX3_reopenDrifted_64 : decode cX3_reopenDrifted 64 = .ok (.ifCond .eq 6, 3) := by decide +kernel
theorem dX3_reopenDrifted_67 : decode cX3_reopenDrifted 67 = .ok (.iinc 1 1, 3) := by decide +kernel
theorem dX3_reopenDrifted_70 : decode cX3_reopenDrifted 70 = .ok (.iinc 3 1, 3) := by decide +kernel
theorem dX3_reopenDrifted_73 : decode cX3_reopenDrifted 73 = .ok (.goto (-41), 3) := by decide +kernel
theorem dX3_reopenDrifted_76 : decode cX3_reopenDrifted 76 = .ok (.iinc 2 1, 3) := by decide +kernel
theorem dX3_reopenDrifted_79 : decode cX3_reopenDrifted 79 = .ok (.goto (-75), 3) := by decide +kernel
theorem dX3_reopenDrifted_82 : decode cX3_reopenDrifted 82 = .ok (.iload_n 1, 1) := by decide +kernel
theorem dX3_reopenDrifted_83 : decode cX3_reopenDrifted 83 = .ok (.ireturn, 1) := by decide +kernel
theorem dX4_init_0 : decode cX4_init 0 = .ok (.aload_n 0, 1) := by decide +kernel
theorem dX4_init_1 : decode cX4_init 1 = .ok (.invokespecial 1, 3) := by decide +kernel
theorem dX4_init_4 : decode cX4_init 4 = .ok (.aload_n 0, 1) := by decide +kernel
theorem dX4_init_5 : decode cX4_init 5 = .ok (.bipush 6, 2) := by decide +kernel
theorem dX4_init_7 : decode cX4_init 7 = .ok (.newarray .int, 2) := by decide +kernel
theorem dX4_init_9 : decode cX4_init 9 = .ok (.putfield 7, 3) := by decide +kernel
theorem dX4_init_12 : decode cX4_init 12 = .ok (.aload_n 0, 1) := by decide +kernel
theorem dX4_init_13 : decode cX4_init 13 = .ok (.bipush 10, 2) := by decide +kernel
theorem dX4_init_15 : decode cX4_init 15 = .ok (.newarray .int, 2) := by decide +kernel
theorem dX4_init_17 : decode cX4_init 17 = .ok (.putfield 13, 3) := by decide +kernel
theorem dX4_init_20 : decode cX4_init 20 = .ok (.aload_n 0, 1) := by decide +kernel
theorem dX4_init_21 : decode cX4_init 21 = .ok (.bipush 10, 2) := by decide +kernel
theorem dX4_init_23 : decode cX4_init 23 = .ok (.newarray .int, 2) := by decide +kernel
theorem dX4_init_25 : decode cX4_init 25 = .ok (.putfield 16, 3) := by decide +kernel
theorem dX4_init_28 : decode cX4_init 28 = .ok (.aload_n 0, 1) := by decide +kernel
theorem dX4_init_29 : decode cX4_init 29 = .ok (.bipush 10, 2) := by decide +kernel
theorem dX4_init_31 : decode cX4_init 31 = .ok (.newarray .int, 2) := by decide +kernel
theorem dX4_init_33 : decode cX4_init 33 = .ok (.putfield 19, 3) := by decide +kernel
theorem dX4_init_36 : decode cX4_init 36 = .ok (.aload_n 0, 1) := by decide +kernel
theorem dX4_init_37 : decode cX4_init 37 = .ok (.iconst 4, 1) := by decide +kernel
theorem dX4_init_38 : decode cX4_init 38 = .ok (.newarray .int, 2) := by decide +kernel
theorem dX4_init_40 : decode cX4_init 40 = .ok (.putfield 22, 3) := by decide +kernel
theorem dX4_init_43 : decode cX4_init 43 = .ok (.aload_n 0, 1) := by decide +kernel
theorem dX4_init_44 : decode cX4_init 44 = .ok (.bipush 12, 2) := by decide +kernel
theorem dX4_init_46 : decode cX4_init 46 = .ok (.newarray .int, 2) := by decide +kernel
theorem dX4_init_48 : decode cX4_init 48 = .ok (.putfield 25, 3) := by decide +kernel
theorem dX4_init_51 : decode cX4_init 51 = .ok (.aload_n 0, 1) := by decide +kernel
theorem dX4_init_52 : decode cX4_init 52 = .ok (.bipush 12, 2) := by decide +kernel
theorem dX4_init_54 : decode cX4_init 54 = .ok (.newarray .int, 2) := by decide +kernel
theorem dX4_init_56 : decode cX4_init 56 = .ok (.putfield 28, 3) := by decide +kernel
theorem dX4_init_59 : decode cX4_init 59 = .ok (.aload_n 0, 1) := by decide +kernel
theorem dX4_init_60 : decode cX4_init 60 = .ok (.bipush 12, 2) := by decide +kernel
theorem dX4_init_62 : decode cX4_init 62 = .ok (.newarray .int, 2) := by decide +kernel
theorem dX4_init_64 : decode cX4_init 64 = .ok (.putfield 31, 3) := by decide +kernel
theorem dX4_init_67 : decode cX4_init 67 = .ok (.aload_n 0, 1) := by decide +kernel
theorem dX4_init_68 : decode cX4_init 68 = .ok (.bipush 12, 2) := by decide +kernel
theorem dX4_init_70 : decode cX4_init 70 = .ok (.newarray .int, 2) := by decide +kernel
theorem dX4_init_72 : decode cX4_init 72 = .ok (.putfield 34, 3) := by decide +kernel
theorem dX4_init_75 : decode cX4_init 75 = .ok (.aload_n 0, 1) := by decide +kernel
theorem dX4_init_76 : decode cX4_init 76 = .ok (.bipush 120, 2) := by decide +kernel
theorem dX4_init_78 : decode cX4_init 78 = .ok (.newarray .int, 2) := by decide +kernel
theorem dX4_init_80 : decode cX4_init 80 = .ok (.putfield 37, 3) := by decide +kernel
theorem dX4_init_83 : decode cX4_init 83 = .ok (.aload_n 0, 1) := by decide +kernel
theorem dX4_init_84 : decode cX4_init 84 = .ok (.bipush 120, 2) := by decide +kernel
theorem dX4_init_86 : decode cX4_init 86 = .ok (.newarray .int, 2) := by decide +kernel
theorem dX4_init_88 : decode cX4_init 88 = .ok (.putfield 40, 3) := by decide +kernel
theorem dX4_init_91 : decode cX4_init 91 = .ok (.aload_n 0, 1) := by decide +kernel
theorem dX4_init_92 : decode cX4_init 92 = .ok (.bipush 120, 2) := by decide +kernel
theorem dX4_init_94 : decode cX4_init 94 = .ok (.newarray .int, 2) := by decide +kernel
theorem dX4_init_96 : decode cX4_init 96 = .ok (.putfield 43, 3) := by decide +kernel
theorem dX4_init_99 : decode cX4_init 99 = .ok (.aload_n 0, 1) := by decide +kernel
theorem dX4_init_100 : decode cX4_init 100 = .ok (.bipush 120, 2) := by decide +kernel
theorem dX4_init_102 : decode cX4_init 102 = .ok (.newarray .boolean, 2) := by decide +kernel
theorem dX4_init_104 : decode cX4_init 104 = .ok (.putfield 46, 3) := by decide +kernel
theorem dX4_init_107 : decode cX4_init 107 = .ok (.aload_n 0, 1) := by decide +kernel
theorem dX4_init_108 : decode cX4_init 108 = .ok (.bipush 10, 2) := by decide +kernel
theorem dX4_init_110 : decode cX4_init 110 = .ok (.newarray .boolean, 2) := by decide +kernel
theorem dX4_init_112 : decode cX4_init 112 = .ok (.putfield 50, 3) := by decide +kernel
theorem dX4_init_115 : decode cX4_init 115 = .ok (.aload_n 0, 1) := by decide +kernel
theorem dX4_init_116 : decode cX4_init 116 = .ok (.bipush 120, 2) := by decide +kernel
theorem dX4_init_118 : decode cX4_init 118 = .ok (.newarray .char, 2) := by decide +kernel
theorem dX4_init_120 : decode cX4_init 120 = .ok (.putfield 53, 3) := by decide +kernel
theorem dX4_init_123 : decode cX4_init 123 = .ok (.aload_n 0, 1) := by decide +kernel
theorem dX4_init_124 : decode cX4_init 124 = .ok (.bipush 10, 2) := by decide +kernel
theorem dX4_init_126 : decode cX4_init 126 = .ok (.newarray .long, 2) := by decide +kernel
theorem dX4_init_128 : decode cX4_init 128 = .ok (.putfield 57, 3) := by decide +kernel
end
section
theorem dX4_init_131 : decode cX4_init 131 = .ok (.aload_n 0, 1) := by decide +kernel
theorem dX4_init_132 : decode cX4_init 132 = .ok (.iconst 0, 1) := by decide +kernel
theorem dX4_init_133 : decode cX4_init 133 = .ok (.putfield 61, 3) := by decide +kernel
theorem dX4_init_136 : decode cX4_init 136 = .ok (.aload_n 0, 1) := by decide +kernel
theorem dX4_init_137 : decode cX4_init 137 = .ok (.iconst 0, 1) := by decide +kernel
theorem dX4_init_138 : decode cX4_init 138 = .ok (.putfield 65, 3) := by decide +kernel
theorem dX4_init_141 : decode cX4_init 141 = .ok (.aload_n 0, 1) := by decide +kernel
theorem dX4_init_142 : decode cX4_init 142 = .ok (.iconst 0, 1) := by decide +kernel
theorem dX4_init_143 : decode cX4_init 143 = .ok (.putfield 68, 3) := by decide +kernel
theorem dX4_init_146 : decode cX4_init 146 = .ok (.aload_n 0, 1) := by decide +kernel
theorem dX4_init_147 : decode cX4_init 147 = .ok (.iconst 1, 1) := by decide +kernel
theorem dX4_init_148 : decode cX4_init 148 = .ok (.putfield 71, 3) := by decide +kernel
theorem dX4_init_151 : decode cX4_init 151 = .ok (.aload_n 0, 1) := by decide +kernel
theorem dX4_init_152 : decode cX4_init 152 = .ok (.iconst 0, 1) := by decide +kernel
theorem dX4_init_153 : decode cX4_init 153 = .ok (.putfield 74, 3) := by decide +kernel
theorem dX4_init_156 : decode cX4_init 156 = .ok (.aload_n 0, 1) := by decide +kernel
theorem dX4_init_157 : decode cX4_init 157 = .ok (.iconst 0, 1) := by decide +kernel
theorem dX4_init_158 : decode cX4_init 158 = .ok (.putfield 77, 3) := by decide +kernel
theorem dX4_init_161 : decode cX4_init 161 = .ok (.aload_n 0, 1) := by decide +kernel
theorem dX4_init_162 : decode cX4_init 162 = .ok (.getfield 22, 3) := by decide +kernel
theorem dX4_init_165 : decode cX4_init 165 = .ok (.iconst 0, 1) := by decide +kernel
theorem dX4_init_166 : decode cX4_init 166 = .ok (.iconst (-1), 1) := by decide +kernel
theorem dX4_init_167 : decode cX4_init 167 = .ok (.iastore, 1) := by decide +kernel
theorem dX4_init_168 : decode cX4_init 168 = .ok (.iconst 0, 1) := by decide +kernel
theorem dX4_init_169 : decode cX4_init 169 = .ok (.istore_n 1, 1) := by decide +kernel
theorem dX4_init_170 : decode cX4_init 170 = .ok (.iload_n 1, 1) := by decide +kernel
theorem dX4_init_171 : decode cX4_init 171 = .ok (.bipush 120, 2) := by decide +kernel
theorem dX4_init_173 : decode cX4_init 173 = .ok (.if_icmp .ge 17, 3) := by decide +kernel
theorem dX4_init_176 : decode cX4_init 176 = .ok (.aload_n 0, 1) := by decide +kernel
theorem dX4_init_177 : decode cX4_init 177 = .ok (.getfield 53, 3) := by decide +kernel
theorem dX4_init_180 : decode cX4_init 180 = .ok (.iload_n 1, 1) := by decide +kernel
theorem dX4_init_181 : decode cX4_init 181 = .ok (.bipush 45, 2) := by decide +kernel
theorem dX4_init_183 : decode cX4_init 183 = .ok (.castore, 1) := by decide +kernel
theorem dX4_init_184 : decode cX4_init 184 = .ok (.iinc 1 1, 3) := by decide +kernel
theorem dX4_init_187 : decode cX4_init 187 = .ok (.goto (-17), 3) := by decide +kernel
theorem dX4_init_190 : decode cX4_init 190 = .ok (.return_, 1) := by decide +kernel
theorem dX4_thrown_0 : decode cX4_thrown 0 = .ok (.aload_n 0, 1) := by decide +kernel
theorem dX4_thrown_1 : decode cX4_thrown 1 = .ok (.getfield 61, 3) := by decide +kernel
theorem dX4_thrown_4 : decode cX4_thrown 4 = .ok (.ireturn, 1) := by decide +kernel
theorem dX4_in_0 : decode cX4_in 0 = .ok (.iload_n 0, 1) := by decide +kernel
theorem dX4_in_1 : decode cX4_in 1 = .ok (.iload_n 1, 1) := by decide +kernel
theorem dX4_in_2 : decode cX4_in 2 = .ok (.if_icmp .lt 12, 3) := by decide +kernel
theorem dX4_in_5 : decode cX4_in 5 = .ok (.iload_n 0, 1) := by decide +kernel
theorem dX4_in_6 : decode cX4_in 6 = .ok (.iload_n 2, 1) := by decide +kernel
theorem dX4_in_7 : decode cX4_in 7 = .ok (.if_icmp .gt 7, 3) := by decide +kernel
theorem dX4_in_10 : decode cX4_in 10 = .ok (.iconst 1, 1) := by decide +kernel
theorem dX4_in_11 : decode cX4_in 11 = .ok (.goto 4, 3) := by decide +kernel
theorem dX4_in_14 : decode cX4_in 14 = .ok (.iconst 0, 1) := by decide +kernel
theorem dX4_in_15 : decode cX4_in 15 = .ok (.ireturn, 1) := by decide +kernel
theorem dX4_checked_0 : decode cX4_checked 0 = .ok (.aload_n 0, 1) := by decide +kernel
theorem dX4_checked_1 : decode cX4_checked 1 = .ok (.iload_n 1, 1) := by decide +kernel
theorem dX4_checked_2 : decode cX4_checked 2 = .ok (.ifCond .eq 7, 3) := by decide +kernel
theorem dX4_checked_5 : decode cX4_checked 5 = .ok (.iconst 0, 1) := by decide +kernel
theorem dX4_checked_6 : decode cX4_checked 6 = .ok (.goto 4, 3) := by decide +kernel
theorem dX4_checked_9 : decode cX4_checked 9 = .ok (.iconst 1, 1) := by decide +kernel
theorem dX4_checked_10 : decode cX4_checked 10 = .ok (.putfield 61, 3) := by decide +kernel
theorem dX4_checked_13 : decode cX4_checked 13 = .ok (.aload_n 0, 1) := by decide +kernel
theorem dX4_checked_14 : decode cX4_checked 14 = .ok (.getfield 61, 3) := by decide +kernel
theorem dX4_checked_17 : decode cX4_checked 17 = .ok (.ireturn, 1) := by decide +kernel
set_option maxRecDepth 20000 in
theorem ggX4_isDriver_X4_in : GoodIn wsX4_isDriver wsX4_in := goodIn_r _ [5] (by decide +kernel) (by decide +kernel)
set_option maxRecDepth 20000 in
theorem gX4_isDriver_X4_in : GoodIn wsX4_isDriver (va_wsS RX4 80 yX4_in wsX4_in) := goodIn_app (goodIn_of _ (by decide +kernel)) ggX4_isDriver_X4_in
theorem dX4_isDriver_0 : decode cX4_isDriver 0 = .ok (.iload_n 1, 1) := by decide +kernel
theorem dX4_isDriver_1 : decode cX4_isDriver 1 = .ok (.iconst 0, 1) := by decide +kernel
theorem dX4_isDriver_2 : decode cX4_isDriver 2 = .ok (.aload_n 0, 1) := by decide +kernel
theorem dX4_isDriver_3 : decode cX4_isDriver 3 = .ok (.getfield 65, 3) := by decide +kernel
theorem dX4_isDriver_6 : decode cX4_isDriver 6 = .ok (.iconst 1, 1) := by decide +kernel
theorem dX4_isDriver_7 : decode cX4_isDriver 7 = .ok (.isub, 1) := by decide +kernel
theorem dX4_isDriver_8 : decode cX4_isDriver 8 = .ok (.invokestatic 80, 3) := by decide +kernel
theorem dX4_isDriver_11 : decode cX4_isDriver 11 = .ok (.ireturn, 1) := by decide +kernel
set_option maxRecDepth 20000 in
theorem ggX4_isLine_X4_in : GoodIn wsX4_isLine wsX4_in := goodIn_r _ [5] (by decide +kernel) (by decide +kernel)
set_option maxRecDepth 20000 in
theorem gX4_isLine_X4_in : GoodIn wsX4_isLine (va_wsS RX4 80 yX4_in wsX4_in) := goodIn_app (goodIn_of _ (by decide +kernel)) ggX4_isLine_X4_in
theorem dX4_isLine_0 : decode cX4_isLine 0 = .ok (.iload_n 1, 1) := by decide +kernel
theorem dX4_isLine_1 : decode cX4_isLine 1 = .ok (.iconst 0, 1) := by decide +kernel
theorem dX4_isLine_2 : decode cX4_isLine 2 = .ok (.aload_n 0, 1) := by decide +kernel
theorem dX4_isLine_3 : decode cX4_isLine 3 = .ok (.getfield 68, 3) := by decide +kernel
theorem dX4_isLine_6 : decode cX4_isLine 6 = .ok (.iconst 1, 1) := by decide +kernel
theorem dX4_isLine_7 : decode cX4_isLine 7 = .ok (.isub, 1) := by decide +kernel
theorem dX4_isLine_8 : decode cX4_isLine 8 = .ok (.invokestatic 80, 3) := by decide +kernel
theorem dX4_isLine_11 : decode cX4_isLine 11 = .ok (.ireturn, 1) := by decide +kernel
set_option maxRecDepth 20000 in
theorem ggX4_isScenario_X4_in : GoodIn wsX4_isScenario wsX4_in := goodIn_r _ [5] (by decide +kernel) (by decide +kernel)
set_option maxRecDepth 20000 in
theorem gX4_isScenario_X4_in : GoodIn wsX4_isScenario (va_wsS RX4 80 yX4_in wsX4_in) := goodIn_app (goodIn_of _ (by decide +kernel)) ggX4_isScenario_X4_in
theorem dX4_isScenario_0 : decode cX4_isScenario 0 = .ok (.iload_n 1, 1) := by decide +kernel
theorem dX4_isScenario_1 : decode cX4_isScenario 1 = .ok (.iconst 0, 1) := by decide +kernel
theorem dX4_isScenario_2 : decode cX4_isScenario 2 = .ok (.aload_n 0, 1) := by decide +kernel
theorem dX4_isScenario_3 : decode cX4_isScenario 3 = .ok (.getfield 71, 3) := by decide +kernel
theorem dX4_isScenario_6 : decode cX4_isScenario 6 = .ok (.iconst 1, 1) := by decide +kernel
theorem dX4_isScenario_7 : decode cX4_isScenario 7 = .ok (.isub, 1) := by decide +kernel
theorem dX4_isScenario_8 : decode cX4_isScenario 8 = .ok (.invokestatic 80, 3) := by decide +kernel
theorem dX4_isScenario_11 : decode cX4_isScenario 11 = .ok (.ireturn, 1) := by decide +kernel
set_option maxRecDepth 20000 in
theorem ggX4_isMonth_X4_in : GoodIn wsX4_isMonth wsX4_in := goodIn_r _ [4] (by decide +kernel) (by decide +kernel)
set_option maxRecDepth 20000 in
theorem gX4_isMonth_X4_in : GoodIn wsX4_isMonth (va_wsS RX4 80 yX4_in wsX4_in) := goodIn_app (goodIn_of _ (by decide +kernel)) ggX4_isMonth_X4_in
theorem dX4_isMonth_0 : decode cX4_isMonth 0 = .ok (.iload_n 0, 1) := by decide +kernel
theorem dX4_isMonth_1 : decode cX4_isMonth 1 = .ok (.iconst 0, 1) := by decide +kernel
theorem dX4_isMonth_2 : decode cX4_isMonth 2 = .ok (.bipush 11, 2) := by decide +kernel
theorem dX4_isMonth_4 : decode cX4_isMonth 4 = .ok (.invokestatic 80, 3) := by decide +kernel
theorem dX4_isMonth_7 : decode cX4_isMonth 7 = .ok (.ireturn, 1) := by decide +kernel
theorem dX4_at_0 : decode cX4_at 0 = .ok (.bipush 12, 2) := by decide +kernel
theorem dX4_at_2 : decode cX4_at 2 = .ok (.iload_n 0, 1) := by decide +kernel
theorem dX4_at_3 : decode cX4_at 3 = .ok (.imul, 1) := by decide +kernel
theorem dX4_at_4 : decode cX4_at 4 = .ok (.iload_n 1, 1) := by decide +kernel
theorem dX4_at_5 : decode cX4_at 5 = .ok (.iadd, 1) := by decide +kernel
theorem dX4_at_6 : decode cX4_at 6 = .ok (.ireturn, 1) := by decide +kernel
theorem dX4_isUnder_0 : decode cX4_isUnder 0 = .ok (.iload_n 1, 1) := by decide +kernel
theorem dX4_isUnder_1 : decode cX4_isUnder 1 = .ok (.istore_n 3, 1) := by decide +kernel
theorem dX4_isUnder_2 : decode cX4_isUnder 2 = .ok (.iload_n 3, 1) := by decide +kernel
theorem dX4_isUnder_3 : decode cX4_isUnder 3 = .ok (.ifCond .lt 18, 3) := by decide +kernel
theorem dX4_isUnder_6 : decode cX4_isUnder 6 = .ok (.iload_n 3, 1) := by decide +kernel
theorem dX4_isUnder_7 : decode cX4_isUnder 7 = .ok (.iload_n 2, 1) := by decide +kernel
theorem dX4_isUnder_8 : decode cX4_isUnder 8 = .ok (.if_icmp .eq 13, 3) := by decide +kernel
theorem dX4_isUnder_11 : decode cX4_isUnder 11 = .ok (.aload_n 0, 1) := by decide +kernel
theorem dX4_isUnder_12 : decode cX4_isUnder 12 = .ok (.getfield 22, 3) := by decide +kernel
theorem dX4_isUnder_15 : decode cX4_isUnder 15 = .ok (.iload_n 3, 1) := by decide +kernel
theorem dX4_isUnder_16 : decode cX4_isUnder 16 = .ok (.iaload, 1) := by decide +kernel
theorem dX4_isUnder_17 : decode cX4_isUnder 17 = .ok (.istore_n 3, 1) := by decide +kernel
theorem dX4_isUnder_18 : decode cX4_isUnder 18 = .ok (.goto (-16), 3) := by decide +kernel
theorem dX4_isUnder_21 : decode cX4_isUnder 21 = .ok (.iload_n 3, 1) := by decide +kernel
theorem dX4_isUnder_22 : decode cX4_isUnder 22 = .ok (.iload_n 2, 1) := by decide +kernel
theorem dX4_isUnder_23 : decode cX4_isUnder 23 = .ok (.if_icmp .ne 7, 3) := by decide +kernel
theorem dX4_isUnder_26 : decode cX4_isUnder 26 = .ok (.iconst 1, 1) := by decide +kernel
theorem dX4_isUnder_27 : decode cX4_isUnder 27 = .ok (.goto 4, 3) := by decide +kernel
theorem dX4_isUnder_30 : decode cX4_isUnder 30 = .ok (.iconst 0, 1) := by decide +kernel
theorem dX4_isUnder_31 : decode cX4_isUnder 31 = .ok (.ireturn, 1) := by decide +kernel
set_option maxRecDepth 20000 in
theorem ggX4_valueIn_X4_isUnder : GoodIn wsX4_valueIn wsX4_isUnder := goodIn_ca (goodIn_r _ [11, 12, 13, 14, 15, 16, 17, 18, 19, 20, 21, 22, 23, 24, 25, 26, 27, 28, 29, 30, 31, 32, 33, 34] (by decide +kernel) (by decide +kernel)) (goodIn_sub (fun _ h => List.mem_cons_of_mem _ (List.mem_append_right _ h)) (by decide +kernel))
set_option maxRecDepth 20000 in
theorem gX4_valueIn_X4_isUnder : GoodIn wsX4_valueIn (wsV RX4 84 RX4 yX4_isUnder wsX4_isUnder) := goodIn_app (goodIn_of _ (by decide +kernel)) ggX4_valueIn_X4_isUnder
theorem dX4_valueIn_0 : decode cX4_valueIn 0 = .ok (.aload_n 0, 1) := by decide +kernel
theorem dX4_valueIn_1 : decode cX4_valueIn 1 = .ok (.getfield 7, 3) := by decide +kernel
theorem dX4_valueIn_4 : decode cX4_valueIn 4 = .ok (.iload_n 2, 1) := by decide +kernel
theorem dX4_valueIn_5 : decode cX4_valueIn 5 = .ok (.iaload, 1) := by decide +kernel
theorem dX4_valueIn_6 : decode cX4_valueIn 6 = .ok (.istore 5, 2) := by decide +kernel
theorem dX4_valueIn_8 : decode cX4_valueIn 8 = .ok (.iconst 0, 1) := by decide +kernel
theorem dX4_valueIn_9 : decode cX4_valueIn 9 = .ok (.istore 6, 2) := by decide +kernel
theorem dX4_valueIn_11 : decode cX4_valueIn 11 = .ok (.iload 6, 2) := by decide +kernel
theorem dX4_valueIn_13 : decode cX4_valueIn 13 = .ok (.aload_n 0, 1) := by decide +kernel
theorem dX4_valueIn_14 : decode cX4_valueIn 14 = .ok (.getfield 74, 3) := by decide +kernel
theorem dX4_valueIn_17 : decode cX4_valueIn 17 = .ok (.if_icmp .ge 64, 3) := by decide +kernel
theorem dX4_valueIn_20 : decode cX4_valueIn 20 = .ok (.aload_n 0, 1) := by decide +kernel
theorem dX4_valueIn_21 : decode cX4_valueIn 21 = .ok (.getfield 28, 3) := by decide +kernel
theorem dX4_valueIn_24 : decode cX4_valueIn 24 = .ok (.iload 6, 2) := by decide +kernel
theorem dX4_valueIn_26 : decode cX4_valueIn 26 = .ok (.iaload, 1) := by decide +kernel
theorem dX4_valueIn_27 : decode cX4_valueIn 27 = .ok (.iload_n 2, 1) := by decide +kernel
theorem dX4_valueIn_28 : decode cX4_valueIn 28 = .ok (.if_icmp .ne 47, 3) := by decide +kernel
theorem dX4_valueIn_31 : decode cX4_valueIn 31 = .ok (.iload_n 2, 1) := by decide +kernel
theorem dX4_valueIn_32 : decode cX4_valueIn 32 = .ok (.iload 4, 2) := by decide +kernel
theorem dX4_valueIn_34 : decode cX4_valueIn 34 = .ok (.if_icmp .ge 41, 3) := by decide +kernel
theorem dX4_valueIn_37 : decode cX4_valueIn 37 = .ok (.aload_n 0, 1) := by decide +kernel
theorem dX4_valueIn_38 : decode cX4_valueIn 38 = .ok (.getfield 31, 3) := by decide +kernel
theorem dX4_valueIn_41 : decode cX4_valueIn 41 = .ok (.iload 6, 2) := by decide +kernel
theorem dX4_valueIn_43 : decode cX4_valueIn 43 = .ok (.iaload, 1) := by decide +kernel
theorem dX4_valueIn_44 : decode cX4_valueIn 44 = .ok (.iload_n 3, 1) := by decide +kernel
theorem dX4_valueIn_45 : decode cX4_valueIn 45 = .ok (.if_icmp .gt 30, 3) := by decide +kernel
theorem dX4_valueIn_48 : decode cX4_valueIn 48 = .ok (.aload_n 0, 1) := by decide +kernel
theorem dX4_valueIn_49 : decode cX4_valueIn 49 = .ok (.iload_n 1, 1) := by decide +kernel
theorem dX4_valueIn_50 : decode cX4_valueIn 50 = .ok (.aload_n 0, 1) := by decide +kernel
theorem dX4_valueIn_51 : decode cX4_valueIn 51 = .ok (.getfield 25, 3) := by decide +kernel
theorem dX4_valueIn_54 : decode cX4_valueIn 54 = .ok (.iload 6, 2) := by decide +kernel
theorem dX4_valueIn_56 : decode cX4_valueIn 56 = .ok (.iaload, 1) := by decide +kernel
theorem dX4_valueIn_57 : decode cX4_valueIn 57 = .ok (.invokevirtual 84, 3) := by decide +kernel
theorem dX4_valueIn_60 : decode cX4_valueIn 60 = .ok (.ifCond .eq 15, 3) := by decide +kernel
theorem dX4_valueIn_63 : decode cX4_valueIn 63 = .ok (.iload 5, 2) := by decide +kernel
theorem dX4_valueIn_65 : decode cX4_valueIn 65 = .ok (.aload_n 0, 1) := by decide +kernel
theorem dX4_valueIn_66 : decode cX4_valueIn 66 = .ok (.getfield 34, 3) := by decide +kernel
theorem dX4_valueIn_69 : decode cX4_valueIn 69 = .ok (.iload 6, 2) := by decide +kernel
theorem dX4_valueIn_71 : decode cX4_valueIn 71 = .ok (.iaload, 1) := by decide +kernel
theorem dX4_valueIn_72 : decode cX4_valueIn 72 = .ok (.iadd, 1) := by decide +kernel
theorem dX4_valueIn_73 : decode cX4_valueIn 73 = .ok (.istore 5, 2) := by decide +kernel
theorem dX4_valueIn_75 : decode cX4_valueIn 75 = .ok (.iinc 6 1, 3) := by decide +kernel
theorem dX4_valueIn_78 : decode cX4_valueIn 78 = .ok (.goto (-67), 3) := by decide +kernel
theorem dX4_valueIn_81 : decode cX4_valueIn 81 = .ok (.iload 5, 2) := by decide +kernel
theorem dX4_valueIn_83 : decode cX4_valueIn 83 = .ok (.ireturn, 1) := by decide +kernel
set_option maxRecDepth 20000 in
theorem ggX4_byKind_X4_valueIn : GoodIn wsX4_byKind wsX4_valueIn := goodIn_ca (goodIn_r _ [10, 11, 12, 13, 14, 15, 16, 17, 18, 19, 9, 20, 21, 22, 23, 24, 25, 26, 27, 28, 29, 30, 31, 32, 33, 34, 35, 36, 37, 38, 39, 40, 41, 42, 43] (by decide +kernel) (by decide +kernel)) (goodIn_sub (fun _ h => List.mem_cons_of_mem _ (List.mem_append_right _ h)) (by decide +kernel))
set_option maxRecDepth 20000 in
theorem gX4_byKind_X4_valueIn : GoodIn wsX4_byKind (wsV RX4 88 RX4 yX4_valueIn wsX4_valueIn) := goodIn_app (goodIn_of _ (by decide +kernel)) ggX4_byKind_X4_valueIn
theorem dX4_byKind_0 : decode cX4_byKind 0 = .ok (.aload_n 0, 1) := by decide +kernel
theorem dX4_byKind_1 : decode cX4_byKind 1 = .ok (.getfield 13, 3) := by decide +kernel
theorem dX4_byKind_4 : decode cX4_byKind 4 = .ok (.iload_n 1, 1) := by decide +kernel
theorem dX4_byKind_5 : decode cX4_byKind 5 = .ok (.iaload, 1) := by decide +kernel
theorem dX4_byKind_6 : decode cX4_byKind 6 = .ok (.bipush 100, 2) := by decide +kernel
theorem dX4_byKind_8 : decode cX4_byKind 8 = .ok (.if_icmp .ne 19, 3) := by decide +kernel
theorem dX4_byKind_11 : decode cX4_byKind 11 = .ok (.aload_n 0, 1) := by decide +kernel
theorem dX4_byKind_12 : decode cX4_byKind 12 = .ok (.iload_n 2, 1) := by decide +kernel
theorem dX4_byKind_13 : decode cX4_byKind 13 = .ok (.aload_n 0, 1) := by decide +kernel
theorem dX4_byKind_14 : decode cX4_byKind 14 = .ok (.getfield 16, 3) := by decide +kernel
theorem dX4_byKind_17 : decode cX4_byKind 17 = .ok (.iload_n 1, 1) := by decide +kernel
theorem dX4_byKind_18 : decode cX4_byKind 18 = .ok (.iaload, 1) := by decide +kernel
theorem dX4_byKind_19 : decode cX4_byKind 19 = .ok (.iload_n 3, 1) := by decide +kernel
theorem dX4_byKind_20 : decode cX4_byKind 20 = .ok (.iload 4, 2) := by decide +kernel
theorem dX4_byKind_22 : decode cX4_byKind 22 = .ok (.invokevirtual 88, 3) := by decide +kernel
theorem dX4_byKind_25 : decode cX4_byKind 25 = .ok (.i2l, 1) := by decide +kernel
theorem dX4_byKind_26 : decode cX4_byKind 26 = .ok (.lreturn, 1) := by decide +kernel
theorem dX4_byKind_27 : decode cX4_byKind 27 = .ok (.aload_n 0, 1) := by decide +kernel
theorem dX4_byKind_28 : decode cX4_byKind 28 = .ok (.getfield 57, 3) := by decide +kernel
theorem dX4_byKind_31 : decode cX4_byKind 31 = .ok (.aload_n 0, 1) := by decide +kernel
theorem dX4_byKind_32 : decode cX4_byKind 32 = .ok (.getfield 16, 3) := by decide +kernel
theorem dX4_byKind_35 : decode cX4_byKind 35 = .ok (.iload_n 1, 1) := by decide +kernel
theorem dX4_byKind_36 : decode cX4_byKind 36 = .ok (.iaload, 1) := by decide +kernel
theorem dX4_byKind_37 : decode cX4_byKind 37 = .ok (.laload, 1) := by decide +kernel
theorem dX4_byKind_38 : decode cX4_byKind 38 = .ok (.lstore 5, 2) := by decide +kernel
theorem dX4_byKind_40 : decode cX4_byKind 40 = .ok (.aload_n 0, 1) := by decide +kernel
theorem dX4_byKind_41 : decode cX4_byKind 41 = .ok (.getfield 57, 3) := by decide +kernel
theorem dX4_byKind_44 : decode cX4_byKind 44 = .ok (.aload_n 0, 1) := by decide +kernel
theorem dX4_byKind_45 : decode cX4_byKind 45 = .ok (.getfield 19, 3) := by decide +kernel
theorem dX4_byKind_48 : decode cX4_byKind 48 = .ok (.iload_n 1, 1) := by decide +kernel
theorem dX4_byKind_49 : decode cX4_byKind 49 = .ok (.iaload, 1) := by decide +kernel
theorem dX4_byKind_50 : decode cX4_byKind 50 = .ok (.laload, 1) := by decide +kernel
theorem dX4_byKind_51 : decode cX4_byKind 51 = .ok (.lstore 7, 2) := by decide +kernel
theorem dX4_byKind_53 : decode cX4_byKind 53 = .ok (.aload_n 0, 1) := by decide +kernel
theorem dX4_byKind_54 : decode cX4_byKind 54 = .ok (.getfield 13, 3) := by decide +kernel
theorem dX4_byKind_57 : decode cX4_byKind 57 = .ok (.iload_n 1, 1) := by decide +kernel
theorem dX4_byKind_58 : decode cX4_byKind 58 = .ok (.iaload, 1) := by decide +kernel
theorem dX4_byKind_59 : decode cX4_byKind 59 = .ok (.bipush 115, 2) := by decide +kernel
theorem dX4_byKind_61 : decode cX4_byKind 61 = .ok (.if_icmp .ne 9, 3) := by decide +kernel
theorem dX4_byKind_64 : decode cX4_byKind 64 = .ok (.lload 5, 2) := by decide +kernel
theorem dX4_byKind_66 : decode cX4_byKind 66 = .ok (.lload 7, 2) := by decide +kernel
theorem dX4_byKind_68 : decode cX4_byKind 68 = .ok (.ladd, 1) := by decide +kernel
theorem dX4_byKind_69 : decode cX4_byKind 69 = .ok (.lreturn, 1) := by decide +kernel
theorem dX4_byKind_70 : decode cX4_byKind 70 = .ok (.aload_n 0, 1) := by decide +kernel
theorem dX4_byKind_71 : decode cX4_byKind 71 = .ok (.getfield 13, 3) := by decide +kernel
theorem dX4_byKind_74 : decode cX4_byKind 74 = .ok (.iload_n 1, 1) := by decide +kernel
theorem dX4_byKind_75 : decode cX4_byKind 75 = .ok (.iaload, 1) := by decide +kernel
theorem dX4_byKind_76 : decode cX4_byKind 76 = .ok (.bipush 109, 2) := by decide +kernel
theorem dX4_byKind_78 : decode cX4_byKind 78 = .ok (.if_icmp .ne 11, 3) := by decide +kernel
theorem dX4_byKind_81 : decode cX4_byKind 81 = .ok (.lload 5, 2) := by decide +kernel
theorem dX4_byKind_83 : decode cX4_byKind 83 = .ok (.lload 7, 2) := by decide +kernel
theorem dX4_byKind_85 : decode cX4_byKind 85 = .ok (.lsub, 1) := by decide +kernel
theorem dX4_byKind_86 : decode cX4_byKind 86 = .ok (.goto 12, 3) := by decide +kernel
theorem dX4_byKind_89 : decode cX4_byKind 89 = .ok (.lload 5, 2) := by decide +kernel
theorem dX4_byKind_91 : decode cX4_byKind 91 = .ok (.lload 7, 2) := by decide +kernel
theorem dX4_byKind_93 : decode cX4_byKind 93 = .ok (.lmul, 1) := by decide +kernel
theorem dX4_byKind_94 : decode cX4_byKind 94 = .ok (.ldc2_w 92, 3) := by decide +kernel
theorem dX4_byKind_97 : decode cX4_byKind 97 = .ok (.ldiv, 1) := by decide +kernel
theorem dX4_byKind_98 : decode cX4_byKind 98 = .ok (.lreturn, 1) := by decide +kernel
set_option maxRecDepth 20000 in
theorem ggX4_finds_X4_at : GoodIn wsX4_finds wsX4_at := goodIn_r _ [13] (by decide +kernel) (by decide +kernel)
set_option maxRecDepth 20000 in
theorem gX4_finds_X4_at : GoodIn wsX4_finds (va_wsS RX4 94 yX4_at wsX4_at) := goodIn_app (goodIn_of _ (by decide +kernel)) ggX4_finds_X4_at
set_option maxRecDepth 20000 in
theorem ggX4_finds_X4_byKind : GoodIn wsX4_finds wsX4_byKind := goodIn_ca (goodIn_r _ [17, 2, 4, 6, 5, 18, 19, 20, 21, 12, 22, 23, 24, 25, 26, 27, 28, 29, 30, 31, 32, 33, 34, 35, 36, 37, 38, 39, 40, 41, 42, 43, 44, 45, 46, 47, 48, 49, 50, 51, 52, 53, 54, 55] (by decide +kernel) (by decide +kernel)) (goodIn_sub (fun _ h => List.mem_cons_of_mem _ (List.mem_append_right _ h)) (by decide +kernel))
set_option maxRecDepth 20000 in
theorem gX4_finds_X4_byKind : GoodIn wsX4_finds (wsV RX4 98 RX4 yX4_byKind wsX4_byKind) := goodIn_app (goodIn_of _ (by decide +kernel)) ggX4_finds_X4_byKind
theorem dX4_finds_0 : decode cX4_finds 0 = .ok (.iconst 0, 1) := by decide +kernel
theorem dX4_finds_1 : decode cX4_finds 1 = .ok (.istore 5, 2) := by decide +kernel
theorem dX4_finds_3 : decode cX4_finds 3 = .ok (.iload 5, 2) := by decide +kernel
theorem dX4_finds_5 : decode cX4_finds 5 = .ok (.iload_n 2, 1) := by decide +kernel
theorem dX4_finds_6 : decode cX4_finds 6 = .ok (.if_icmp .gt 167, 3) := by decide +kernel
theorem dX4_finds_9 : decode cX4_finds 9 = .ok (.aload_n 0, 1) := by decide +kernel
theorem dX4_finds_10 : decode cX4_finds 10 = .ok (.getfield 46, 3) := by decide +kernel
theorem dX4_finds_13 : decode cX4_finds 13 = .ok (.iload 5, 2) := by decide +kernel
theorem dX4_finds_15 : decode cX4_finds 15 = .ok (.iload_n 3, 1) := by decide +kernel
theorem dX4_finds_16 : decode cX4_finds 16 = .ok (.invokestatic 94, 3) := by decide +kernel
theorem dX4_finds_19 : decode cX4_finds 19 = .ok (.baload, 1) := by decide +kernel
theorem dX4_finds_20 : decode cX4_finds 20 = .ok (.istore 6, 2) := by decide +kernel
theorem dX4_finds_22 : decode cX4_finds 22 = .ok (.iload 6, 2) := by decide +kernel
theorem dX4_finds_24 : decode cX4_finds 24 = .ok (.ifCond .ne 45, 3) := by decide +kernel
theorem dX4_finds_27 : decode cX4_finds 27 = .ok (.aload_n 0, 1) := by decide +kernel
theorem dX4_finds_28 : decode cX4_finds 28 = .ok (.getfield 13, 3) := by decide +kernel
theorem dX4_finds_31 : decode cX4_finds 31 = .ok (.iload 5, 2) := by decide +kernel
theorem dX4_finds_33 : decode cX4_finds 33 = .ok (.iaload, 1) := by decide +kernel
theorem dX4_finds_34 : decode cX4_finds 34 = .ok (.bipush 100, 2) := by decide +kernel
theorem dX4_finds_36 : decode cX4_finds 36 = .ok (.if_icmp .eq 33, 3) := by decide +kernel
theorem dX4_finds_39 : decode cX4_finds 39 = .ok (.aload_n 0, 1) := by decide +kernel
theorem dX4_finds_40 : decode cX4_finds 40 = .ok (.getfield 50, 3) := by decide +kernel
theorem dX4_finds_43 : decode cX4_finds 43 = .ok (.aload_n 0, 1) := by decide +kernel
theorem dX4_finds_44 : decode cX4_finds 44 = .ok (.getfield 16, 3) := by decide +kernel
theorem dX4_finds_47 : decode cX4_finds 47 = .ok (.iload 5, 2) := by decide +kernel
theorem dX4_finds_49 : decode cX4_finds 49 = .ok (.iaload, 1) := by decide +kernel
theorem dX4_finds_50 : decode cX4_finds 50 = .ok (.baload, 1) := by decide +kernel
theorem dX4_finds_51 : decode cX4_finds 51 = .ok (.ifCond .eq 22, 3) := by decide +kernel
theorem dX4_finds_54 : decode cX4_finds 54 = .ok (.aload_n 0, 1) := by decide +kernel
theorem dX4_finds_55 : decode cX4_finds 55 = .ok (.getfield 50, 3) := by decide +kernel
theorem dX4_finds_58 : decode cX4_finds 58 = .ok (.aload_n 0, 1) := by decide +kernel
theorem dX4_finds_59 : decode cX4_finds 59 = .ok (.getfield 19, 3) := by decide +kernel
theorem dX4_finds_62 : decode cX4_finds 62 = .ok (.iload 5, 2) := by decide +kernel
theorem dX4_finds_64 : decode cX4_finds 64 = .ok (.iaload, 1) := by decide +kernel
theorem dX4_finds_65 : decode cX4_finds 65 = .ok (.baload, 1) := by decide +kernel
theorem dX4_finds_66 : decode cX4_finds 66 = .ok (.ifCond .eq 7, 3) := by decide +kernel
theorem dX4_finds_69 : decode cX4_finds 69 = .ok (.iconst 1, 1) := by decide +kernel
theorem dX4_finds_70 : decode cX4_finds 70 = .ok (.goto 4, 3) := by decide +kernel
theorem dX4_finds_73 : decode cX4_finds 73 = .ok (.iconst 0, 1) := by decide +kernel
theorem dX4_finds_74 : decode cX4_finds 74 = .ok (.istore 7, 2) := by decide +kernel
theorem dX4_finds_76 : decode cX4_finds 76 = .ok (.aload_n 0, 1) := by decide +kernel
theorem dX4_finds_77 : decode cX4_finds 77 = .ok (.getfield 57, 3) := by decide +kernel
theorem dX4_finds_80 : decode cX4_finds 80 = .ok (.iload 5, 2) := by decide +kernel
theorem dX4_finds_82 : decode cX4_finds 82 = .ok (.iload 6, 2) := by decide +kernel
theorem dX4_finds_84 : decode cX4_finds 84 = .ok (.ifCond .eq 18, 3) := by decide +kernel
theorem dX4_finds_87 : decode cX4_finds 87 = .ok (.aload_n 0, 1) := by decide +kernel
theorem dX4_finds_88 : decode cX4_finds 88 = .ok (.getfield 37, 3) := by decide +kernel
theorem dX4_finds_91 : decode cX4_finds 91 = .ok (.iload 5, 2) := by decide +kernel
theorem dX4_finds_93 : decode cX4_finds 93 = .ok (.iload_n 3, 1) := by decide +kernel
theorem dX4_finds_94 : decode cX4_finds 94 = .ok (.invokestatic 94, 3) := by decide +kernel
theorem dX4_finds_97 : decode cX4_finds 97 = .ok (.iaload, 1) := by decide +kernel
theorem dX4_finds_98 : decode cX4_finds 98 = .ok (.i2l, 1) := by decide +kernel
theorem dX4_finds_99 : decode cX4_finds 99 = .ok (.goto 22, 3) := by decide +kernel
theorem dX4_finds_102 : decode cX4_finds 102 = .ok (.iload 7, 2) := by decide +kernel
theorem dX4_finds_104 : decode cX4_finds 104 = .ok (.ifCond .eq 16, 3) := by decide +kernel
theorem dX4_finds_107 : decode cX4_finds 107 = .ok (.aload_n 0, 1) := by decide +kernel
theorem dX4_finds_108 : decode cX4_finds 108 = .ok (.iload 5, 2) := by decide +kernel
theorem dX4_finds_110 : decode cX4_finds 110 = .ok (.iload_n 1, 1) := by decide +kernel
theorem dX4_finds_111 : decode cX4_finds 111 = .ok (.iload_n 3, 1) := by decide +kernel
theorem dX4_finds_112 : decode cX4_finds 112 = .ok (.iload 4, 2) := by decide +kernel
theorem dX4_finds_114 : decode cX4_finds 114 = .ok (.invokevirtual 98, 3) := by decide +kernel
theorem dX4_finds_117 : decode cX4_finds 117 = .ok (.goto 4, 3) := by decide +kernel
theorem dX4_finds_120 : decode cX4_finds 120 = .ok (.lconst 0, 1) := by decide +kernel
theorem dX4_finds_121 : decode cX4_finds 121 = .ok (.lastore, 1) := by decide +kernel
theorem dX4_finds_122 : decode cX4_finds 122 = .ok (.aload_n 0, 1) := by decide +kernel
theorem dX4_finds_123 : decode cX4_finds 123 = .ok (.getfield 50, 3) := by decide +kernel
theorem dX4_finds_126 : decode cX4_finds 126 = .ok (.iload 5, 2) := by decide +kernel
theorem dX4_finds_128 : decode cX4_finds 128 = .ok (.iload 7, 2) := by decide +kernel
theorem dX4_finds_130 : decode cX4_finds 130 = .ok (.ifCond .eq 35, 3) := by decide +kernel
theorem dX4_finds_133 : decode cX4_finds 133 = .ok (.aload_n 0, 1) := by decide +kernel
theorem dX4_finds_134 : decode cX4_finds 134 = .ok (.getfield 57, 3) := by decide +kernel
theorem dX4_finds_137 : decode cX4_finds 137 = .ok (.iload 5, 2) := by decide +kernel
theorem dX4_finds_139 : decode cX4_finds 139 = .ok (.laload, 1) := by decide +kernel
theorem dX4_finds_140 : decode cX4_finds 140 = .ok (.ldc2_w 102, 3) := by decide +kernel
theorem dX4_finds_143 : decode cX4_finds 143 = .ok (.lcmp, 1) := by decide +kernel
theorem dX4_finds_144 : decode cX4_finds 144 = .ok (.ifCond .lt 21, 3) := by decide +kernel
theorem dX4_finds_147 : decode cX4_finds 147 = .ok (.aload_n 0, 1) := by decide +kernel
theorem dX4_finds_148 : decode cX4_finds 148 = .ok (.getfield 57, 3) := by decide +kernel
theorem dX4_finds_151 : decode cX4_finds 151 = .ok (.iload 5, 2) := by decide +kernel
theorem dX4_finds_153 : decode cX4_finds 153 = .ok (.laload, 1) := by decide +kernel
theorem dX4_finds_154 : decode cX4_finds 154 = .ok (.ldc2_w 104, 3) := by decide +kernel
theorem dX4_finds_157 : decode cX4_finds 157 = .ok (.lcmp, 1) := by decide +kernel
theorem dX4_finds_158 : decode cX4_finds 158 = .ok (.ifCond .gt 7, 3) := by decide +kernel
theorem dX4_finds_161 : decode cX4_finds 161 = .ok (.iconst 1, 1) := by decide +kernel
theorem dX4_finds_162 : decode cX4_finds 162 = .ok (.goto 4, 3) := by decide +kernel
theorem dX4_finds_165 : decode cX4_finds 165 = .ok (.iconst 0, 1) := by decide +kernel
theorem dX4_finds_166 : decode cX4_finds 166 = .ok (.bastore, 1) := by decide +kernel
theorem dX4_finds_167 : decode cX4_finds 167 = .ok (.iinc 5 1, 3) := by decide +kernel
theorem dX4_finds_170 : decode cX4_finds 170 = .ok (.goto (-167), 3) := by decide +kernel
theorem dX4_finds_173 : decode cX4_finds 173 = .ok (.aload_n 0, 1) := by decide +kernel
theorem dX4_finds_174 : decode cX4_finds 174 = .ok (.getfield 50, 3) := by decide +kernel
theorem dX4_finds_177 : decode cX4_finds 177 = .ok (.iload_n 2, 1) := by decide +kernel
theorem dX4_finds_178 : decode cX4_finds 178 = .ok (.baload, 1) := by decide +kernel
theorem dX4_finds_179 : decode cX4_finds 179 = .ok (.ireturn, 1) := by decide +kernel
set_option maxRecDepth 20000 in
theorem ggX4_looks_X4_at : GoodIn wsX4_looks wsX4_at := goodIn_r _ [9] (by decide +kernel) (by decide +kernel)
set_option maxRecDepth 20000 in
theorem gX4_looks_X4_at : GoodIn wsX4_looks (va_wsS RX4 94 yX4_at wsX4_at) := goodIn_app (goodIn_of _ (by decide +kernel)) ggX4_looks_X4_at
set_option maxRecDepth 20000 in
theorem ggX4_looks_X4_finds : GoodIn wsX4_looks wsX4_finds := goodIn_ca (goodIn_r _ [13, 14, 15, 16, 17, 18, 3, 19, 20, 21, 6, 7, 8, 9, 22, 23, 24, 25, 26, 27, 28, 29, 30, 31, 32, 33, 34, 35, 36, 37, 38, 39, 40, 41, 42, 43, 44, 45, 46, 47, 48, 49, 50, 51, 52, 53, 54, 55, 56, 57, 58, 59, 60, 61, 62, 63] (by decide +kernel) (by decide +kernel)) (goodIn_sub (fun _ h => List.mem_cons_of_mem _ (List.mem_append_right _ h)) (by decide +kernel))
set_option maxRecDepth 20000 in
theorem gX4_looks_X4_finds : GoodIn wsX4_looks (wsV RX4 106 RX4 yX4_finds wsX4_finds) := goodIn_app (goodIn_of _ (by decide +kernel)) ggX4_looks_X4_finds
theorem dX4_looks_0 : decode cX4_looks 0 = .ok (.iconst 0, 1) := by decide +kernel
theorem dX4_looks_1 : decode cX4_looks 1 = .ok (.istore_n 1, 1) := by decide +kernel
theorem dX4_looks_2 : decode cX4_looks 2 = .ok (.iconst 0, 1) := by decide +kernel
theorem dX4_looks_3 : decode cX4_looks 3 = .ok (.istore_n 2, 1) := by decide +kernel
theorem dX4_looks_4 : decode cX4_looks 4 = .ok (.iload_n 2, 1) := by decide +kernel
theorem dX4_looks_5 : decode cX4_looks 5 = .ok (.aload_n 0, 1) := by decide +kernel
theorem dX4_looks_6 : decode cX4_looks 6 = .ok (.getfield 68, 3) := by decide +kernel
theorem dX4_looks_9 : decode cX4_looks 9 = .ok (.if_icmp .ge 130, 3) := by decide +kernel
theorem dX4_looks_12 : decode cX4_looks 12 = .ok (.iconst 0, 1) := by decide +kernel
theorem dX4_looks_13 : decode cX4_looks 13 = .ok (.istore_n 3, 1) := by decide +kernel
theorem dX4_looks_14 : decode cX4_looks 14 = .ok (.iload_n 3, 1) := by decide +kernel
theorem dX4_looks_15 : decode cX4_looks 15 = .ok (.bipush 12, 2) := by decide +kernel
theorem dX4_looks_17 : decode cX4_looks 17 = .ok (.if_icmp .ge 116, 3) := by decide +kernel
theorem dX4_looks_20 : decode cX4_looks 20 = .ok (.aload_n 0, 1) := by decide +kernel
theorem dX4_looks_21 : decode cX4_looks 21 = .ok (.getfield 53, 3) := by decide +kernel
theorem dX4_looks_24 : decode cX4_looks 24 = .ok (.iload_n 2, 1) := by decide +kernel
theorem dX4_looks_25 : decode cX4_looks 25 = .ok (.iload_n 3, 1) := by decide +kernel
theorem dX4_looks_26 : decode cX4_looks 26 = .ok (.invokestatic 94, 3) := by decide +kernel
theorem dX4_looks_29 : decode cX4_looks 29 = .ok (.caload, 1) := by decide +kernel
theorem dX4_looks_30 : decode cX4_looks 30 = .ok (.bipush 97, 2) := by decide +kernel
theorem dX4_looks_32 : decode cX4_looks 32 = .ok (.if_icmp .eq 6, 3) := by decide +kernel
theorem dX4_looks_35 : decode cX4_looks 35 = .ok (.goto 92, 3) := by decide +kernel
theorem dX4_looks_38 : decode cX4_looks 38 = .ok (.aload_n 0, 1) := by decide +kernel
theorem dX4_looks_39 : decode cX4_looks 39 = .ok (.iconst 0, 1) := by decide +kernel
theorem dX4_looks_40 : decode cX4_looks 40 = .ok (.iload_n 2, 1) := by decide +kernel
theorem dX4_looks_41 : decode cX4_looks 41 = .ok (.iload_n 3, 1) := by decide +kernel
theorem dX4_looks_42 : decode cX4_looks 42 = .ok (.bipush 6, 2) := by decide +kernel
theorem dX4_looks_44 : decode cX4_looks 44 = .ok (.invokevirtual 106, 3) := by decide +kernel
theorem dX4_looks_47 : decode cX4_looks 47 = .ok (.istore 4, 2) := by decide +kernel
theorem dX4_looks_49 : decode cX4_looks 49 = .ok (.aload_n 0, 1) := by decide +kernel
theorem dX4_looks_50 : decode cX4_looks 50 = .ok (.getfield 57, 3) := by decide +kernel
theorem dX4_looks_53 : decode cX4_looks 53 = .ok (.iload_n 2, 1) := by decide +kernel
theorem dX4_looks_54 : decode cX4_looks 54 = .ok (.laload, 1) := by decide +kernel
theorem dX4_looks_55 : decode cX4_looks 55 = .ok (.aload_n 0, 1) := by decide +kernel
theorem dX4_looks_56 : decode cX4_looks 56 = .ok (.getfield 40, 3) := by decide +kernel
theorem dX4_looks_59 : decode cX4_looks 59 = .ok (.iload_n 2, 1) := by decide +kernel
theorem dX4_looks_60 : decode cX4_looks 60 = .ok (.iload_n 3, 1) := by decide +kernel
theorem dX4_looks_61 : decode cX4_looks 61 = .ok (.invokestatic 94, 3) := by decide +kernel
theorem dX4_looks_64 : decode cX4_looks 64 = .ok (.iaload, 1) := by decide +kernel
theorem dX4_looks_65 : decode cX4_looks 65 = .ok (.i2l, 1) := by decide +kernel
theorem dX4_looks_66 : decode cX4_looks 66 = .ok (.lsub, 1) := by decide +kernel
theorem dX4_looks_67 : decode cX4_looks 67 = .ok (.lstore 5, 2) := by decide +kernel
theorem dX4_looks_69 : decode cX4_looks 69 = .ok (.iload 4, 2) := by decide +kernel
theorem dX4_looks_71 : decode cX4_looks 71 = .ok (.ifCond .eq 41, 3) := by decide +kernel
theorem dX4_looks_74 : decode cX4_looks 74 = .ok (.lload 5, 2) := by decide +kernel
theorem dX4_looks_76 : decode cX4_looks 76 = .ok (.aload_n 0, 1) := by decide +kernel
theorem dX4_looks_77 : decode cX4_looks 77 = .ok (.getfield 43, 3) := by decide +kernel
theorem dX4_looks_80 : decode cX4_looks 80 = .ok (.iload_n 2, 1) := by decide +kernel
theorem dX4_looks_81 : decode cX4_looks 81 = .ok (.iload_n 3, 1) := by decide +kernel
theorem dX4_looks_82 : decode cX4_looks 82 = .ok (.invokestatic 94, 3) := by decide +kernel
theorem dX4_looks_85 : decode cX4_looks 85 = .ok (.iaload, 1) := by decide +kernel
theorem dX4_looks_86 : decode cX4_looks 86 = .ok (.i2l, 1) := by decide +kernel
theorem dX4_looks_87 : decode cX4_looks 87 = .ok (.lcmp, 1) := by decide +kernel
theorem dX4_looks_88 : decode cX4_looks 88 = .ok (.ifCond .gt 24, 3) := by decide +kernel
theorem dX4_looks_91 : decode cX4_looks 91 = .ok (.lload 5, 2) := by decide +kernel
theorem dX4_looks_93 : decode cX4_looks 93 = .ok (.lneg, 1) := by decide +kernel
theorem dX4_looks_94 : decode cX4_looks 94 = .ok (.aload_n 0, 1) := by decide +kernel
theorem dX4_looks_95 : decode cX4_looks 95 = .ok (.getfield 43, 3) := by decide +kernel
theorem dX4_looks_98 : decode cX4_looks 98 = .ok (.iload_n 2, 1) := by decide +kernel
theorem dX4_looks_99 : decode cX4_looks 99 = .ok (.iload_n 3, 1) := by decide +kernel
theorem dX4_looks_100 : decode cX4_looks 100 = .ok (.invokestatic 94, 3) := by decide +kernel
theorem dX4_looks_103 : decode cX4_looks 103 = .ok (.iaload, 1) := by decide +kernel
theorem dX4_looks_104 : decode cX4_looks 104 = .ok (.i2l, 1) := by decide +kernel
theorem dX4_looks_105 : decode cX4_looks 105 = .ok (.lcmp, 1) := by decide +kernel
theorem dX4_looks_106 : decode cX4_looks 106 = .ok (.ifCond .gt 6, 3) := by decide +kernel
theorem dX4_looks_109 : decode cX4_looks 109 = .ok (.goto 18, 3) := by decide +kernel
theorem dX4_looks_112 : decode cX4_looks 112 = .ok (.aload_n 0, 1) := by decide +kernel
theorem dX4_looks_113 : decode cX4_looks 113 = .ok (.getfield 53, 3) := by decide +kernel
theorem dX4_looks_116 : decode cX4_looks 116 = .ok (.iload_n 2, 1) := by decide +kernel
theorem dX4_looks_117 : decode cX4_looks 117 = .ok (.iload_n 3, 1) := by decide +kernel
theorem dX4_looks_118 : decode cX4_looks 118 = .ok (.invokestatic 94, 3) := by decide +kernel
theorem dX4_looks_121 : decode cX4_looks 121 = .ok (.bipush 111, 2) := by decide +kernel
theorem dX4_looks_123 : decode cX4_looks 123 = .ok (.castore, 1) := by decide +kernel
theorem dX4_looks_124 : decode cX4_looks 124 = .ok (.iinc 1 1, 3) := by decide +kernel
theorem dX4_looks_127 : decode cX4_looks 127 = .ok (.iinc 3 1, 3) := by decide +kernel
theorem dX4_looks_130 : decode cX4_looks 130 = .ok (.goto (-116), 3) := by decide +kernel
theorem dX4_looks_133 : decode cX4_looks 133 = .ok (.iinc 2 1, 3) := by decide +kernel
theorem dX4_looks_136 : decode cX4_looks 136 = .ok (.goto (-132), 3) := by decide +kernel
theorem dX4_looks_139 : decode cX4_looks 139 = .ok (.iload_n 1, 1) := by decide +kernel
theorem dX4_looks_140 : decode cX4_looks 140 = .ok (.ireturn, 1) := by decide +kernel
set_option maxRecDepth 20000 in
theorem ggX4_addDriver_X4_in : GoodIn wsX4_addDriver wsX4_in := goodIn_r _ [7] (by decide +kernel) (by decide +kernel)
set_option maxRecDepth 20000 in
theorem gX4_addDriver_X4_in : GoodIn wsX4_addDriver (va_wsS RX4 80 yX4_in wsX4_in) := goodIn_app (goodIn_of _ (by decide +kernel)) ggX4_addDriver_X4_in
theorem dX4_addDriver_0 : decode cX4_addDriver 0 = .ok (.aload_n 0, 1) := by decide +kernel
theorem dX4_addDriver_1 : decode cX4_addDriver 1 = .ok (.iload_n 1, 1) := by decide +kernel
theorem dX4_addDriver_2 : decode cX4_addDriver 2 = .ok (.iconst 0, 1) := by decide +kernel
theorem dX4_addDriver_3 : decode cX4_addDriver 3 = .ok (.sipush 9999, 3) := by decide +kernel
theorem dX4_addDriver_6 : decode cX4_addDriver 6 = .ok (.invokestatic 80, 3) := by decide +kernel
theorem dX4_addDriver_9 : decode cX4_addDriver 9 = .ok (.ifCond .ne 7, 3) := by decide +kernel
theorem dX4_addDriver_12 : decode cX4_addDriver 12 = .ok (.iconst 1, 1) := by decide +kernel
theorem dX4_addDriver_13 : decode cX4_addDriver 13 = .ok (.goto 17, 3) := by decide +kernel
theorem dX4_addDriver_16 : decode cX4_addDriver 16 = .ok (.aload_n 0, 1) := by decide +kernel
theorem dX4_addDriver_17 : decode cX4_addDriver 17 = .ok (.getfield 65, 3) := by decide +kernel
theorem dX4_addDriver_20 : decode cX4_addDriver 20 = .ok (.bipush 6, 2) := by decide +kernel
theorem dX4_addDriver_22 : decode cX4_addDriver 22 = .ok (.if_icmp .ne 7, 3) := by decide +kernel
theorem dX4_addDriver_25 : decode cX4_addDriver 25 = .ok (.iconst 2, 1) := by decide +kernel
theorem dX4_addDriver_26 : decode cX4_addDriver 26 = .ok (.goto 4, 3) := by decide +kernel
theorem dX4_addDriver_29 : decode cX4_addDriver 29 = .ok (.iconst 0, 1) := by decide +kernel
theorem dX4_addDriver_30 : decode cX4_addDriver 30 = .ok (.putfield 61, 3) := by decide +kernel
theorem dX4_addDriver_33 : decode cX4_addDriver 33 = .ok (.aload_n 0, 1) := by decide +kernel
theorem dX4_addDriver_34 : decode cX4_addDriver 34 = .ok (.getfield 61, 3) := by decide +kernel
theorem dX4_addDriver_37 : decode cX4_addDriver 37 = .ok (.ifCond .le 5, 3) := by decide +kernel
theorem dX4_addDriver_40 : decode cX4_addDriver 40 = .ok (.iconst 0, 1) := by decide +kernel
theorem dX4_addDriver_41 : decode cX4_addDriver 41 = .ok (.ireturn, 1) := by decide +kernel
theorem dX4_addDriver_42 : decode cX4_addDriver 42 = .ok (.aload_n 0, 1) := by decide +kernel
theorem dX4_addDriver_43 : decode cX4_addDriver 43 = .ok (.getfield 7, 3) := by decide +kernel
theorem dX4_addDriver_46 : decode cX4_addDriver 46 = .ok (.aload_n 0, 1) := by decide +kernel
theorem dX4_addDriver_47 : decode cX4_addDriver 47 = .ok (.getfield 65, 3) := by decide +kernel
theorem dX4_addDriver_50 : decode cX4_addDriver 50 = .ok (.iload_n 1, 1) := by decide +kernel
theorem dX4_addDriver_51 : decode cX4_addDriver 51 = .ok (.iastore, 1) := by decide +kernel
theorem dX4_addDriver_52 : decode cX4_addDriver 52 = .ok (.aload_n 0, 1) := by decide +kernel
theorem dX4_addDriver_53 : decode cX4_addDriver 53 = .ok (.dup, 1) := by decide +kernel
theorem dX4_addDriver_54 : decode cX4_addDriver 54 = .ok (.getfield 65, 3) := by decide +kernel
theorem dX4_addDriver_57 : decode cX4_addDriver 57 = .ok (.iconst 1, 1) := by decide +kernel
theorem dX4_addDriver_58 : decode cX4_addDriver 58 = .ok (.iadd, 1) := by decide +kernel
theorem dX4_addDriver_59 : decode cX4_addDriver 59 = .ok (.putfield 65, 3) := by decide +kernel
theorem dX4_addDriver_62 : decode cX4_addDriver 62 = .ok (.aload_n 0, 1) := by decide +kernel
theorem dX4_addDriver_63 : decode cX4_addDriver 63 = .ok (.getfield 65, 3) := by decide +kernel
theorem dX4_addDriver_66 : decode cX4_addDriver 66 = .ok (.iconst 1, 1) := by decide +kernel
theorem dX4_addDriver_67 : decode cX4_addDriver 67 = .ok (.isub, 1) := by decide +kernel
theorem dX4_addDriver_68 : decode cX4_addDriver 68 = .ok (.ireturn, 1) := by decide +kernel
set_option maxRecDepth 20000 in
theorem ggX4_setDriver_X4_isDriver : GoodIn wsX4_setDriver wsX4_isDriver := goodIn_r _ [7, 8, 9, 10, 6, 11, 55, 56, 57, 58, 59, 60, 61, 62, 63, 64, 65, 66, 67, 68, 69, 70, 71, 72, 73, 74, 75, 76] (by decide +kernel) (by decide +kernel)
set_option maxRecDepth 20000 in
theorem gX4_setDriver_X4_isDriver : GoodIn wsX4_setDriver (wsV RX4 110 RX4 yX4_isDriver wsX4_isDriver) := goodIn_app (goodIn_of _ (by decide +kernel)) ggX4_setDriver_X4_isDriver
set_option maxRecDepth 20000 in
theorem ggX4_setDriver_X4_in : GoodIn wsX4_setDriver wsX4_in := goodIn_r _ [11] (by decide +kernel) (by decide +kernel)
set_option maxRecDepth 20000 in
theorem gX4_setDriver_X4_in : GoodIn wsX4_setDriver (va_wsS RX4 80 yX4_in wsX4_in) := goodIn_app (goodIn_of _ (by decide +kernel)) ggX4_setDriver_X4_in
set_option maxRecDepth 20000 in
theorem ggX4_setDriver_X4_looks : GoodIn wsX4_setDriver wsX4_looks := goodIn_ca (goodIn_r _ [15, 16, 17, 18, 19, 20, 21, 22, 6, 23, 24, 25, 26, 27, 28, 29, 30, 31, 32, 33, 34, 35, 36, 37, 38, 39, 40, 41, 42, 43, 44, 2, 45, 46, 47, 48, 49, 50, 51, 52, 53, 54, 55, 56, 57, 58, 59, 60, 61, 62, 63, 64, 65, 66, 67, 68, 69, 70, 71, 72, 73, 74, 75, 76] (by decide +kernel) (by decide +kernel)) (goodIn_sub (fun _ h => List.mem_cons_of_mem _ (List.mem_append_right _ h)) (by decide +kernel))
set_option maxRecDepth 20000 in
theorem gX4_setDriver_X4_looks : GoodIn wsX4_setDriver (wsV RX4 114 RX4 yX4_looks wsX4_looks) := goodIn_app (goodIn_of _ (by decide +kernel)) ggX4_setDriver_X4_looks
theorem dX4_setDriver_0 : decode cX4_setDriver 0 = .ok (.aload_n 0, 1) := by decide +kernel
theorem dX4_setDriver_1 : decode cX4_setDriver 1 = .ok (.aload_n 0, 1) := by decide +kernel
theorem dX4_setDriver_2 : decode cX4_setDriver 2 = .ok (.iload_n 1, 1) := by decide +kernel
theorem dX4_setDriver_3 : decode cX4_setDriver 3 = .ok (.invokevirtual 110, 3) := by decide +kernel
theorem dX4_setDriver_6 : decode cX4_setDriver 6 = .ok (.ifCond .ne 7, 3) := by decide +kernel
theorem dX4_setDriver_9 : decode cX4_setDriver 9 = .ok (.iconst 1, 1) := by decide +kernel
theorem dX4_setDriver_10 : decode cX4_setDriver 10 = .ok (.goto 19, 3) := by decide +kernel
theorem dX4_setDriver_13 : decode cX4_setDriver 13 = .ok (.iload_n 2, 1) := by decide +kernel
theorem dX4_setDriver_14 : decode cX4_setDriver 14 = .ok (.iconst 0, 1) := by decide +kernel
theorem dX4_setDriver_15 : decode cX4_setDriver 15 = .ok (.sipush 9999, 3) := by decide +kernel
theorem dX4_setDriver_18 : decode cX4_setDriver 18 = .ok (.invokestatic 80, 3) := by decide +kernel
theorem dX4_setDriver_21 : decode cX4_setDriver 21 = .ok (.ifCond .ne 7, 3) := by decide +kernel
theorem dX4_setDriver_24 : decode cX4_setDriver 24 = .ok (.iconst 2, 1) := by decide +kernel
theorem dX4_setDriver_25 : decode cX4_setDriver 25 = .ok (.goto 4, 3) := by decide +kernel
theorem dX4_setDriver_28 : decode cX4_setDriver 28 = .ok (.iconst 0, 1) := by decide +kernel
theorem dX4_setDriver_29 : decode cX4_setDriver 29 = .ok (.putfield 61, 3) := by decide +kernel
theorem dX4_setDriver_32 : decode cX4_setDriver 32 = .ok (.aload_n 0, 1) := by decide +kernel
theorem dX4_setDriver_33 : decode cX4_setDriver 33 = .ok (.getfield 61, 3) := by decide +kernel
theorem dX4_setDriver_36 : decode cX4_setDriver 36 = .ok (.ifCond .le 5, 3) := by decide +kernel
theorem dX4_setDriver_39 : decode cX4_setDriver 39 = .ok (.iconst 0, 1) := by decide +kernel
theorem dX4_setDriver_40 : decode cX4_setDriver 40 = .ok (.ireturn, 1) := by decide +kernel
theorem dX4_setDriver_41 : decode cX4_setDriver 41 = .ok (.aload_n 0, 1) := by decide +kernel
theorem dX4_setDriver_42 : decode cX4_setDriver 42 = .ok (.getfield 7, 3) := by decide +kernel
theorem dX4_setDriver_45 : decode cX4_setDriver 45 = .ok (.iload_n 1, 1) := by decide +kernel
theorem dX4_setDriver_46 : decode cX4_setDriver 46 = .ok (.iload_n 2, 1) := by decide +kernel
theorem dX4_setDriver_47 : decode cX4_setDriver 47 = .ok (.iastore, 1) := by decide +kernel
theorem dX4_setDriver_48 : decode cX4_setDriver 48 = .ok (.aload_n 0, 1) := by decide +kernel
theorem dX4_setDriver_49 : decode cX4_setDriver 49 = .ok (.invokevirtual 114, 3) := by decide +kernel
theorem dX4_setDriver_52 : decode cX4_setDriver 52 = .ok (.ireturn, 1) := by decide +kernel
set_option maxRecDepth 20000 in
theorem ggX4_driver_X4_isScenario : GoodIn wsX4_driver wsX4_isScenario := goodIn_r _ [5, 6, 7, 8, 4, 9, 38, 39, 40, 41, 42, 43, 44, 45, 46, 47, 48, 49, 50, 51, 52, 53, 54, 55, 56, 57, 58, 59] (by decide +kernel) (by decide +kernel)
set_option maxRecDepth 20000 in
theorem gX4_driver_X4_isScenario : GoodIn wsX4_driver (wsV RX4 118 RX4 yX4_isScenario wsX4_isScenario) := goodIn_app (goodIn_of _ (by decide +kernel)) ggX4_driver_X4_isScenario
set_option maxRecDepth 20000 in
theorem ggX4_driver_X4_isDriver : GoodIn wsX4_driver wsX4_isDriver := goodIn_r _ [13, 14, 7, 8, 4, 9, 38, 39, 40, 41, 42, 43, 44, 45, 46, 47, 48, 49, 50, 51, 52, 53, 54, 55, 56, 57, 58, 59] (by decide +kernel) (by decide +kernel)
set_option maxRecDepth 20000 in
theorem gX4_driver_X4_isDriver : GoodIn wsX4_driver (wsV RX4 110 RX4 yX4_isDriver wsX4_isDriver) := goodIn_app (goodIn_of _ (by decide +kernel)) ggX4_driver_X4_isDriver
set_option maxRecDepth 20000 in
theorem ggX4_driver_X4_isMonth : GoodIn wsX4_driver wsX4_isMonth := goodIn_r _ [17, 7, 8, 4, 9] (by decide +kernel) (by decide +kernel)
set_option maxRecDepth 20000 in
theorem gX4_driver_X4_isMonth : GoodIn wsX4_driver (va_wsS RX4 121 yX4_isMonth wsX4_isMonth) := goodIn_app (goodIn_of _ (by decide +kernel)) ggX4_driver_X4_isMonth
set_option maxRecDepth 20000 in
theorem ggX4_driver_X4_checked : GoodIn wsX4_driver wsX4_checked := goodIn_r _ [21, 22, 38, 39, 40, 41, 42, 43, 44, 45, 46, 47, 48, 49, 50, 51, 52, 53, 54, 55, 56, 57, 58, 59] (by decide +kernel) (by decide +kernel)
set_option maxRecDepth 20000 in
theorem gX4_driver_X4_checked : GoodIn wsX4_driver (wsV RX4 124 RX4 yX4_checked wsX4_checked) := goodIn_app (goodIn_of _ (by decide +kernel)) ggX4_driver_X4_checked
set_option maxRecDepth 20000 in
theorem ggX4_driver_X4_valueIn : GoodIn wsX4_driver wsX4_valueIn := goodIn_ca (goodIn_r _ [26, 27, 28, 29, 30, 31, 32, 33, 34, 35, 4, 36, 37, 38, 39, 40, 41, 42, 43, 44, 45, 46, 47, 48, 49, 50, 51, 52, 53, 54, 55, 56, 57, 58, 59] (by decide +kernel) (by decide +kernel)) (goodIn_sub (fun _ h => List.mem_cons_of_mem _ (List.mem_append_right _ h)) (by decide +kernel))
set_option maxRecDepth 20000 in
theorem gX4_driver_X4_valueIn : GoodIn wsX4_driver (wsV RX4 88 RX4 yX4_valueIn wsX4_valueIn) := goodIn_app (goodIn_of _ (by decide +kernel)) ggX4_driver_X4_valueIn
theorem dX4_driver_0 : decode cX4_driver 0 = .ok (.aload_n 0, 1) := by decide +kernel
theorem dX4_driver_1 : decode cX4_driver 1 = .ok (.aload_n 0, 1) := by decide +kernel
theorem dX4_driver_2 : decode cX4_driver 2 = .ok (.iload_n 1, 1) := by decide +kernel
theorem dX4_driver_3 : decode cX4_driver 3 = .ok (.invokevirtual 118, 3) := by decide +kernel
theorem dX4_driver_6 : decode cX4_driver 6 = .ok (.ifCond .eq 22, 3) := by decide +kernel
theorem dX4_driver_9 : decode cX4_driver 9 = .ok (.aload_n 0, 1) := by decide +kernel
theorem dX4_driver_10 : decode cX4_driver 10 = .ok (.iload_n 2, 1) := by decide +kernel
theorem dX4_driver_11 : decode cX4_driver 11 = .ok (.invokevirtual 110, 3) := by decide +kernel
theorem dX4_driver_14 : decode cX4_driver 14 = .ok (.ifCond .eq 14, 3) := by decide +kernel
theorem dX4_driver_17 : decode cX4_driver 17 = .ok (.iload_n 3, 1) := by decide +kernel
theorem dX4_driver_18 : decode cX4_driver 18 = .ok (.invokestatic 121, 3) := by decide +kernel
theorem dX4_driver_21 : decode cX4_driver 21 = .ok (.ifCond .eq 7, 3) := by decide +kernel
theorem dX4_driver_24 : decode cX4_driver 24 = .ok (.iconst 1, 1) := by decide +kernel
theorem dX4_driver_25 : decode cX4_driver 25 = .ok (.goto 4, 3) := by decide +kernel
theorem dX4_driver_28 : decode cX4_driver 28 = .ok (.iconst 0, 1) := by decide +kernel
theorem dX4_driver_29 : decode cX4_driver 29 = .ok (.invokevirtual 124, 3) := by decide +kernel
theorem dX4_driver_32 : decode cX4_driver 32 = .ok (.ifCond .le 7, 3) := by decide +kernel
theorem dX4_driver_35 : decode cX4_driver 35 = .ok (.iconst 0, 1) := by decide +kernel
theorem dX4_driver_36 : decode cX4_driver 36 = .ok (.goto 12, 3) := by decide +kernel
theorem dX4_driver_39 : decode cX4_driver 39 = .ok (.aload_n 0, 1) := by decide +kernel
theorem dX4_driver_40 : decode cX4_driver 40 = .ok (.iload_n 1, 1) := by decide +kernel
theorem dX4_driver_41 : decode cX4_driver 41 = .ok (.iload_n 2, 1) := by decide +kernel
theorem dX4_driver_42 : decode cX4_driver 42 = .ok (.iload_n 3, 1) := by decide +kernel
theorem dX4_driver_43 : decode cX4_driver 43 = .ok (.bipush 6, 2) := by decide +kernel
theorem dX4_driver_45 : decode cX4_driver 45 = .ok (.invokevirtual 88, 3) := by decide +kernel
theorem dX4_driver_48 : decode cX4_driver 48 = .ok (.ireturn, 1) := by decide +kernel
set_option maxRecDepth 20000 in
theorem ggX4_addLine_X4_isDriver : GoodIn wsX4_addLine wsX4_isDriver := goodIn_r _ [10, 11, 12, 13, 9, 14, 19, 20, 21, 22, 23, 24, 25, 26, 27, 28, 29, 30, 31, 32, 33, 34, 35, 36, 37, 38, 39, 40] (by decide +kernel) (by decide +kernel)
set_option maxRecDepth 20000 in
theorem gX4_addLine_X4_isDriver : GoodIn wsX4_addLine (wsV RX4 110 RX4 yX4_isDriver wsX4_isDriver) := goodIn_app (goodIn_of _ (by decide +kernel)) ggX4_addLine_X4_isDriver
set_option maxRecDepth 20000 in
theorem ggX4_addLine_X4_isLine : GoodIn wsX4_addLine wsX4_isLine := goodIn_r _ [18, 1, 12, 13, 9, 14, 19, 20, 21, 22, 23, 24, 25, 26, 27, 28, 29, 30, 31, 32, 33, 34, 35, 36, 37, 38, 39, 40] (by decide +kernel) (by decide +kernel)
set_option maxRecDepth 20000 in
theorem gX4_addLine_X4_isLine : GoodIn wsX4_addLine (wsV RX4 128 RX4 yX4_isLine wsX4_isLine) := goodIn_app (goodIn_of _ (by decide +kernel)) ggX4_addLine_X4_isLine
theorem dX4_addLine_0 : decode cX4_addLine 0 = .ok (.iload_n 1, 1) := by decide +kernel
theorem dX4_addLine_1 : decode cX4_addLine 1 = .ok (.bipush 100, 2) := by decide +kernel
theorem dX4_addLine_3 : decode cX4_addLine 3 = .ok (.if_icmp .ne 11, 3) := by decide +kernel
theorem dX4_addLine_6 : decode cX4_addLine 6 = .ok (.aload_n 0, 1) := by decide +kernel
theorem dX4_addLine_7 : decode cX4_addLine 7 = .ok (.iload_n 2, 1) := by decide +kernel
theorem dX4_addLine_8 : decode cX4_addLine 8 = .ok (.invokevirtual 110, 3) := by decide +kernel
theorem dX4_addLine_11 : decode cX4_addLine 11 = .ok (.goto 24, 3) := by decide +kernel
theorem dX4_addLine_14 : decode cX4_addLine 14 = .ok (.aload_n 0, 1) := by decide +kernel
theorem dX4_addLine_15 : decode cX4_addLine 15 = .ok (.iload_n 2, 1) := by decide +kernel
theorem dX4_addLine_16 : decode cX4_addLine 16 = .ok (.invokevirtual 128, 3) := by decide +kernel
theorem dX4_addLine_19 : decode cX4_addLine 19 = .ok (.ifCond .eq 15, 3) := by decide +kernel
theorem dX4_addLine_22 : decode cX4_addLine 22 = .ok (.aload_n 0, 1) := by decide +kernel
theorem dX4_addLine_23 : decode cX4_addLine 23 = .ok (.iload_n 3, 1) := by decide +kernel
theorem dX4_addLine_24 : decode cX4_addLine 24 = .ok (.invokevirtual 128, 3) := by decide +kernel
theorem dX4_addLine_27 : decode cX4_addLine 27 = .ok (.ifCond .eq 7, 3) := by decide +kernel
theorem dX4_addLine_30 : decode cX4_addLine 30 = .ok (.iconst 1, 1) := by decide +kernel
theorem dX4_addLine_31 : decode cX4_addLine 31 = .ok (.goto 4, 3) := by decide +kernel
theorem dX4_addLine_34 : decode cX4_addLine 34 = .ok (.iconst 0, 1) := by decide +kernel
theorem dX4_addLine_35 : decode cX4_addLine 35 = .ok (.istore 4, 2) := by decide +kernel
theorem dX4_addLine_37 : decode cX4_addLine 37 = .ok (.aload_n 0, 1) := by decide +kernel
theorem dX4_addLine_38 : decode cX4_addLine 38 = .ok (.iload_n 1, 1) := by decide +kernel
theorem dX4_addLine_39 : decode cX4_addLine 39 = .ok (.bipush 100, 2) := by decide +kernel
theorem dX4_addLine_41 : decode cX4_addLine 41 = .ok (.if_icmp .eq 25, 3) := by decide +kernel
theorem dX4_addLine_44 : decode cX4_addLine 44 = .ok (.iload_n 1, 1) := by decide +kernel
theorem dX4_addLine_45 : decode cX4_addLine 45 = .ok (.bipush 115, 2) := by decide +kernel
theorem dX4_addLine_47 : decode cX4_addLine 47 = .ok (.if_icmp .eq 19, 3) := by decide +kernel
theorem dX4_addLine_50 : decode cX4_addLine 50 = .ok (.iload_n 1, 1) := by decide +kernel
theorem dX4_addLine_51 : decode cX4_addLine 51 = .ok (.bipush 109, 2) := by decide +kernel
theorem dX4_addLine_53 : decode cX4_addLine 53 = .ok (.if_icmp .eq 13, 3) := by decide +kernel
theorem dX4_addLine_56 : decode cX4_addLine 56 = .ok (.iload_n 1, 1) := by decide +kernel
theorem dX4_addLine_57 : decode cX4_addLine 57 = .ok (.bipush 112, 2) := by decide +kernel
theorem dX4_addLine_59 : decode cX4_addLine 59 = .ok (.if_icmp .eq 7, 3) := by decide +kernel
theorem dX4_addLine_62 : decode cX4_addLine 62 = .ok (.iconst 1, 1) := by decide +kernel
theorem dX4_addLine_63 : decode cX4_addLine 63 = .ok (.goto 26, 3) := by decide +kernel
theorem dX4_addLine_66 : decode cX4_addLine 66 = .ok (.iload 4, 2) := by decide +kernel
theorem dX4_addLine_68 : decode cX4_addLine 68 = .ok (.ifCond .ne 7, 3) := by decide +kernel
theorem dX4_addLine_71 : decode cX4_addLine 71 = .ok (.iconst 2, 1) := by decide +kernel
theorem dX4_addLine_72 : decode cX4_addLine 72 = .ok (.goto 17, 3) := by decide +kernel
theorem dX4_addLine_75 : decode cX4_addLine 75 = .ok (.aload_n 0, 1) := by decide +kernel
theorem dX4_addLine_76 : decode cX4_addLine 76 = .ok (.getfield 68, 3) := by decide +kernel
theorem dX4_addLine_79 : decode cX4_addLine 79 = .ok (.bipush 10, 2) := by decide +kernel
theorem dX4_addLine_81 : decode cX4_addLine 81 = .ok (.if_icmp .ne 7, 3) := by decide +kernel
theorem dX4_addLine_84 : decode cX4_addLine 84 = .ok (.iconst 3, 1) := by decide +kernel
theorem dX4_addLine_85 : decode cX4_addLine 85 = .ok (.goto 4, 3) := by decide +kernel
theorem dX4_addLine_88 : decode cX4_addLine 88 = .ok (.iconst 0, 1) := by decide +kernel
theorem dX4_addLine_89 : decode cX4_addLine 89 = .ok (.putfield 61, 3) := by decide +kernel
theorem dX4_addLine_92 : decode cX4_addLine 92 = .ok (.aload_n 0, 1) := by decide +kernel
theorem dX4_addLine_93 : decode cX4_addLine 93 = .ok (.getfield 61, 3) := by decide +kernel
theorem dX4_addLine_96 : decode cX4_addLine 96 = .ok (.ifCond .le 5, 3) := by decide +kernel
theorem dX4_addLine_99 : decode cX4_addLine 99 = .ok (.iconst 0, 1) := by decide +kernel
theorem dX4_addLine_100 : decode cX4_addLine 100 = .ok (.ireturn, 1) := by decide +kernel
theorem dX4_addLine_101 : decode cX4_addLine 101 = .ok (.aload_n 0, 1) := by decide +kernel
theorem dX4_addLine_102 : decode cX4_addLine 102 = .ok (.getfield 13, 3) := by decide +kernel
theorem dX4_addLine_105 : decode cX4_addLine 105 = .ok (.aload_n 0, 1) := by decide +kernel
theorem dX4_addLine_106 : decode cX4_addLine 106 = .ok (.getfield 68, 3) := by decide +kernel
theorem dX4_addLine_109 : decode cX4_addLine 109 = .ok (.iload_n 1, 1) := by decide +kernel
theorem dX4_addLine_110 : decode cX4_addLine 110 = .ok (.iastore, 1) := by decide +kernel
theorem dX4_addLine_111 : decode cX4_addLine 111 = .ok (.aload_n 0, 1) := by decide +kernel
theorem dX4_addLine_112 : decode cX4_addLine 112 = .ok (.getfield 16, 3) := by decide +kernel
theorem dX4_addLine_115 : decode cX4_addLine 115 = .ok (.aload_n 0, 1) := by decide +kernel
theorem dX4_addLine_116 : decode cX4_addLine 116 = .ok (.getfield 68, 3) := by decide +kernel
theorem dX4_addLine_119 : decode cX4_addLine 119 = .ok (.iload_n 2, 1) := by decide +kernel
theorem dX4_addLine_120 : decode cX4_addLine 120 = .ok (.iastore, 1) := by decide +kernel
theorem dX4_addLine_121 : decode cX4_addLine 121 = .ok (.aload_n 0, 1) := by decide +kernel
theorem dX4_addLine_122 : decode cX4_addLine 122 = .ok (.getfield 19, 3) := by decide +kernel
theorem dX4_addLine_125 : decode cX4_addLine 125 = .ok (.aload_n 0, 1) := by decide +kernel
theorem dX4_addLine_126 : decode cX4_addLine 126 = .ok (.getfield 68, 3) := by decide +kernel
theorem dX4_addLine_129 : decode cX4_addLine 129 = .ok (.iload_n 1, 1) := by decide +kernel
theorem dX4_addLine_130 : decode cX4_addLine 130 = .ok (.bipush 100, 2) := by decide +kernel
theorem dX4_addLine_132 : decode cX4_addLine 132 = .ok (.if_icmp .ne 7, 3) := by decide +kernel
theorem dX4_addLine_135 : decode cX4_addLine 135 = .ok (.iconst 0, 1) := by decide +kernel
theorem dX4_addLine_136 : decode cX4_addLine 136 = .ok (.goto 4, 3) := by decide +kernel
theorem dX4_addLine_139 : decode cX4_addLine 139 = .ok (.iload_n 3, 1) := by decide +kernel
theorem dX4_addLine_140 : decode cX4_addLine 140 = .ok (.iastore, 1) := by decide +kernel
theorem dX4_addLine_141 : decode cX4_addLine 141 = .ok (.aload_n 0, 1) := by decide +kernel
theorem dX4_addLine_142 : decode cX4_addLine 142 = .ok (.dup, 1) := by decide +kernel
theorem dX4_addLine_143 : decode cX4_addLine 143 = .ok (.getfield 68, 3) := by decide +kernel
theorem dX4_addLine_146 : decode cX4_addLine 146 = .ok (.iconst 1, 1) := by decide +kernel
theorem dX4_addLine_147 : decode cX4_addLine 147 = .ok (.iadd, 1) := by decide +kernel
theorem dX4_addLine_148 : decode cX4_addLine 148 = .ok (.putfield 68, 3) := by decide +kernel
theorem dX4_addLine_151 : decode cX4_addLine 151 = .ok (.aload_n 0, 1) := by decide +kernel
theorem dX4_addLine_152 : decode cX4_addLine 152 = .ok (.getfield 68, 3) := by decide +kernel
theorem dX4_addLine_155 : decode cX4_addLine 155 = .ok (.iconst 1, 1) := by decide +kernel
theorem dX4_addLine_156 : decode cX4_addLine 156 = .ok (.isub, 1) := by decide +kernel
theorem dX4_addLine_157 : decode cX4_addLine 157 = .ok (.ireturn, 1) := by decide +kernel
set_option maxRecDepth 20000 in
theorem ggX4_addScenario_X4_isScenario : GoodIn wsX4_addScenario wsX4_isScenario := goodIn_r _ [8, 1, 9, 10, 7, 11, 12, 13, 14, 15, 16, 17, 18, 19, 20, 21, 22, 23, 24, 25, 26, 27, 28, 29, 30, 31, 32, 33] (by decide +kernel) (by decide +kernel)
set_option maxRecDepth 20000 in
theorem gX4_addScenario_X4_isScenario : GoodIn wsX4_addScenario (wsV RX4 118 RX4 yX4_isScenario wsX4_isScenario) := goodIn_app (goodIn_of _ (by decide +kernel)) ggX4_addScenario_X4_isScenario
theorem dX4_addScenario_0 : decode cX4_addScenario 0 = .ok (.aload_n 0, 1) := by decide +kernel
theorem dX4_addScenario_1 : decode cX4_addScenario 1 = .ok (.aload_n 0, 1) := by decide +kernel
theorem dX4_addScenario_2 : decode cX4_addScenario 2 = .ok (.iload_n 1, 1) := by decide +kernel
theorem dX4_addScenario_3 : decode cX4_addScenario 3 = .ok (.invokevirtual 118, 3) := by decide +kernel
theorem dX4_addScenario_6 : decode cX4_addScenario 6 = .ok (.ifCond .ne 7, 3) := by decide +kernel
theorem dX4_addScenario_9 : decode cX4_addScenario 9 = .ok (.iconst 1, 1) := by decide +kernel
theorem dX4_addScenario_10 : decode cX4_addScenario 10 = .ok (.goto 16, 3) := by decide +kernel
theorem dX4_addScenario_13 : decode cX4_addScenario 13 = .ok (.aload_n 0, 1) := by decide +kernel
theorem dX4_addScenario_14 : decode cX4_addScenario 14 = .ok (.getfield 71, 3) := by decide +kernel
theorem dX4_addScenario_17 : decode cX4_addScenario 17 = .ok (.iconst 4, 1) := by decide +kernel
theorem dX4_addScenario_18 : decode cX4_addScenario 18 = .ok (.if_icmp .ne 7, 3) := by decide +kernel
theorem dX4_addScenario_21 : decode cX4_addScenario 21 = .ok (.iconst 2, 1) := by decide +kernel
theorem dX4_addScenario_22 : decode cX4_addScenario 22 = .ok (.goto 4, 3) := by decide +kernel
theorem dX4_addScenario_25 : decode cX4_addScenario 25 = .ok (.iconst 0, 1) := by decide +kernel
theorem dX4_addScenario_26 : decode cX4_addScenario 26 = .ok (.putfield 61, 3) := by decide +kernel
theorem dX4_addScenario_29 : decode cX4_addScenario 29 = .ok (.aload_n 0, 1) := by decide +kernel
theorem dX4_addScenario_30 : decode cX4_addScenario 30 = .ok (.getfield 61, 3) := by decide +kernel
theorem dX4_addScenario_33 : decode cX4_addScenario 33 = .ok (.ifCond .le 5, 3) := by decide +kernel
theorem dX4_addScenario_36 : decode cX4_addScenario 36 = .ok (.iconst 0, 1) := by decide +kernel
theorem dX4_addScenario_37 : decode cX4_addScenario 37 = .ok (.ireturn, 1) := by decide +kernel
theorem dX4_addScenario_38 : decode cX4_addScenario 38 = .ok (.aload_n 0, 1) := by decide +kernel
theorem dX4_addScenario_39 : decode cX4_addScenario 39 = .ok (.getfield 22, 3) := by decide +kernel
theorem dX4_addScenario_42 : decode cX4_addScenario 42 = .ok (.aload_n 0, 1) := by decide +kernel
theorem dX4_addScenario_43 : decode cX4_addScenario 43 = .ok (.getfield 71, 3) := by decide +kernel
theorem dX4_addScenario_46 : decode cX4_addScenario 46 = .ok (.iload_n 1, 1) := by decide +kernel
theorem dX4_addScenario_47 : decode cX4_addScenario 47 = .ok (.iastore, 1) := by decide +kernel
theorem dX4_addScenario_48 : decode cX4_addScenario 48 = .ok (.aload_n 0, 1) := by decide +kernel
theorem dX4_addScenario_49 : decode cX4_addScenario 49 = .ok (.dup, 1) := by decide +kernel
theorem dX4_addScenario_50 : decode cX4_addScenario 50 = .ok (.getfield 71, 3) := by decide +kernel
theorem dX4_addScenario_53 : decode cX4_addScenario 53 = .ok (.iconst 1, 1) := by decide +kernel
theorem dX4_addScenario_54 : decode cX4_addScenario 54 = .ok (.iadd, 1) := by decide +kernel
theorem dX4_addScenario_55 : decode cX4_addScenario 55 = .ok (.putfield 71, 3) := by decide +kernel
theorem dX4_addScenario_58 : decode cX4_addScenario 58 = .ok (.aload_n 0, 1) := by decide +kernel
theorem dX4_addScenario_59 : decode cX4_addScenario 59 = .ok (.getfield 71, 3) := by decide +kernel
theorem dX4_addScenario_62 : decode cX4_addScenario 62 = .ok (.iconst 1, 1) := by decide +kernel
theorem dX4_addScenario_63 : decode cX4_addScenario 63 = .ok (.isub, 1) := by decide +kernel
theorem dX4_addScenario_64 : decode cX4_addScenario 64 = .ok (.ireturn, 1) := by decide +kernel
set_option maxRecDepth 20000 in
theorem ggX4_differ_X4_isScenario : GoodIn wsX4_differ wsX4_isScenario := goodIn_r _ [11, 12, 13, 14, 10, 15, 24, 25, 26, 27, 28, 29, 30, 31, 32, 33, 34, 35, 36, 37, 38, 39, 40, 41, 42, 43, 44, 45] (by decide +kernel) (by decide +kernel)
set_option maxRecDepth 20000 in
theorem gX4_differ_X4_isScenario : GoodIn wsX4_differ (wsV RX4 118 RX4 yX4_isScenario wsX4_isScenario) := goodIn_app (goodIn_of _ (by decide +kernel)) ggX4_differ_X4_isScenario
set_option maxRecDepth 20000 in
theorem ggX4_differ_X4_isDriver : GoodIn wsX4_differ wsX4_isDriver := goodIn_r _ [19, 20, 13, 14, 10, 15, 24, 25, 26, 27, 28, 29, 30, 31, 32, 33, 34, 35, 36, 37, 38, 39, 40, 41, 42, 43, 44, 45] (by decide +kernel) (by decide +kernel)
set_option maxRecDepth 20000 in
theorem gX4_differ_X4_isDriver : GoodIn wsX4_differ (wsV RX4 110 RX4 yX4_isDriver wsX4_isDriver) := goodIn_app (goodIn_of _ (by decide +kernel)) ggX4_differ_X4_isDriver
set_option maxRecDepth 20000 in
theorem ggX4_differ_X4_isMonth : GoodIn wsX4_differ wsX4_isMonth := goodIn_r _ [23, 13, 14, 10, 15] (by decide +kernel) (by decide +kernel)
set_option maxRecDepth 20000 in
theorem gX4_differ_X4_isMonth : GoodIn wsX4_differ (va_wsS RX4 121 yX4_isMonth wsX4_isMonth) := goodIn_app (goodIn_of _ (by decide +kernel)) ggX4_differ_X4_isMonth
set_option maxRecDepth 20000 in
theorem ggX4_differ_X4_in : GoodIn wsX4_differ wsX4_in := goodIn_r _ [15] (by decide +kernel) (by decide +kernel)
set_option maxRecDepth 20000 in
theorem gX4_differ_X4_in : GoodIn wsX4_differ (va_wsS RX4 80 yX4_in wsX4_in) := goodIn_app (goodIn_of _ (by decide +kernel)) ggX4_differ_X4_in
theorem dX4_differ_0 : decode cX4_differ 0 = .ok (.aload_n 0, 1) := by decide +kernel
theorem dX4_differ_1 : decode cX4_differ 1 = .ok (.aload_n 0, 1) := by decide +kernel
theorem dX4_differ_2 : decode cX4_differ 2 = .ok (.iload_n 1, 1) := by decide +kernel
theorem dX4_differ_3 : decode cX4_differ 3 = .ok (.invokevirtual 118, 3) := by decide +kernel
theorem dX4_differ_6 : decode cX4_differ 6 = .ok (.ifCond .eq 18, 3) := by decide +kernel
theorem dX4_differ_9 : decode cX4_differ 9 = .ok (.aload_n 0, 1) := by decide +kernel
theorem dX4_differ_10 : decode cX4_differ 10 = .ok (.iload_n 2, 1) := by decide +kernel
theorem dX4_differ_11 : decode cX4_differ 11 = .ok (.invokevirtual 110, 3) := by decide +kernel
theorem dX4_differ_14 : decode cX4_differ 14 = .ok (.ifCond .eq 10, 3) := by decide +kernel
theorem dX4_differ_17 : decode cX4_differ 17 = .ok (.iload_n 3, 1) := by decide +kernel
theorem dX4_differ_18 : decode cX4_differ 18 = .ok (.invokestatic 121, 3) := by decide +kernel
theorem dX4_differ_21 : decode cX4_differ 21 = .ok (.ifCond .ne 7, 3) := by decide +kernel
theorem dX4_differ_24 : decode cX4_differ 24 = .ok (.iconst 1, 1) := by decide +kernel
theorem dX4_differ_25 : decode cX4_differ 25 = .ok (.goto 43, 3) := by decide +kernel
theorem dX4_differ_28 : decode cX4_differ 28 = .ok (.iload 4, 2) := by decide +kernel
theorem dX4_differ_30 : decode cX4_differ 30 = .ok (.sipush (-999), 3) := by decide +kernel
theorem dX4_differ_33 : decode cX4_differ 33 = .ok (.sipush 999, 3) := by decide +kernel
theorem dX4_differ_36 : decode cX4_differ 36 = .ok (.invokestatic 80, 3) := by decide +kernel
theorem dX4_differ_39 : decode cX4_differ 39 = .ok (.ifCond .ne 7, 3) := by decide +kernel
theorem dX4_differ_42 : decode cX4_differ 42 = .ok (.iconst 2, 1) := by decide +kernel
theorem dX4_differ_43 : decode cX4_differ 43 = .ok (.goto 25, 3) := by decide +kernel
theorem dX4_differ_46 : decode cX4_differ 46 = .ok (.iload_n 1, 1) := by decide +kernel
theorem dX4_differ_47 : decode cX4_differ 47 = .ok (.ifCond .ne 7, 3) := by decide +kernel
theorem dX4_differ_50 : decode cX4_differ 50 = .ok (.iconst 3, 1) := by decide +kernel
theorem dX4_differ_51 : decode cX4_differ 51 = .ok (.goto 17, 3) := by decide +kernel
theorem dX4_differ_54 : decode cX4_differ 54 = .ok (.aload_n 0, 1) := by decide +kernel
theorem dX4_differ_55 : decode cX4_differ 55 = .ok (.getfield 74, 3) := by decide +kernel
theorem dX4_differ_58 : decode cX4_differ 58 = .ok (.bipush 12, 2) := by decide +kernel
theorem dX4_differ_60 : decode cX4_differ 60 = .ok (.if_icmp .ne 7, 3) := by decide +kernel
theorem dX4_differ_63 : decode cX4_differ 63 = .ok (.iconst 4, 1) := by decide +kernel
theorem dX4_differ_64 : decode cX4_differ 64 = .ok (.goto 4, 3) := by decide +kernel
theorem dX4_differ_67 : decode cX4_differ 67 = .ok (.iconst 0, 1) := by decide +kernel
theorem dX4_differ_68 : decode cX4_differ 68 = .ok (.putfield 61, 3) := by decide +kernel
theorem dX4_differ_71 : decode cX4_differ 71 = .ok (.aload_n 0, 1) := by decide +kernel
theorem dX4_differ_72 : decode cX4_differ 72 = .ok (.getfield 61, 3) := by decide +kernel
theorem dX4_differ_75 : decode cX4_differ 75 = .ok (.ifCond .le 5, 3) := by decide +kernel
theorem dX4_differ_78 : decode cX4_differ 78 = .ok (.iconst 0, 1) := by decide +kernel
theorem dX4_differ_79 : decode cX4_differ 79 = .ok (.ireturn, 1) := by decide +kernel
theorem dX4_differ_80 : decode cX4_differ 80 = .ok (.aload_n 0, 1) := by decide +kernel
theorem dX4_differ_81 : decode cX4_differ 81 = .ok (.getfield 25, 3) := by decide +kernel
theorem dX4_differ_84 : decode cX4_differ 84 = .ok (.aload_n 0, 1) := by decide +kernel
theorem dX4_differ_85 : decode cX4_differ 85 = .ok (.getfield 74, 3) := by decide +kernel
theorem dX4_differ_88 : decode cX4_differ 88 = .ok (.iload_n 1, 1) := by decide +kernel
theorem dX4_differ_89 : decode cX4_differ 89 = .ok (.iastore, 1) := by decide +kernel
theorem dX4_differ_90 : decode cX4_differ 90 = .ok (.aload_n 0, 1) := by decide +kernel
theorem dX4_differ_91 : decode cX4_differ 91 = .ok (.getfield 28, 3) := by decide +kernel
theorem dX4_differ_94 : decode cX4_differ 94 = .ok (.aload_n 0, 1) := by decide +kernel
theorem dX4_differ_95 : decode cX4_differ 95 = .ok (.getfield 74, 3) := by decide +kernel
theorem dX4_differ_98 : decode cX4_differ 98 = .ok (.iload_n 2, 1) := by decide +kernel
theorem dX4_differ_99 : decode cX4_differ 99 = .ok (.iastore, 1) := by decide +kernel
theorem dX4_differ_100 : decode cX4_differ 100 = .ok (.aload_n 0, 1) := by decide +kernel
theorem dX4_differ_101 : decode cX4_differ 101 = .ok (.getfield 31, 3) := by decide +kernel
theorem dX4_differ_104 : decode cX4_differ 104 = .ok (.aload_n 0, 1) := by decide +kernel
theorem dX4_differ_105 : decode cX4_differ 105 = .ok (.getfield 74, 3) := by decide +kernel
theorem dX4_differ_108 : decode cX4_differ 108 = .ok (.iload_n 3, 1) := by decide +kernel
theorem dX4_differ_109 : decode cX4_differ 109 = .ok (.iastore, 1) := by decide +kernel
theorem dX4_differ_110 : decode cX4_differ 110 = .ok (.aload_n 0, 1) := by decide +kernel
theorem dX4_differ_111 : decode cX4_differ 111 = .ok (.getfield 34, 3) := by decide +kernel
theorem dX4_differ_114 : decode cX4_differ 114 = .ok (.aload_n 0, 1) := by decide +kernel
theorem dX4_differ_115 : decode cX4_differ 115 = .ok (.getfield 74, 3) := by decide +kernel
theorem dX4_differ_118 : decode cX4_differ 118 = .ok (.iload 4, 2) := by decide +kernel
theorem dX4_differ_120 : decode cX4_differ 120 = .ok (.iastore, 1) := by decide +kernel
theorem dX4_differ_121 : decode cX4_differ 121 = .ok (.aload_n 0, 1) := by decide +kernel
theorem dX4_differ_122 : decode cX4_differ 122 = .ok (.dup, 1) := by decide +kernel
theorem dX4_differ_123 : decode cX4_differ 123 = .ok (.getfield 74, 3) := by decide +kernel
theorem dX4_differ_126 : decode cX4_differ 126 = .ok (.iconst 1, 1) := by decide +kernel
theorem dX4_differ_127 : decode cX4_differ 127 = .ok (.iadd, 1) := by decide +kernel
theorem dX4_differ_128 : decode cX4_differ 128 = .ok (.putfield 74, 3) := by decide +kernel
theorem dX4_differ_131 : decode cX4_differ 131 = .ok (.iconst 0, 1) := by decide +kernel
theorem dX4_differ_132 : decode cX4_differ 132 = .ok (.istore 5, 2) := by decide +kernel
theorem dX4_differ_134 : decode cX4_differ 134 = .ok (.iconst 0, 1) := by decide +kernel
theorem dX4_differ_135 : decode cX4_differ 135 = .ok (.istore 6, 2) := by decide +kernel
theorem dX4_differ_137 : decode cX4_differ 137 = .ok (.iload 6, 2) := by decide +kernel
theorem dX4_differ_139 : decode cX4_differ 139 = .ok (.aload_n 0, 1) := by decide +kernel
theorem dX4_differ_140 : decode cX4_differ 140 = .ok (.getfield 74, 3) := by decide +kernel
theorem dX4_differ_143 : decode cX4_differ 143 = .ok (.if_icmp .ge 30, 3) := by decide +kernel
theorem dX4_differ_146 : decode cX4_differ 146 = .ok (.iload 5, 2) := by decide +kernel
theorem dX4_differ_148 : decode cX4_differ 148 = .ok (.aload_n 0, 1) := by decide +kernel
theorem dX4_differ_149 : decode cX4_differ 149 = .ok (.getfield 25, 3) := by decide +kernel
theorem dX4_differ_152 : decode cX4_differ 152 = .ok (.iload 6, 2) := by decide +kernel
theorem dX4_differ_154 : decode cX4_differ 154 = .ok (.iaload, 1) := by decide +kernel
theorem dX4_differ_155 : decode cX4_differ 155 = .ok (.iload_n 1, 1) := by decide +kernel
theorem dX4_differ_156 : decode cX4_differ 156 = .ok (.if_icmp .ne 7, 3) := by decide +kernel
theorem dX4_differ_159 : decode cX4_differ 159 = .ok (.iconst 1, 1) := by decide +kernel
theorem dX4_differ_160 : decode cX4_differ 160 = .ok (.goto 4, 3) := by decide +kernel
theorem dX4_differ_163 : decode cX4_differ 163 = .ok (.iconst 0, 1) := by decide +kernel
theorem dX4_differ_164 : decode cX4_differ 164 = .ok (.iadd, 1) := by decide +kernel
theorem dX4_differ_165 : decode cX4_differ 165 = .ok (.istore 5, 2) := by decide +kernel
theorem dX4_differ_167 : decode cX4_differ 167 = .ok (.iinc 6 1, 3) := by decide +kernel
theorem dX4_differ_170 : decode cX4_differ 170 = .ok (.goto (-33), 3) := by decide +kernel
theorem dX4_differ_173 : decode cX4_differ 173 = .ok (.iload 5, 2) := by decide +kernel
theorem dX4_differ_175 : decode cX4_differ 175 = .ok (.ireturn, 1) := by decide +kernel
set_option maxRecDepth 20000 in
theorem ggX4_number_X4_isScenario : GoodIn wsX4_number wsX4_isScenario := goodIn_r _ [7, 8, 9, 10, 6, 11, 55, 56, 57, 58, 59, 60, 61, 62, 63, 64, 65, 66, 67, 68, 69, 70, 71, 72, 73, 74, 75, 76] (by decide +kernel) (by decide +kernel)
set_option maxRecDepth 20000 in
theorem gX4_number_X4_isScenario : GoodIn wsX4_number (wsV RX4 118 RX4 yX4_isScenario wsX4_isScenario) := goodIn_app (goodIn_of _ (by decide +kernel)) ggX4_number_X4_isScenario
set_option maxRecDepth 20000 in
theorem ggX4_number_X4_isLine : GoodIn wsX4_number wsX4_isLine := goodIn_r _ [15, 16, 9, 10, 6, 11, 55, 56, 57, 58, 59, 60, 61, 62, 63, 64, 65, 66, 67, 68, 69, 70, 71, 72, 73, 74, 75, 76] (by decide +kernel) (by decide +kernel)
set_option maxRecDepth 20000 in
theorem gX4_number_X4_isLine : GoodIn wsX4_number (wsV RX4 128 RX4 yX4_isLine wsX4_isLine) := goodIn_app (goodIn_of _ (by decide +kernel)) ggX4_number_X4_isLine
set_option maxRecDepth 20000 in
theorem ggX4_number_X4_isMonth : GoodIn wsX4_number wsX4_isMonth := goodIn_r _ [19, 9, 10, 6, 11] (by decide +kernel) (by decide +kernel)
set_option maxRecDepth 20000 in
theorem gX4_number_X4_isMonth : GoodIn wsX4_number (va_wsS RX4 121 yX4_isMonth wsX4_isMonth) := goodIn_app (goodIn_of _ (by decide +kernel)) ggX4_number_X4_isMonth
set_option maxRecDepth 20000 in
theorem ggX4_number_X4_finds : GoodIn wsX4_number wsX4_finds := goodIn_ca (goodIn_r _ [23, 24, 25, 26, 27, 28, 2, 29, 30, 31, 32, 33, 6, 34, 35, 36, 37, 38, 39, 40, 41, 42, 43, 44, 45, 46, 47, 48, 49, 50, 51, 52, 53, 54, 55, 56, 57, 58, 59, 60, 61, 62, 63, 64, 65, 66, 67, 68, 69, 70, 71, 72, 73, 74, 75, 76] (by decide +kernel) (by decide +kernel)) (goodIn_sub (fun _ h => List.mem_cons_of_mem _ (List.mem_append_right _ h)) (by decide +kernel))
set_option maxRecDepth 20000 in
theorem gX4_number_X4_finds : GoodIn wsX4_number (wsV RX4 106 RX4 yX4_finds wsX4_finds) := goodIn_app (goodIn_of _ (by decide +kernel)) ggX4_number_X4_finds
theorem dX4_number_0 : decode cX4_number 0 = .ok (.aload_n 0, 1) := by decide +kernel
end
section
theorem dX4_number_1 : decode cX4_number 1 = .ok (.aload_n 0, 1) := by decide +kernel
theorem dX4_number_2 : decode cX4_number 2 = .ok (.iload_n 1, 1) := by decide +kernel
theorem dX4_number_3 : decode cX4_number 3 = .ok (.invokevirtual 118, 3) := by decide +kernel
theorem dX4_number_6 : decode cX4_number 6 = .ok (.ifCond .eq 18, 3) := by decide +kernel
theorem dX4_number_9 : decode cX4_number 9 = .ok (.aload_n 0, 1) := by decide +kernel
theorem dX4_number_10 : decode cX4_number 10 = .ok (.iload_n 2, 1) := by decide +kernel
theorem dX4_number_11 : decode cX4_number 11 = .ok (.invokevirtual 128, 3) := by decide +kernel
theorem dX4_number_14 : decode cX4_number 14 = .ok (.ifCond .eq 10, 3) := by decide +kernel
theorem dX4_number_17 : decode cX4_number 17 = .ok (.iload_n 3, 1) := by decide +kernel
theorem dX4_number_18 : decode cX4_number 18 = .ok (.invokestatic 121, 3) := by decide +kernel
theorem dX4_number_21 : decode cX4_number 21 = .ok (.ifCond .ne 7, 3) := by decide +kernel
theorem dX4_number_24 : decode cX4_number 24 = .ok (.iconst 1, 1) := by decide +kernel
theorem dX4_number_25 : decode cX4_number 25 = .ok (.goto 20, 3) := by decide +kernel
theorem dX4_number_28 : decode cX4_number 28 = .ok (.aload_n 0, 1) := by decide +kernel
theorem dX4_number_29 : decode cX4_number 29 = .ok (.iload_n 1, 1) := by decide +kernel
theorem dX4_number_30 : decode cX4_number 30 = .ok (.iload_n 2, 1) := by decide +kernel
theorem dX4_number_31 : decode cX4_number 31 = .ok (.iload_n 3, 1) := by decide +kernel
theorem dX4_number_32 : decode cX4_number 32 = .ok (.bipush 6, 2) := by decide +kernel
theorem dX4_number_34 : decode cX4_number 34 = .ok (.invokevirtual 106, 3) := by decide +kernel
theorem dX4_number_37 : decode cX4_number 37 = .ok (.ifCond .ne 7, 3) := by decide +kernel
theorem dX4_number_40 : decode cX4_number 40 = .ok (.iconst 2, 1) := by decide +kernel
theorem dX4_number_41 : decode cX4_number 41 = .ok (.goto 4, 3) := by decide +kernel
theorem dX4_number_44 : decode cX4_number 44 = .ok (.iconst 0, 1) := by decide +kernel
theorem dX4_number_45 : decode cX4_number 45 = .ok (.putfield 61, 3) := by decide +kernel
theorem dX4_number_48 : decode cX4_number 48 = .ok (.aload_n 0, 1) := by decide +kernel
theorem dX4_number_49 : decode cX4_number 49 = .ok (.getfield 61, 3) := by decide +kernel
theorem dX4_number_52 : decode cX4_number 52 = .ok (.ifCond .le 7, 3) := by decide +kernel
theorem dX4_number_55 : decode cX4_number 55 = .ok (.iconst 0, 1) := by decide +kernel
theorem dX4_number_56 : decode cX4_number 56 = .ok (.goto 10, 3) := by decide +kernel
theorem dX4_number_59 : decode cX4_number 59 = .ok (.aload_n 0, 1) := by decide +kernel
theorem dX4_number_60 : decode cX4_number 60 = .ok (.getfield 57, 3) := by decide +kernel
theorem dX4_number_63 : decode cX4_number 63 = .ok (.iload_n 2, 1) := by decide +kernel
theorem dX4_number_64 : decode cX4_number 64 = .ok (.laload, 1) := by decide +kernel
theorem dX4_number_65 : decode cX4_number 65 = .ok (.l2i, 1) := by decide +kernel
theorem dX4_number_66 : decode cX4_number 66 = .ok (.ireturn, 1) := by decide +kernel
set_option maxRecDepth 20000 in
theorem ggX4_numberByHand_X4_number : GoodIn wsX4_numberByHand wsX4_number := goodIn_ca (goodIn_r _ [5, 6, 7, 8, 9, 10, 4, 11, 12, 13, 14, 15, 16, 17, 18, 19, 20, 21, 22, 23, 24, 25, 26, 27, 28, 29, 30, 31, 32, 33, 34, 35, 36, 37, 38, 39, 40, 41, 42, 43, 44, 45, 46, 47, 48, 49, 50, 51, 52, 53, 54, 55, 56, 57, 58, 59, 60, 61, 62, 63, 64, 65, 66, 67, 68, 69, 70, 71, 72, 73, 74, 75, 76, 77, 78, 79, 80] (by decide +kernel) (by decide +kernel)) (goodIn_sub (fun _ h => List.mem_cons_of_mem _ (List.mem_append_right _ h)) (by decide +kernel))
set_option maxRecDepth 20000 in
theorem gX4_numberByHand_X4_number : GoodIn wsX4_numberByHand (wsV RX4 131 RX4 yX4_number wsX4_number) := goodIn_app (goodIn_of _ (by decide +kernel)) ggX4_numberByHand_X4_number
theorem dX4_numberByHand_0 : decode cX4_numberByHand 0 = .ok (.aload_n 0, 1) := by decide +kernel
theorem dX4_numberByHand_1 : decode cX4_numberByHand 1 = .ok (.iload_n 1, 1) := by decide +kernel
theorem dX4_numberByHand_2 : decode cX4_numberByHand 2 = .ok (.iload_n 2, 1) := by decide +kernel
theorem dX4_numberByHand_3 : decode cX4_numberByHand 3 = .ok (.iload_n 3, 1) := by decide +kernel
theorem dX4_numberByHand_4 : decode cX4_numberByHand 4 = .ok (.invokevirtual 131, 3) := by decide +kernel
theorem dX4_numberByHand_7 : decode cX4_numberByHand 7 = .ok (.ireturn, 1) := by decide +kernel
set_option maxRecDepth 20000 in
theorem ggX4_year_X4_isScenario : GoodIn wsX4_year wsX4_isScenario := goodIn_r _ [7, 8, 9, 10, 6, 11, 52, 53, 54, 55, 56, 57, 58, 59, 60, 61, 62, 63, 64, 65, 66, 67, 68, 69, 70, 71, 72, 73] (by decide +kernel) (by decide +kernel)
set_option maxRecDepth 20000 in
theorem gX4_year_X4_isScenario : GoodIn wsX4_year (wsV RX4 118 RX4 yX4_isScenario wsX4_isScenario) := goodIn_app (goodIn_of _ (by decide +kernel)) ggX4_year_X4_isScenario
set_option maxRecDepth 20000 in
theorem ggX4_year_X4_isLine : GoodIn wsX4_year wsX4_isLine := goodIn_r _ [15, 16, 9, 10, 6, 11, 52, 53, 54, 55, 56, 57, 58, 59, 60, 61, 62, 63, 64, 65, 66, 67, 68, 69, 70, 71, 72, 73] (by decide +kernel) (by decide +kernel)
set_option maxRecDepth 20000 in
theorem gX4_year_X4_isLine : GoodIn wsX4_year (wsV RX4 128 RX4 yX4_isLine wsX4_isLine) := goodIn_app (goodIn_of _ (by decide +kernel)) ggX4_year_X4_isLine
set_option maxRecDepth 20000 in
theorem ggX4_year_X4_finds : GoodIn wsX4_year wsX4_finds := goodIn_ca (goodIn_r _ [20, 21, 22, 23, 24, 25, 2, 26, 27, 28, 29, 30, 6, 31, 32, 33, 34, 35, 36, 37, 38, 39, 40, 41, 42, 43, 44, 45, 46, 47, 48, 49, 50, 51, 52, 53, 54, 55, 56, 57, 58, 59, 60, 61, 62, 63, 64, 65, 66, 67, 68, 69, 70, 71, 72, 73] (by decide +kernel) (by decide +kernel)) (goodIn_sub (fun _ h => List.mem_cons_of_mem _ (List.mem_append_right _ h)) (by decide +kernel))
set_option maxRecDepth 20000 in
theorem gX4_year_X4_finds : GoodIn wsX4_year (wsV RX4 106 RX4 yX4_finds wsX4_finds) := goodIn_app (goodIn_of _ (by decide +kernel)) ggX4_year_X4_finds
theorem dX4_year_0 : decode cX4_year 0 = .ok (.aload_n 0, 1) := by decide +kernel
theorem dX4_year_1 : decode cX4_year 1 = .ok (.aload_n 0, 1) := by decide +kernel
theorem dX4_year_2 : decode cX4_year 2 = .ok (.iload_n 1, 1) := by decide +kernel
theorem dX4_year_3 : decode cX4_year 3 = .ok (.invokevirtual 118, 3) := by decide +kernel
theorem dX4_year_6 : decode cX4_year 6 = .ok (.ifCond .eq 11, 3) := by decide +kernel
theorem dX4_year_9 : decode cX4_year 9 = .ok (.aload_n 0, 1) := by decide +kernel
theorem dX4_year_10 : decode cX4_year 10 = .ok (.iload_n 2, 1) := by decide +kernel
theorem dX4_year_11 : decode cX4_year 11 = .ok (.invokevirtual 128, 3) := by decide +kernel
theorem dX4_year_14 : decode cX4_year 14 = .ok (.ifCond .ne 7, 3) := by decide +kernel
theorem dX4_year_17 : decode cX4_year 17 = .ok (.iconst 1, 1) := by decide +kernel
theorem dX4_year_18 : decode cX4_year 18 = .ok (.goto 4, 3) := by decide +kernel
theorem dX4_year_21 : decode cX4_year 21 = .ok (.iconst 0, 1) := by decide +kernel
theorem dX4_year_22 : decode cX4_year 22 = .ok (.putfield 61, 3) := by decide +kernel
theorem dX4_year_25 : decode cX4_year 25 = .ok (.lconst 0, 1) := by decide +kernel
theorem dX4_year_26 : decode cX4_year 26 = .ok (.lstore_n 3, 1) := by decide +kernel
theorem dX4_year_27 : decode cX4_year 27 = .ok (.iconst 0, 1) := by decide +kernel
theorem dX4_year_28 : decode cX4_year 28 = .ok (.istore 5, 2) := by decide +kernel
theorem dX4_year_30 : decode cX4_year 30 = .ok (.iload 5, 2) := by decide +kernel
theorem dX4_year_32 : decode cX4_year 32 = .ok (.bipush 12, 2) := by decide +kernel
theorem dX4_year_34 : decode cX4_year 34 = .ok (.if_icmp .ge 43, 3) := by decide +kernel
theorem dX4_year_37 : decode cX4_year 37 = .ok (.aload_n 0, 1) := by decide +kernel
theorem dX4_year_38 : decode cX4_year 38 = .ok (.getfield 61, 3) := by decide +kernel
theorem dX4_year_41 : decode cX4_year 41 = .ok (.ifCond .ne 36, 3) := by decide +kernel
theorem dX4_year_44 : decode cX4_year 44 = .ok (.aload_n 0, 1) := by decide +kernel
theorem dX4_year_45 : decode cX4_year 45 = .ok (.iload_n 1, 1) := by decide +kernel
theorem dX4_year_46 : decode cX4_year 46 = .ok (.iload_n 2, 1) := by decide +kernel
theorem dX4_year_47 : decode cX4_year 47 = .ok (.iload 5, 2) := by decide +kernel
theorem dX4_year_49 : decode cX4_year 49 = .ok (.bipush 6, 2) := by decide +kernel
theorem dX4_year_51 : decode cX4_year 51 = .ok (.invokevirtual 106, 3) := by decide +kernel
theorem dX4_year_54 : decode cX4_year 54 = .ok (.ifCond .ne 8, 3) := by decide +kernel
theorem dX4_year_57 : decode cX4_year 57 = .ok (.aload_n 0, 1) := by decide +kernel
theorem dX4_year_58 : decode cX4_year 58 = .ok (.iconst 2, 1) := by decide +kernel
theorem dX4_year_59 : decode cX4_year 59 = .ok (.putfield 61, 3) := by decide +kernel
theorem dX4_year_62 : decode cX4_year 62 = .ok (.lload_n 3, 1) := by decide +kernel
theorem dX4_year_63 : decode cX4_year 63 = .ok (.aload_n 0, 1) := by decide +kernel
theorem dX4_year_64 : decode cX4_year 64 = .ok (.getfield 57, 3) := by decide +kernel
theorem dX4_year_67 : decode cX4_year 67 = .ok (.iload_n 2, 1) := by decide +kernel
theorem dX4_year_68 : decode cX4_year 68 = .ok (.laload, 1) := by decide +kernel
theorem dX4_year_69 : decode cX4_year 69 = .ok (.ladd, 1) := by decide +kernel
theorem dX4_year_70 : decode cX4_year 70 = .ok (.lstore_n 3, 1) := by decide +kernel
theorem dX4_year_71 : decode cX4_year 71 = .ok (.iinc 5 1, 3) := by decide +kernel
theorem dX4_year_74 : decode cX4_year 74 = .ok (.goto (-44), 3) := by decide +kernel
theorem dX4_year_77 : decode cX4_year 77 = .ok (.aload_n 0, 1) := by decide +kernel
theorem dX4_year_78 : decode cX4_year 78 = .ok (.getfield 61, 3) := by decide +kernel
theorem dX4_year_81 : decode cX4_year 81 = .ok (.ifCond .le 7, 3) := by decide +kernel
theorem dX4_year_84 : decode cX4_year 84 = .ok (.lconst 0, 1) := by decide +kernel
theorem dX4_year_85 : decode cX4_year 85 = .ok (.goto 4, 3) := by decide +kernel
theorem dX4_year_88 : decode cX4_year 88 = .ok (.lload_n 3, 1) := by decide +kernel
theorem dX4_year_89 : decode cX4_year 89 = .ok (.lreturn, 1) := by decide +kernel
set_option maxRecDepth 20000 in
theorem ggX4_effect_X4_isScenario : GoodIn wsX4_effect wsX4_isScenario := goodIn_r _ [7, 8, 9, 10, 6, 11, 60, 61, 62, 63, 64, 65, 66, 67, 68, 69, 70, 71, 72, 73, 74, 75, 76, 77, 78, 79, 80, 81] (by decide +kernel) (by decide +kernel)
set_option maxRecDepth 20000 in
theorem gX4_effect_X4_isScenario : GoodIn wsX4_effect (wsV RX4 118 RX4 yX4_isScenario wsX4_isScenario) := goodIn_app (goodIn_of _ (by decide +kernel)) ggX4_effect_X4_isScenario
set_option maxRecDepth 20000 in
theorem ggX4_effect_X4_isDriver : GoodIn wsX4_effect wsX4_isDriver := goodIn_r _ [15, 16, 9, 10, 6, 11, 60, 61, 62, 63, 64, 65, 66, 67, 68, 69, 70, 71, 72, 73, 74, 75, 76, 77, 78, 79, 80, 81] (by decide +kernel) (by decide +kernel)
set_option maxRecDepth 20000 in
theorem gX4_effect_X4_isDriver : GoodIn wsX4_effect (wsV RX4 110 RX4 yX4_isDriver wsX4_isDriver) := goodIn_app (goodIn_of _ (by decide +kernel)) ggX4_effect_X4_isDriver
set_option maxRecDepth 20000 in
theorem ggX4_effect_X4_isLine : GoodIn wsX4_effect wsX4_isLine := goodIn_r _ [20, 21, 9, 10, 6, 11, 60, 61, 62, 63, 64, 65, 66, 67, 68, 69, 70, 71, 72, 73, 74, 75, 76, 77, 78, 79, 80, 81] (by decide +kernel) (by decide +kernel)
set_option maxRecDepth 20000 in
theorem gX4_effect_X4_isLine : GoodIn wsX4_effect (wsV RX4 128 RX4 yX4_isLine wsX4_isLine) := goodIn_app (goodIn_of _ (by decide +kernel)) ggX4_effect_X4_isLine
set_option maxRecDepth 20000 in
theorem ggX4_effect_X4_isMonth : GoodIn wsX4_effect wsX4_isMonth := goodIn_r _ [24, 9, 10, 6, 11] (by decide +kernel) (by decide +kernel)
set_option maxRecDepth 20000 in
theorem gX4_effect_X4_isMonth : GoodIn wsX4_effect (va_wsS RX4 121 yX4_isMonth wsX4_isMonth) := goodIn_app (goodIn_of _ (by decide +kernel)) ggX4_effect_X4_isMonth
set_option maxRecDepth 20000 in
theorem ggX4_effect_X4_finds : GoodIn wsX4_effect wsX4_finds := goodIn_ca (goodIn_r _ [28, 29, 30, 31, 32, 33, 2, 34, 35, 36, 37, 38, 6, 39, 40, 41, 42, 43, 44, 45, 46, 47, 48, 49, 50, 51, 52, 53, 54, 55, 56, 57, 58, 59, 60, 61, 62, 63, 64, 65, 66, 67, 68, 69, 70, 71, 72, 73, 74, 75, 76, 77, 78, 79, 80, 81] (by decide +kernel) (by decide +kernel)) (goodIn_sub (fun _ h => List.mem_cons_of_mem _ (List.mem_append_right _ h)) (by decide +kernel))
set_option maxRecDepth 20000 in
theorem gX4_effect_X4_finds : GoodIn wsX4_effect (wsV RX4 106 RX4 yX4_finds wsX4_finds) := goodIn_app (goodIn_of _ (by decide +kernel)) ggX4_effect_X4_finds
theorem dX4_effect_0 : decode cX4_effect 0 = .ok (.aload_n 0, 1) := by decide +kernel
theorem dX4_effect_1 : decode cX4_effect 1 = .ok (.aload_n 0, 1) := by decide +kernel
theorem dX4_effect_2 : decode cX4_effect 2 = .ok (.iload_n 1, 1) := by decide +kernel
theorem dX4_effect_3 : decode cX4_effect 3 = .ok (.invokevirtual 118, 3) := by decide +kernel
theorem dX4_effect_6 : decode cX4_effect 6 = .ok (.ifCond .eq 27, 3) := by decide +kernel
theorem dX4_effect_9 : decode cX4_effect 9 = .ok (.aload_n 0, 1) := by decide +kernel
theorem dX4_effect_10 : decode cX4_effect 10 = .ok (.iload_n 2, 1) := by decide +kernel
theorem dX4_effect_11 : decode cX4_effect 11 = .ok (.invokevirtual 110, 3) := by decide +kernel
theorem dX4_effect_14 : decode cX4_effect 14 = .ok (.ifCond .eq 19, 3) := by decide +kernel
theorem dX4_effect_17 : decode cX4_effect 17 = .ok (.aload_n 0, 1) := by decide +kernel
theorem dX4_effect_18 : decode cX4_effect 18 = .ok (.iload_n 3, 1) := by decide +kernel
theorem dX4_effect_19 : decode cX4_effect 19 = .ok (.invokevirtual 128, 3) := by decide +kernel
theorem dX4_effect_22 : decode cX4_effect 22 = .ok (.ifCond .eq 11, 3) := by decide +kernel
theorem dX4_effect_25 : decode cX4_effect 25 = .ok (.iload 4, 2) := by decide +kernel
theorem dX4_effect_27 : decode cX4_effect 27 = .ok (.invokestatic 121, 3) := by decide +kernel
theorem dX4_effect_30 : decode cX4_effect 30 = .ok (.ifCond .ne 7, 3) := by decide +kernel
theorem dX4_effect_33 : decode cX4_effect 33 = .ok (.iconst 1, 1) := by decide +kernel
theorem dX4_effect_34 : decode cX4_effect 34 = .ok (.goto 4, 3) := by decide +kernel
theorem dX4_effect_37 : decode cX4_effect 37 = .ok (.iconst 0, 1) := by decide +kernel
theorem dX4_effect_38 : decode cX4_effect 38 = .ok (.putfield 61, 3) := by decide +kernel
theorem dX4_effect_41 : decode cX4_effect 41 = .ok (.aload_n 0, 1) := by decide +kernel
theorem dX4_effect_42 : decode cX4_effect 42 = .ok (.getfield 61, 3) := by decide +kernel
theorem dX4_effect_45 : decode cX4_effect 45 = .ok (.ifCond .le 5, 3) := by decide +kernel
theorem dX4_effect_48 : decode cX4_effect 48 = .ok (.iconst 0, 1) := by decide +kernel
theorem dX4_effect_49 : decode cX4_effect 49 = .ok (.ireturn, 1) := by decide +kernel
theorem dX4_effect_50 : decode cX4_effect 50 = .ok (.aload_n 0, 1) := by decide +kernel
theorem dX4_effect_51 : decode cX4_effect 51 = .ok (.iload_n 1, 1) := by decide +kernel
theorem dX4_effect_52 : decode cX4_effect 52 = .ok (.iload_n 3, 1) := by decide +kernel
theorem dX4_effect_53 : decode cX4_effect 53 = .ok (.iload 4, 2) := by decide +kernel
theorem dX4_effect_55 : decode cX4_effect 55 = .ok (.iload_n 2, 1) := by decide +kernel
theorem dX4_effect_56 : decode cX4_effect 56 = .ok (.iconst 1, 1) := by decide +kernel
theorem dX4_effect_57 : decode cX4_effect 57 = .ok (.iadd, 1) := by decide +kernel
theorem dX4_effect_58 : decode cX4_effect 58 = .ok (.invokevirtual 106, 3) := by decide +kernel
theorem dX4_effect_61 : decode cX4_effect 61 = .ok (.istore 5, 2) := by decide +kernel
theorem dX4_effect_63 : decode cX4_effect 63 = .ok (.aload_n 0, 1) := by decide +kernel
theorem dX4_effect_64 : decode cX4_effect 64 = .ok (.getfield 57, 3) := by decide +kernel
theorem dX4_effect_67 : decode cX4_effect 67 = .ok (.iload_n 3, 1) := by decide +kernel
theorem dX4_effect_68 : decode cX4_effect 68 = .ok (.laload, 1) := by decide +kernel
theorem dX4_effect_69 : decode cX4_effect 69 = .ok (.lstore 6, 2) := by decide +kernel
theorem dX4_effect_71 : decode cX4_effect 71 = .ok (.aload_n 0, 1) := by decide +kernel
theorem dX4_effect_72 : decode cX4_effect 72 = .ok (.iload_n 1, 1) := by decide +kernel
theorem dX4_effect_73 : decode cX4_effect 73 = .ok (.iload_n 3, 1) := by decide +kernel
theorem dX4_effect_74 : decode cX4_effect 74 = .ok (.iload 4, 2) := by decide +kernel
theorem dX4_effect_76 : decode cX4_effect 76 = .ok (.iload_n 2, 1) := by decide +kernel
theorem dX4_effect_77 : decode cX4_effect 77 = .ok (.invokevirtual 106, 3) := by decide +kernel
theorem dX4_effect_80 : decode cX4_effect 80 = .ok (.istore 8, 2) := by decide +kernel
theorem dX4_effect_82 : decode cX4_effect 82 = .ok (.aload_n 0, 1) := by decide +kernel
theorem dX4_effect_83 : decode cX4_effect 83 = .ok (.iload 5, 2) := by decide +kernel
theorem dX4_effect_85 : decode cX4_effect 85 = .ok (.ifCond .eq 12, 3) := by decide +kernel
theorem dX4_effect_88 : decode cX4_effect 88 = .ok (.iload 8, 2) := by decide +kernel
theorem dX4_effect_90 : decode cX4_effect 90 = .ok (.ifCond .eq 7, 3) := by decide +kernel
theorem dX4_effect_93 : decode cX4_effect 93 = .ok (.iconst 0, 1) := by decide +kernel
theorem dX4_effect_94 : decode cX4_effect 94 = .ok (.goto 4, 3) := by decide +kernel
theorem dX4_effect_97 : decode cX4_effect 97 = .ok (.iconst 2, 1) := by decide +kernel
theorem dX4_effect_98 : decode cX4_effect 98 = .ok (.putfield 61, 3) := by decide +kernel
theorem dX4_effect_101 : decode cX4_effect 101 = .ok (.aload_n 0, 1) := by decide +kernel
theorem dX4_effect_102 : decode cX4_effect 102 = .ok (.getfield 61, 3) := by decide +kernel
theorem dX4_effect_105 : decode cX4_effect 105 = .ok (.ifCond .le 7, 3) := by decide +kernel
theorem dX4_effect_108 : decode cX4_effect 108 = .ok (.iconst 0, 1) := by decide +kernel
theorem dX4_effect_109 : decode cX4_effect 109 = .ok (.goto 13, 3) := by decide +kernel
theorem dX4_effect_112 : decode cX4_effect 112 = .ok (.lload 6, 2) := by decide +kernel
theorem dX4_effect_114 : decode cX4_effect 114 = .ok (.aload_n 0, 1) := by decide +kernel
theorem dX4_effect_115 : decode cX4_effect 115 = .ok (.getfield 57, 3) := by decide +kernel
theorem dX4_effect_118 : decode cX4_effect 118 = .ok (.iload_n 3, 1) := by decide +kernel
theorem dX4_effect_119 : decode cX4_effect 119 = .ok (.laload, 1) := by decide +kernel
theorem dX4_effect_120 : decode cX4_effect 120 = .ok (.lsub, 1) := by decide +kernel
theorem dX4_effect_121 : decode cX4_effect 121 = .ok (.l2i, 1) := by decide +kernel
theorem dX4_effect_122 : decode cX4_effect 122 = .ok (.ireturn, 1) := by decide +kernel
set_option maxRecDepth 20000 in
theorem ggX4_seek_X4_isDriver : GoodIn wsX4_seek wsX4_isDriver := goodIn_r _ [8, 9, 10, 11, 7, 12, 55, 56, 57, 58, 59, 60, 61, 62, 63, 64, 65, 66, 67, 68, 69, 70, 71, 72, 73, 74, 75, 76] (by decide +kernel) (by decide +kernel)
set_option maxRecDepth 20000 in
theorem gX4_seek_X4_isDriver : GoodIn wsX4_seek (wsV RX4 110 RX4 yX4_isDriver wsX4_isDriver) := goodIn_app (goodIn_of _ (by decide +kernel)) ggX4_seek_X4_isDriver
set_option maxRecDepth 20000 in
theorem ggX4_seek_X4_isLine : GoodIn wsX4_seek wsX4_isLine := goodIn_r _ [16, 17, 10, 11, 7, 12, 55, 56, 57, 58, 59, 60, 61, 62, 63, 64, 65, 66, 67, 68, 69, 70, 71, 72, 73, 74, 75, 76] (by decide +kernel) (by decide +kernel)
set_option maxRecDepth 20000 in
theorem gX4_seek_X4_isLine : GoodIn wsX4_seek (wsV RX4 128 RX4 yX4_isLine wsX4_isLine) := goodIn_app (goodIn_of _ (by decide +kernel)) ggX4_seek_X4_isLine
set_option maxRecDepth 20000 in
theorem ggX4_seek_X4_isMonth : GoodIn wsX4_seek wsX4_isMonth := goodIn_r _ [20, 10, 11, 7, 12] (by decide +kernel) (by decide +kernel)
set_option maxRecDepth 20000 in
theorem gX4_seek_X4_isMonth : GoodIn wsX4_seek (va_wsS RX4 121 yX4_isMonth wsX4_isMonth) := goodIn_app (goodIn_of _ (by decide +kernel)) ggX4_seek_X4_isMonth
set_option maxRecDepth 20000 in
theorem ggX4_seek_X4_finds : GoodIn wsX4_seek wsX4_finds := goodIn_ca (goodIn_r _ [24, 25, 26, 27, 28, 29, 3, 30, 31, 32, 33, 34, 7, 35, 36, 37, 38, 39, 40, 41, 42, 43, 44, 2, 45, 46, 47, 48, 49, 50, 51, 52, 53, 54, 55, 56, 57, 58, 59, 60, 61, 62, 63, 64, 65, 66, 67, 68, 69, 70, 71, 72, 73, 74, 75, 76] (by decide +kernel) (by decide +kernel)) (goodIn_sub (fun _ h => List.mem_cons_of_mem _ (List.mem_append_right _ h)) (by decide +kernel))
set_option maxRecDepth 20000 in
theorem gX4_seek_X4_finds : GoodIn wsX4_seek (wsV RX4 106 RX4 yX4_finds wsX4_finds) := goodIn_app (goodIn_of _ (by decide +kernel)) ggX4_seek_X4_finds
theorem dX4_seek_0 : decode cX4_seek 0 = .ok (.aload_n 0, 1) := by decide +kernel
theorem dX4_seek_1 : decode cX4_seek 1 = .ok (.aload_n 0, 1) := by decide +kernel
theorem dX4_seek_2 : decode cX4_seek 2 = .ok (.iload_n 1, 1) := by decide +kernel
theorem dX4_seek_3 : decode cX4_seek 3 = .ok (.invokevirtual 110, 3) := by decide +kernel
theorem dX4_seek_6 : decode cX4_seek 6 = .ok (.ifCond .eq 18, 3) := by decide +kernel
theorem dX4_seek_9 : decode cX4_seek 9 = .ok (.aload_n 0, 1) := by decide +kernel
theorem dX4_seek_10 : decode cX4_seek 10 = .ok (.iload_n 2, 1) := by decide +kernel
theorem dX4_seek_11 : decode cX4_seek 11 = .ok (.invokevirtual 128, 3) := by decide +kernel
theorem dX4_seek_14 : decode cX4_seek 14 = .ok (.ifCond .eq 10, 3) := by decide +kernel
theorem dX4_seek_17 : decode cX4_seek 17 = .ok (.iload_n 3, 1) := by decide +kernel
theorem dX4_seek_18 : decode cX4_seek 18 = .ok (.invokestatic 121, 3) := by decide +kernel
theorem dX4_seek_21 : decode cX4_seek 21 = .ok (.ifCond .ne 7, 3) := by decide +kernel
theorem dX4_seek_24 : decode cX4_seek 24 = .ok (.iconst 1, 1) := by decide +kernel
theorem dX4_seek_25 : decode cX4_seek 25 = .ok (.goto 4, 3) := by decide +kernel
theorem dX4_seek_28 : decode cX4_seek 28 = .ok (.iconst 0, 1) := by decide +kernel
theorem dX4_seek_29 : decode cX4_seek 29 = .ok (.putfield 61, 3) := by decide +kernel
theorem dX4_seek_32 : decode cX4_seek 32 = .ok (.aload_n 0, 1) := by decide +kernel
theorem dX4_seek_33 : decode cX4_seek 33 = .ok (.getfield 61, 3) := by decide +kernel
theorem dX4_seek_36 : decode cX4_seek 36 = .ok (.ifCond .le 5, 3) := by decide +kernel
theorem dX4_seek_39 : decode cX4_seek 39 = .ok (.iconst 0, 1) := by decide +kernel
theorem dX4_seek_40 : decode cX4_seek 40 = .ok (.ireturn, 1) := by decide +kernel
theorem dX4_seek_41 : decode cX4_seek 41 = .ok (.aload_n 0, 1) := by decide +kernel
theorem dX4_seek_42 : decode cX4_seek 42 = .ok (.getfield 7, 3) := by decide +kernel
theorem dX4_seek_45 : decode cX4_seek 45 = .ok (.iload_n 1, 1) := by decide +kernel
theorem dX4_seek_46 : decode cX4_seek 46 = .ok (.iaload, 1) := by decide +kernel
theorem dX4_seek_47 : decode cX4_seek 47 = .ok (.istore 5, 2) := by decide +kernel
theorem dX4_seek_49 : decode cX4_seek 49 = .ok (.iconst (-1), 1) := by decide +kernel
theorem dX4_seek_50 : decode cX4_seek 50 = .ok (.istore 6, 2) := by decide +kernel
theorem dX4_seek_52 : decode cX4_seek 52 = .ok (.sipush 999, 3) := by decide +kernel
theorem dX4_seek_55 : decode cX4_seek 55 = .ok (.istore 7, 2) := by decide +kernel
theorem dX4_seek_57 : decode cX4_seek 57 = .ok (.iload 7, 2) := by decide +kernel
theorem dX4_seek_59 : decode cX4_seek 59 = .ok (.ifCond .lt 46, 3) := by decide +kernel
theorem dX4_seek_62 : decode cX4_seek 62 = .ok (.aload_n 0, 1) := by decide +kernel
theorem dX4_seek_63 : decode cX4_seek 63 = .ok (.getfield 7, 3) := by decide +kernel
theorem dX4_seek_66 : decode cX4_seek 66 = .ok (.iload_n 1, 1) := by decide +kernel
theorem dX4_seek_67 : decode cX4_seek 67 = .ok (.iload 7, 2) := by decide +kernel
theorem dX4_seek_69 : decode cX4_seek 69 = .ok (.iastore, 1) := by decide +kernel
theorem dX4_seek_70 : decode cX4_seek 70 = .ok (.aload_n 0, 1) := by decide +kernel
theorem dX4_seek_71 : decode cX4_seek 71 = .ok (.iconst 0, 1) := by decide +kernel
theorem dX4_seek_72 : decode cX4_seek 72 = .ok (.iload_n 2, 1) := by decide +kernel
theorem dX4_seek_73 : decode cX4_seek 73 = .ok (.iload_n 3, 1) := by decide +kernel
theorem dX4_seek_74 : decode cX4_seek 74 = .ok (.bipush 6, 2) := by decide +kernel
theorem dX4_seek_76 : decode cX4_seek 76 = .ok (.invokevirtual 106, 3) := by decide +kernel
theorem dX4_seek_79 : decode cX4_seek 79 = .ok (.ifCond .eq 20, 3) := by decide +kernel
theorem dX4_seek_82 : decode cX4_seek 82 = .ok (.aload_n 0, 1) := by decide +kernel
theorem dX4_seek_83 : decode cX4_seek 83 = .ok (.getfield 57, 3) := by decide +kernel
theorem dX4_seek_86 : decode cX4_seek 86 = .ok (.iload_n 2, 1) := by decide +kernel
theorem dX4_seek_87 : decode cX4_seek 87 = .ok (.laload, 1) := by decide +kernel
theorem dX4_seek_88 : decode cX4_seek 88 = .ok (.iload 4, 2) := by decide +kernel
theorem dX4_seek_90 : decode cX4_seek 90 = .ok (.i2l, 1) := by decide +kernel
theorem dX4_seek_91 : decode cX4_seek 91 = .ok (.lcmp, 1) := by decide +kernel
theorem dX4_seek_92 : decode cX4_seek 92 = .ok (.ifCond .lt 7, 3) := by decide +kernel
theorem dX4_seek_95 : decode cX4_seek 95 = .ok (.iload 7, 2) := by decide +kernel
theorem dX4_seek_97 : decode cX4_seek 97 = .ok (.istore 6, 2) := by decide +kernel
theorem dX4_seek_99 : decode cX4_seek 99 = .ok (.iinc 7 (-1), 3) := by decide +kernel
theorem dX4_seek_102 : decode cX4_seek 102 = .ok (.goto (-45), 3) := by decide +kernel
theorem dX4_seek_105 : decode cX4_seek 105 = .ok (.aload_n 0, 1) := by decide +kernel
theorem dX4_seek_106 : decode cX4_seek 106 = .ok (.getfield 7, 3) := by decide +kernel
theorem dX4_seek_109 : decode cX4_seek 109 = .ok (.iload_n 1, 1) := by decide +kernel
theorem dX4_seek_110 : decode cX4_seek 110 = .ok (.iload 5, 2) := by decide +kernel
theorem dX4_seek_112 : decode cX4_seek 112 = .ok (.iastore, 1) := by decide +kernel
theorem dX4_seek_113 : decode cX4_seek 113 = .ok (.aload_n 0, 1) := by decide +kernel
theorem dX4_seek_114 : decode cX4_seek 114 = .ok (.iload 6, 2) := by decide +kernel
theorem dX4_seek_116 : decode cX4_seek 116 = .ok (.ifCond .ge 7, 3) := by decide +kernel
theorem dX4_seek_119 : decode cX4_seek 119 = .ok (.iconst 2, 1) := by decide +kernel
theorem dX4_seek_120 : decode cX4_seek 120 = .ok (.goto 4, 3) := by decide +kernel
theorem dX4_seek_123 : decode cX4_seek 123 = .ok (.iconst 0, 1) := by decide +kernel
theorem dX4_seek_124 : decode cX4_seek 124 = .ok (.putfield 61, 3) := by decide +kernel
theorem dX4_seek_127 : decode cX4_seek 127 = .ok (.aload_n 0, 1) := by decide +kernel
theorem dX4_seek_128 : decode cX4_seek 128 = .ok (.getfield 61, 3) := by decide +kernel
theorem dX4_seek_131 : decode cX4_seek 131 = .ok (.ifCond .le 7, 3) := by decide +kernel
theorem dX4_seek_134 : decode cX4_seek 134 = .ok (.iconst 0, 1) := by decide +kernel
theorem dX4_seek_135 : decode cX4_seek 135 = .ok (.goto 5, 3) := by decide +kernel
theorem dX4_seek_138 : decode cX4_seek 138 = .ok (.iload 6, 2) := by decide +kernel
theorem dX4_seek_140 : decode cX4_seek 140 = .ok (.ireturn, 1) := by decide +kernel
set_option maxRecDepth 20000 in
theorem ggX4_actual_X4_isLine : GoodIn wsX4_actual wsX4_isLine := goodIn_r _ [11, 12, 13, 14, 10, 15, 60, 61, 62, 63, 64, 65, 66, 67, 68, 69, 70, 71, 72, 73, 74, 75, 76, 77, 78, 79, 80, 81] (by decide +kernel) (by decide +kernel)
set_option maxRecDepth 20000 in
theorem gX4_actual_X4_isLine : GoodIn wsX4_actual (wsV RX4 128 RX4 yX4_isLine wsX4_isLine) := goodIn_app (goodIn_of _ (by decide +kernel)) ggX4_actual_X4_isLine
set_option maxRecDepth 20000 in
theorem ggX4_actual_X4_isMonth : GoodIn wsX4_actual wsX4_isMonth := goodIn_r _ [18, 13, 14, 10, 15] (by decide +kernel) (by decide +kernel)
set_option maxRecDepth 20000 in
theorem gX4_actual_X4_isMonth : GoodIn wsX4_actual (va_wsS RX4 121 yX4_isMonth wsX4_isMonth) := goodIn_app (goodIn_of _ (by decide +kernel)) ggX4_actual_X4_isMonth
set_option maxRecDepth 20000 in
theorem ggX4_actual_X4_in : GoodIn wsX4_actual wsX4_in := goodIn_r _ [15] (by decide +kernel) (by decide +kernel)
set_option maxRecDepth 20000 in
theorem gX4_actual_X4_in : GoodIn wsX4_actual (va_wsS RX4 80 yX4_in wsX4_in) := goodIn_app (goodIn_of _ (by decide +kernel)) ggX4_actual_X4_in
set_option maxRecDepth 20000 in
theorem ggX4_actual_X4_at : GoodIn wsX4_actual wsX4_at := goodIn_r _ [21] (by decide +kernel) (by decide +kernel)
set_option maxRecDepth 20000 in
theorem gX4_actual_X4_at : GoodIn wsX4_actual (va_wsS RX4 94 yX4_at wsX4_at) := goodIn_app (goodIn_of _ (by decide +kernel)) ggX4_actual_X4_at
set_option maxRecDepth 20000 in
theorem ggX4_actual_X4_looks : GoodIn wsX4_actual wsX4_looks := goodIn_ca (goodIn_r _ [25, 12, 26, 27, 28, 29, 19, 20, 10, 21, 30, 31, 32, 33, 5, 34, 35, 36, 37, 6, 38, 39, 40, 41, 42, 43, 44, 45, 46, 47, 48, 49, 50, 51, 52, 53, 54, 55, 56, 57, 58, 59, 60, 61, 62, 63, 64, 65, 66, 67, 68, 69, 70, 71, 72, 73, 74, 75, 76, 77, 78, 79, 80, 81] (by decide +kernel) (by decide +kernel)) (goodIn_sub (fun _ h => List.mem_cons_of_mem _ (List.mem_append_right _ h)) (by decide +kernel))
set_option maxRecDepth 20000 in
theorem gX4_actual_X4_looks : GoodIn wsX4_actual (wsV RX4 114 RX4 yX4_looks wsX4_looks) := goodIn_app (goodIn_of _ (by decide +kernel)) ggX4_actual_X4_looks
theorem dX4_actual_0 : decode cX4_actual 0 = .ok (.aload_n 0, 1) := by decide +kernel
theorem dX4_actual_1 : decode cX4_actual 1 = .ok (.aload_n 0, 1) := by decide +kernel
theorem dX4_actual_2 : decode cX4_actual 2 = .ok (.iload_n 1, 1) := by decide +kernel
theorem dX4_actual_3 : decode cX4_actual 3 = .ok (.invokevirtual 128, 3) := by decide +kernel
theorem dX4_actual_6 : decode cX4_actual 6 = .ok (.ifCond .eq 10, 3) := by decide +kernel
theorem dX4_actual_9 : decode cX4_actual 9 = .ok (.iload_n 2, 1) := by decide +kernel
theorem dX4_actual_10 : decode cX4_actual 10 = .ok (.invokestatic 121, 3) := by decide +kernel
theorem dX4_actual_13 : decode cX4_actual 13 = .ok (.ifCond .ne 7, 3) := by decide +kernel
theorem dX4_actual_16 : decode cX4_actual 16 = .ok (.iconst 1, 1) := by decide +kernel
theorem dX4_actual_17 : decode cX4_actual 17 = .ok (.goto 27, 3) := by decide +kernel
theorem dX4_actual_20 : decode cX4_actual 20 = .ok (.iload_n 2, 1) := by decide +kernel
theorem dX4_actual_21 : decode cX4_actual 21 = .ok (.aload_n 0, 1) := by decide +kernel
theorem dX4_actual_22 : decode cX4_actual 22 = .ok (.getfield 77, 3) := by decide +kernel
theorem dX4_actual_25 : decode cX4_actual 25 = .ok (.if_icmp .gt 14, 3) := by decide +kernel
theorem dX4_actual_28 : decode cX4_actual 28 = .ok (.iload_n 3, 1) := by decide +kernel
theorem dX4_actual_29 : decode cX4_actual 29 = .ok (.ldc 135, 2) := by decide +kernel
theorem dX4_actual_31 : decode cX4_actual 31 = .ok (.ldc 136, 2) := by decide +kernel
theorem dX4_actual_33 : decode cX4_actual 33 = .ok (.invokestatic 80, 3) := by decide +kernel
theorem dX4_actual_36 : decode cX4_actual 36 = .ok (.ifCond .ne 7, 3) := by decide +kernel
theorem dX4_actual_39 : decode cX4_actual 39 = .ok (.iconst 2, 1) := by decide +kernel
theorem dX4_actual_40 : decode cX4_actual 40 = .ok (.goto 4, 3) := by decide +kernel
theorem dX4_actual_43 : decode cX4_actual 43 = .ok (.iconst 0, 1) := by decide +kernel
theorem dX4_actual_44 : decode cX4_actual 44 = .ok (.putfield 61, 3) := by decide +kernel
theorem dX4_actual_47 : decode cX4_actual 47 = .ok (.aload_n 0, 1) := by decide +kernel
theorem dX4_actual_48 : decode cX4_actual 48 = .ok (.getfield 61, 3) := by decide +kernel
theorem dX4_actual_51 : decode cX4_actual 51 = .ok (.ifCond .le 5, 3) := by decide +kernel
theorem dX4_actual_54 : decode cX4_actual 54 = .ok (.iconst 0, 1) := by decide +kernel
theorem dX4_actual_55 : decode cX4_actual 55 = .ok (.ireturn, 1) := by decide +kernel
theorem dX4_actual_56 : decode cX4_actual 56 = .ok (.aload_n 0, 1) := by decide +kernel
theorem dX4_actual_57 : decode cX4_actual 57 = .ok (.getfield 46, 3) := by decide +kernel
theorem dX4_actual_60 : decode cX4_actual 60 = .ok (.iload_n 1, 1) := by decide +kernel
theorem dX4_actual_61 : decode cX4_actual 61 = .ok (.iload_n 2, 1) := by decide +kernel
theorem dX4_actual_62 : decode cX4_actual 62 = .ok (.invokestatic 94, 3) := by decide +kernel
theorem dX4_actual_65 : decode cX4_actual 65 = .ok (.iconst 1, 1) := by decide +kernel
theorem dX4_actual_66 : decode cX4_actual 66 = .ok (.bastore, 1) := by decide +kernel
theorem dX4_actual_67 : decode cX4_actual 67 = .ok (.aload_n 0, 1) := by decide +kernel
theorem dX4_actual_68 : decode cX4_actual 68 = .ok (.getfield 37, 3) := by decide +kernel
theorem dX4_actual_71 : decode cX4_actual 71 = .ok (.iload_n 1, 1) := by decide +kernel
theorem dX4_actual_72 : decode cX4_actual 72 = .ok (.iload_n 2, 1) := by decide +kernel
theorem dX4_actual_73 : decode cX4_actual 73 = .ok (.invokestatic 94, 3) := by decide +kernel
theorem dX4_actual_76 : decode cX4_actual 76 = .ok (.iload_n 3, 1) := by decide +kernel
theorem dX4_actual_77 : decode cX4_actual 77 = .ok (.iastore, 1) := by decide +kernel
theorem dX4_actual_78 : decode cX4_actual 78 = .ok (.aload_n 0, 1) := by decide +kernel
theorem dX4_actual_79 : decode cX4_actual 79 = .ok (.invokevirtual 114, 3) := by decide +kernel
theorem dX4_actual_82 : decode cX4_actual 82 = .ok (.ireturn, 1) := by decide +kernel
set_option maxRecDepth 20000 in
theorem ggX4_takeActual_X4_isLine : GoodIn wsX4_takeActual wsX4_isLine := goodIn_r _ [7, 8, 9, 10, 6, 11, 57, 58, 59, 60, 61, 62, 63, 64, 65, 66, 67, 68, 69, 70, 71, 72, 73, 74, 75, 76, 77, 78] (by decide +kernel) (by decide +kernel)
set_option maxRecDepth 20000 in
theorem gX4_takeActual_X4_isLine : GoodIn wsX4_takeActual (wsV RX4 128 RX4 yX4_isLine wsX4_isLine) := goodIn_app (goodIn_of _ (by decide +kernel)) ggX4_takeActual_X4_isLine
set_option maxRecDepth 20000 in
theorem ggX4_takeActual_X4_isMonth : GoodIn wsX4_takeActual wsX4_isMonth := goodIn_r _ [14, 9, 10, 6, 11] (by decide +kernel) (by decide +kernel)
set_option maxRecDepth 20000 in
theorem gX4_takeActual_X4_isMonth : GoodIn wsX4_takeActual (va_wsS RX4 121 yX4_isMonth wsX4_isMonth) := goodIn_app (goodIn_of _ (by decide +kernel)) ggX4_takeActual_X4_isMonth
set_option maxRecDepth 20000 in
theorem ggX4_takeActual_X4_at : GoodIn wsX4_takeActual wsX4_at := goodIn_r _ [17] (by decide +kernel) (by decide +kernel)
set_option maxRecDepth 20000 in
theorem gX4_takeActual_X4_at : GoodIn wsX4_takeActual (va_wsS RX4 94 yX4_at wsX4_at) := goodIn_app (goodIn_of _ (by decide +kernel)) ggX4_takeActual_X4_at
set_option maxRecDepth 20000 in
theorem ggX4_takeActual_X4_looks : GoodIn wsX4_takeActual wsX4_looks := goodIn_ca (goodIn_r _ [21, 8, 22, 23, 24, 25, 15, 16, 6, 17, 26, 27, 28, 29, 1, 30, 31, 32, 33, 34, 35, 36, 37, 38, 39, 40, 41, 42, 43, 44, 45, 46, 47, 48, 49, 50, 51, 52, 53, 54, 55, 56, 57, 58, 59, 60, 61, 62, 63, 64, 65, 66, 67, 68, 69, 70, 71, 72, 73, 74, 75, 76, 77, 78] (by decide +kernel) (by decide +kernel)) (goodIn_sub (fun _ h => List.mem_cons_of_mem _ (List.mem_append_right _ h)) (by decide +kernel))
set_option maxRecDepth 20000 in
theorem gX4_takeActual_X4_looks : GoodIn wsX4_takeActual (wsV RX4 114 RX4 yX4_looks wsX4_looks) := goodIn_app (goodIn_of _ (by decide +kernel)) ggX4_takeActual_X4_looks
theorem dX4_takeActual_0 : decode cX4_takeActual 0 = .ok (.aload_n 0, 1) := by decide +kernel
theorem dX4_takeActual_1 : decode cX4_takeActual 1 = .ok (.aload_n 0, 1) := by decide +kernel
theorem dX4_takeActual_2 : decode cX4_takeActual 2 = .ok (.iload_n 1, 1) := by decide +kernel
theorem dX4_takeActual_3 : decode cX4_takeActual 3 = .ok (.invokevirtual 128, 3) := by decide +kernel
theorem dX4_takeActual_6 : decode cX4_takeActual 6 = .ok (.ifCond .eq 10, 3) := by decide +kernel
theorem dX4_takeActual_9 : decode cX4_takeActual 9 = .ok (.iload_n 2, 1) := by decide +kernel
theorem dX4_takeActual_10 : decode cX4_takeActual 10 = .ok (.invokestatic 121, 3) := by decide +kernel
theorem dX4_takeActual_13 : decode cX4_takeActual 13 = .ok (.ifCond .ne 7, 3) := by decide +kernel
theorem dX4_takeActual_16 : decode cX4_takeActual 16 = .ok (.iconst 1, 1) := by decide +kernel
theorem dX4_takeActual_17 : decode cX4_takeActual 17 = .ok (.goto 21, 3) := by decide +kernel
theorem dX4_takeActual_20 : decode cX4_takeActual 20 = .ok (.aload_n 0, 1) := by decide +kernel
theorem dX4_takeActual_21 : decode cX4_takeActual 21 = .ok (.getfield 46, 3) := by decide +kernel
theorem dX4_takeActual_24 : decode cX4_takeActual 24 = .ok (.iload_n 1, 1) := by decide +kernel
theorem dX4_takeActual_25 : decode cX4_takeActual 25 = .ok (.iload_n 2, 1) := by decide +kernel
theorem dX4_takeActual_26 : decode cX4_takeActual 26 = .ok (.invokestatic 94, 3) := by decide +kernel
theorem dX4_takeActual_29 : decode cX4_takeActual 29 = .ok (.baload, 1) := by decide +kernel
theorem dX4_takeActual_30 : decode cX4_takeActual 30 = .ok (.ifCond .ne 7, 3) := by decide +kernel
theorem dX4_takeActual_33 : decode cX4_takeActual 33 = .ok (.iconst 2, 1) := by decide +kernel
theorem dX4_takeActual_34 : decode cX4_takeActual 34 = .ok (.goto 4, 3) := by decide +kernel
theorem dX4_takeActual_37 : decode cX4_takeActual 37 = .ok (.iconst 0, 1) := by decide +kernel
theorem dX4_takeActual_38 : decode cX4_takeActual 38 = .ok (.putfield 61, 3) := by decide +kernel
theorem dX4_takeActual_41 : decode cX4_takeActual 41 = .ok (.aload_n 0, 1) := by decide +kernel
theorem dX4_takeActual_42 : decode cX4_takeActual 42 = .ok (.getfield 61, 3) := by decide +kernel
theorem dX4_takeActual_45 : decode cX4_takeActual 45 = .ok (.ifCond .le 5, 3) := by decide +kernel
theorem dX4_takeActual_48 : decode cX4_takeActual 48 = .ok (.iconst 0, 1) := by decide +kernel
theorem dX4_takeActual_49 : decode cX4_takeActual 49 = .ok (.ireturn, 1) := by decide +kernel
theorem dX4_takeActual_50 : decode cX4_takeActual 50 = .ok (.aload_n 0, 1) := by decide +kernel
theorem dX4_takeActual_51 : decode cX4_takeActual 51 = .ok (.getfield 46, 3) := by decide +kernel
theorem dX4_takeActual_54 : decode cX4_takeActual 54 = .ok (.iload_n 1, 1) := by decide +kernel
theorem dX4_takeActual_55 : decode cX4_takeActual 55 = .ok (.iload_n 2, 1) := by decide +kernel
theorem dX4_takeActual_56 : decode cX4_takeActual 56 = .ok (.invokestatic 94, 3) := by decide +kernel
theorem dX4_takeActual_59 : decode cX4_takeActual 59 = .ok (.iconst 0, 1) := by decide +kernel
theorem dX4_takeActual_60 : decode cX4_takeActual 60 = .ok (.bastore, 1) := by decide +kernel
theorem dX4_takeActual_61 : decode cX4_takeActual 61 = .ok (.aload_n 0, 1) := by decide +kernel
theorem dX4_takeActual_62 : decode cX4_takeActual 62 = .ok (.invokevirtual 114, 3) := by decide +kernel
theorem dX4_takeActual_65 : decode cX4_takeActual 65 = .ok (.ireturn, 1) := by decide +kernel
set_option maxRecDepth 20000 in
theorem ggX4_pass_X4_checked : GoodIn wsX4_pass wsX4_checked := goodIn_r _ [6, 7, 8, 9, 10, 11, 12, 13, 14, 15, 16, 17, 18, 19, 20, 21, 22, 23, 24, 25, 26, 27, 28, 29] (by decide +kernel) (by decide +kernel)
set_option maxRecDepth 20000 in
theorem gX4_pass_X4_checked : GoodIn wsX4_pass (wsV RX4 124 RX4 yX4_checked wsX4_checked) := goodIn_app (goodIn_of _ (by decide +kernel)) ggX4_pass_X4_checked
theorem dX4_pass_0 : decode cX4_pass 0 = .ok (.aload_n 0, 1) := by decide +kernel
theorem dX4_pass_1 : decode cX4_pass 1 = .ok (.aload_n 0, 1) := by decide +kernel
theorem dX4_pass_2 : decode cX4_pass 2 = .ok (.getfield 77, 3) := by decide +kernel
theorem dX4_pass_5 : decode cX4_pass 5 = .ok (.bipush 11, 2) := by decide +kernel
theorem dX4_pass_7 : decode cX4_pass 7 = .ok (.if_icmp .ge 7, 3) := by decide +kernel
theorem dX4_pass_10 : decode cX4_pass 10 = .ok (.iconst 1, 1) := by decide +kernel
theorem dX4_pass_11 : decode cX4_pass 11 = .ok (.goto 4, 3) := by decide +kernel
theorem dX4_pass_14 : decode cX4_pass 14 = .ok (.iconst 0, 1) := by decide +kernel
theorem dX4_pass_15 : decode cX4_pass 15 = .ok (.invokevirtual 124, 3) := by decide +kernel
theorem dX4_pass_18 : decode cX4_pass 18 = .ok (.ifCond .le 5, 3) := by decide +kernel
theorem dX4_pass_21 : decode cX4_pass 21 = .ok (.iconst 0, 1) := by decide +kernel
theorem dX4_pass_22 : decode cX4_pass 22 = .ok (.ireturn, 1) := by decide +kernel
theorem dX4_pass_23 : decode cX4_pass 23 = .ok (.aload_n 0, 1) := by decide +kernel
theorem dX4_pass_24 : decode cX4_pass 24 = .ok (.dup, 1) := by decide +kernel
theorem dX4_pass_25 : decode cX4_pass 25 = .ok (.getfield 77, 3) := by decide +kernel
theorem dX4_pass_28 : decode cX4_pass 28 = .ok (.iconst 1, 1) := by decide +kernel
theorem dX4_pass_29 : decode cX4_pass 29 = .ok (.iadd, 1) := by decide +kernel
theorem dX4_pass_30 : decode cX4_pass 30 = .ok (.putfield 77, 3) := by decide +kernel
theorem dX4_pass_33 : decode cX4_pass 33 = .ok (.aload_n 0, 1) := by decide +kernel
theorem dX4_pass_34 : decode cX4_pass 34 = .ok (.getfield 77, 3) := by decide +kernel
theorem dX4_pass_37 : decode cX4_pass 37 = .ok (.ireturn, 1) := by decide +kernel
theorem dX4_month_0 : decode cX4_month 0 = .ok (.aload_n 0, 1) := by decide +kernel
theorem dX4_month_1 : decode cX4_month 1 = .ok (.iconst 0, 1) := by decide +kernel
theorem dX4_month_2 : decode cX4_month 2 = .ok (.putfield 61, 3) := by decide +kernel
theorem dX4_month_5 : decode cX4_month 5 = .ok (.aload_n 0, 1) := by decide +kernel
theorem dX4_month_6 : decode cX4_month 6 = .ok (.getfield 77, 3) := by decide +kernel
theorem dX4_month_9 : decode cX4_month 9 = .ok (.ireturn, 1) := by decide +kernel
set_option maxRecDepth 20000 in
theorem ggX4_approve_X4_isLine : GoodIn wsX4_approve wsX4_isLine := goodIn_r _ [10, 11, 12, 13, 9, 14, 53, 54, 55, 56, 57, 58, 59, 60, 61, 62, 63, 64, 65, 66, 67, 68, 69, 70, 71, 72, 73, 74] (by decide +kernel) (by decide +kernel)
set_option maxRecDepth 20000 in
theorem gX4_approve_X4_isLine : GoodIn wsX4_approve (wsV RX4 128 RX4 yX4_isLine wsX4_isLine) := goodIn_app (goodIn_of _ (by decide +kernel)) ggX4_approve_X4_isLine
set_option maxRecDepth 20000 in
theorem ggX4_approve_X4_isMonth : GoodIn wsX4_approve wsX4_isMonth := goodIn_r _ [17, 12, 13, 9, 14] (by decide +kernel) (by decide +kernel)
set_option maxRecDepth 20000 in
theorem gX4_approve_X4_isMonth : GoodIn wsX4_approve (va_wsS RX4 121 yX4_isMonth wsX4_isMonth) := goodIn_app (goodIn_of _ (by decide +kernel)) ggX4_approve_X4_isMonth
set_option maxRecDepth 20000 in
theorem ggX4_approve_X4_in : GoodIn wsX4_approve wsX4_in := goodIn_r _ [14] (by decide +kernel) (by decide +kernel)
set_option maxRecDepth 20000 in
theorem gX4_approve_X4_in : GoodIn wsX4_approve (va_wsS RX4 80 yX4_in wsX4_in) := goodIn_app (goodIn_of _ (by decide +kernel)) ggX4_approve_X4_in
set_option maxRecDepth 20000 in
theorem ggX4_approve_X4_finds : GoodIn wsX4_approve wsX4_finds := goodIn_ca (goodIn_r _ [21, 22, 23, 24, 25, 26, 4, 27, 28, 29, 30, 31, 9, 32, 33, 34, 35, 36, 37, 38, 39, 40, 41, 42, 43, 44, 45, 46, 47, 48, 49, 50, 51, 52, 53, 54, 55, 56, 57, 58, 59, 60, 61, 62, 63, 64, 65, 66, 67, 68, 69, 70, 71, 72, 73, 74] (by decide +kernel) (by decide +kernel)) (goodIn_sub (fun _ h => List.mem_cons_of_mem _ (List.mem_append_right _ h)) (by decide +kernel))
set_option maxRecDepth 20000 in
theorem gX4_approve_X4_finds : GoodIn wsX4_approve (wsV RX4 106 RX4 yX4_finds wsX4_finds) := goodIn_app (goodIn_of _ (by decide +kernel)) ggX4_approve_X4_finds
set_option maxRecDepth 20000 in
theorem ggX4_approve_X4_at : GoodIn wsX4_approve wsX4_at := goodIn_r _ [32] (by decide +kernel) (by decide +kernel)
set_option maxRecDepth 20000 in
theorem gX4_approve_X4_at : GoodIn wsX4_approve (va_wsS RX4 94 yX4_at wsX4_at) := goodIn_app (goodIn_of _ (by decide +kernel)) ggX4_approve_X4_at
theorem dX4_approve_0 : decode cX4_approve 0 = .ok (.aload_n 0, 1) := by decide +kernel
theorem dX4_approve_1 : decode cX4_approve 1 = .ok (.aload_n 0, 1) := by decide +kernel
theorem dX4_approve_2 : decode cX4_approve 2 = .ok (.iload_n 1, 1) := by decide +kernel
theorem dX4_approve_3 : decode cX4_approve 3 = .ok (.invokevirtual 128, 3) := by decide +kernel
theorem dX4_approve_6 : decode cX4_approve 6 = .ok (.ifCond .eq 10, 3) := by decide +kernel
theorem dX4_approve_9 : decode cX4_approve 9 = .ok (.iload_n 2, 1) := by decide +kernel
theorem dX4_approve_10 : decode cX4_approve 10 = .ok (.invokestatic 121, 3) := by decide +kernel
theorem dX4_approve_13 : decode cX4_approve 13 = .ok (.ifCond .ne 7, 3) := by decide +kernel
theorem dX4_approve_16 : decode cX4_approve 16 = .ok (.iconst 1, 1) := by decide +kernel
theorem dX4_approve_17 : decode cX4_approve 17 = .ok (.goto 35, 3) := by decide +kernel
theorem dX4_approve_20 : decode cX4_approve 20 = .ok (.iload_n 3, 1) := by decide +kernel
theorem dX4_approve_21 : decode cX4_approve 21 = .ok (.iconst 0, 1) := by decide +kernel
theorem dX4_approve_22 : decode cX4_approve 22 = .ok (.sipush 9999, 3) := by decide +kernel
theorem dX4_approve_25 : decode cX4_approve 25 = .ok (.invokestatic 80, 3) := by decide +kernel
theorem dX4_approve_28 : decode cX4_approve 28 = .ok (.ifCond .ne 7, 3) := by decide +kernel
theorem dX4_approve_31 : decode cX4_approve 31 = .ok (.iconst 2, 1) := by decide +kernel
theorem dX4_approve_32 : decode cX4_approve 32 = .ok (.goto 20, 3) := by decide +kernel
theorem dX4_approve_35 : decode cX4_approve 35 = .ok (.aload_n 0, 1) := by decide +kernel
theorem dX4_approve_36 : decode cX4_approve 36 = .ok (.iconst 0, 1) := by decide +kernel
theorem dX4_approve_37 : decode cX4_approve 37 = .ok (.iload_n 1, 1) := by decide +kernel
theorem dX4_approve_38 : decode cX4_approve 38 = .ok (.iload_n 2, 1) := by decide +kernel
theorem dX4_approve_39 : decode cX4_approve 39 = .ok (.bipush 6, 2) := by decide +kernel
theorem dX4_approve_41 : decode cX4_approve 41 = .ok (.invokevirtual 106, 3) := by decide +kernel
theorem dX4_approve_44 : decode cX4_approve 44 = .ok (.ifCond .ne 7, 3) := by decide +kernel
theorem dX4_approve_47 : decode cX4_approve 47 = .ok (.iconst 3, 1) := by decide +kernel
theorem dX4_approve_48 : decode cX4_approve 48 = .ok (.goto 4, 3) := by decide +kernel
theorem dX4_approve_51 : decode cX4_approve 51 = .ok (.iconst 0, 1) := by decide +kernel
theorem dX4_approve_52 : decode cX4_approve 52 = .ok (.putfield 61, 3) := by decide +kernel
theorem dX4_approve_55 : decode cX4_approve 55 = .ok (.aload_n 0, 1) := by decide +kernel
theorem dX4_approve_56 : decode cX4_approve 56 = .ok (.getfield 61, 3) := by decide +kernel
theorem dX4_approve_59 : decode cX4_approve 59 = .ok (.ifCond .le 5, 3) := by decide +kernel
theorem dX4_approve_62 : decode cX4_approve 62 = .ok (.iconst 0, 1) := by decide +kernel
theorem dX4_approve_63 : decode cX4_approve 63 = .ok (.ireturn, 1) := by decide +kernel
theorem dX4_approve_64 : decode cX4_approve 64 = .ok (.aload_n 0, 1) := by decide +kernel
theorem dX4_approve_65 : decode cX4_approve 65 = .ok (.getfield 53, 3) := by decide +kernel
theorem dX4_approve_68 : decode cX4_approve 68 = .ok (.iload_n 1, 1) := by decide +kernel
theorem dX4_approve_69 : decode cX4_approve 69 = .ok (.iload_n 2, 1) := by decide +kernel
theorem dX4_approve_70 : decode cX4_approve 70 = .ok (.invokestatic 94, 3) := by decide +kernel
theorem dX4_approve_73 : decode cX4_approve 73 = .ok (.bipush 97, 2) := by decide +kernel
theorem dX4_approve_75 : decode cX4_approve 75 = .ok (.castore, 1) := by decide +kernel
theorem dX4_approve_76 : decode cX4_approve 76 = .ok (.aload_n 0, 1) := by decide +kernel
theorem dX4_approve_77 : decode cX4_approve 77 = .ok (.getfield 40, 3) := by decide +kernel
theorem dX4_approve_80 : decode cX4_approve 80 = .ok (.iload_n 1, 1) := by decide +kernel
theorem dX4_approve_81 : decode cX4_approve 81 = .ok (.iload_n 2, 1) := by decide +kernel
theorem dX4_approve_82 : decode cX4_approve 82 = .ok (.invokestatic 94, 3) := by decide +kernel
theorem dX4_approve_85 : decode cX4_approve 85 = .ok (.aload_n 0, 1) := by decide +kernel
theorem dX4_approve_86 : decode cX4_approve 86 = .ok (.getfield 57, 3) := by decide +kernel
theorem dX4_approve_89 : decode cX4_approve 89 = .ok (.iload_n 1, 1) := by decide +kernel
theorem dX4_approve_90 : decode cX4_approve 90 = .ok (.laload, 1) := by decide +kernel
theorem dX4_approve_91 : decode cX4_approve 91 = .ok (.l2i, 1) := by decide +kernel
theorem dX4_approve_92 : decode cX4_approve 92 = .ok (.iastore, 1) := by decide +kernel
theorem dX4_approve_93 : decode cX4_approve 93 = .ok (.aload_n 0, 1) := by decide +kernel
theorem dX4_approve_94 : decode cX4_approve 94 = .ok (.getfield 43, 3) := by decide +kernel
theorem dX4_approve_97 : decode cX4_approve 97 = .ok (.iload_n 1, 1) := by decide +kernel
theorem dX4_approve_98 : decode cX4_approve 98 = .ok (.iload_n 2, 1) := by decide +kernel
theorem dX4_approve_99 : decode cX4_approve 99 = .ok (.invokestatic 94, 3) := by decide +kernel
theorem dX4_approve_102 : decode cX4_approve 102 = .ok (.iload_n 3, 1) := by decide +kernel
theorem dX4_approve_103 : decode cX4_approve 103 = .ok (.iastore, 1) := by decide +kernel
theorem dX4_approve_104 : decode cX4_approve 104 = .ok (.aload_n 0, 1) := by decide +kernel
theorem dX4_approve_105 : decode cX4_approve 105 = .ok (.getfield 57, 3) := by decide +kernel
theorem dX4_approve_108 : decode cX4_approve 108 = .ok (.iload_n 1, 1) := by decide +kernel
theorem dX4_approve_109 : decode cX4_approve 109 = .ok (.laload, 1) := by decide +kernel
theorem dX4_approve_110 : decode cX4_approve 110 = .ok (.l2i, 1) := by decide +kernel
theorem dX4_approve_111 : decode cX4_approve 111 = .ok (.ireturn, 1) := by decide +kernel
set_option maxRecDepth 20000 in
theorem ggX4_state_X4_isLine : GoodIn wsX4_state wsX4_isLine := goodIn_r _ [6, 7, 8, 9, 5, 10, 22, 23, 24, 25, 26, 27, 28, 29, 30, 31, 32, 33, 34, 35, 36, 37, 38, 39, 40, 41, 42, 43] (by decide +kernel) (by decide +kernel)
set_option maxRecDepth 20000 in
theorem gX4_state_X4_isLine : GoodIn wsX4_state (wsV RX4 128 RX4 yX4_isLine wsX4_isLine) := goodIn_app (goodIn_of _ (by decide +kernel)) ggX4_state_X4_isLine
set_option maxRecDepth 20000 in
theorem ggX4_state_X4_isMonth : GoodIn wsX4_state wsX4_isMonth := goodIn_r _ [13, 8, 9, 5, 10] (by decide +kernel) (by decide +kernel)
set_option maxRecDepth 20000 in
theorem gX4_state_X4_isMonth : GoodIn wsX4_state (va_wsS RX4 121 yX4_isMonth wsX4_isMonth) := goodIn_app (goodIn_of _ (by decide +kernel)) ggX4_state_X4_isMonth
set_option maxRecDepth 20000 in
theorem ggX4_state_X4_checked : GoodIn wsX4_state wsX4_checked := goodIn_r _ [17, 18, 22, 23, 24, 25, 26, 27, 28, 29, 30, 31, 32, 33, 34, 35, 36, 37, 38, 39, 40, 41, 42, 43] (by decide +kernel) (by decide +kernel)
set_option maxRecDepth 20000 in
theorem gX4_state_X4_checked : GoodIn wsX4_state (wsV RX4 124 RX4 yX4_checked wsX4_checked) := goodIn_app (goodIn_of _ (by decide +kernel)) ggX4_state_X4_checked
set_option maxRecDepth 20000 in
theorem ggX4_state_X4_at : GoodIn wsX4_state wsX4_at := goodIn_r _ [21] (by decide +kernel) (by decide +kernel)
set_option maxRecDepth 20000 in
theorem gX4_state_X4_at : GoodIn wsX4_state (va_wsS RX4 94 yX4_at wsX4_at) := goodIn_app (goodIn_of _ (by decide +kernel)) ggX4_state_X4_at
theorem dX4_state_0 : decode cX4_state 0 = .ok (.aload_n 0, 1) := by decide +kernel
theorem dX4_state_1 : decode cX4_state 1 = .ok (.aload_n 0, 1) := by decide +kernel
theorem dX4_state_2 : decode cX4_state 2 = .ok (.iload_n 1, 1) := by decide +kernel
theorem dX4_state_3 : decode cX4_state 3 = .ok (.invokevirtual 128, 3) := by decide +kernel
theorem dX4_state_6 : decode cX4_state 6 = .ok (.ifCond .eq 14, 3) := by decide +kernel
theorem dX4_state_9 : decode cX4_state 9 = .ok (.iload_n 2, 1) := by decide +kernel
theorem dX4_state_10 : decode cX4_state 10 = .ok (.invokestatic 121, 3) := by decide +kernel
theorem dX4_state_13 : decode cX4_state 13 = .ok (.ifCond .eq 7, 3) := by decide +kernel
theorem dX4_state_16 : decode cX4_state 16 = .ok (.iconst 1, 1) := by decide +kernel
theorem dX4_state_17 : decode cX4_state 17 = .ok (.goto 4, 3) := by decide +kernel
theorem dX4_state_20 : decode cX4_state 20 = .ok (.iconst 0, 1) := by decide +kernel
theorem dX4_state_21 : decode cX4_state 21 = .ok (.invokevirtual 124, 3) := by decide +kernel
theorem dX4_state_24 : decode cX4_state 24 = .ok (.ifCond .le 8, 3) := by decide +kernel
theorem dX4_state_27 : decode cX4_state 27 = .ok (.bipush 32, 2) := by decide +kernel
theorem dX4_state_29 : decode cX4_state 29 = .ok (.goto 13, 3) := by decide +kernel
theorem dX4_state_32 : decode cX4_state 32 = .ok (.aload_n 0, 1) := by decide +kernel
theorem dX4_state_33 : decode cX4_state 33 = .ok (.getfield 53, 3) := by decide +kernel
theorem dX4_state_36 : decode cX4_state 36 = .ok (.iload_n 1, 1) := by decide +kernel
theorem dX4_state_37 : decode cX4_state 37 = .ok (.iload_n 2, 1) := by decide +kernel
theorem dX4_state_38 : decode cX4_state 38 = .ok (.invokestatic 94, 3) := by decide +kernel
theorem dX4_state_41 : decode cX4_state 41 = .ok (.caload, 1) := by decide +kernel
theorem dX4_state_42 : decode cX4_state 42 = .ok (.ireturn, 1) := by decide +kernel
set_option maxRecDepth 20000 in
theorem ggX4_drift_X4_isLine : GoodIn wsX4_drift wsX4_isLine := goodIn_r _ [9, 10, 11, 12, 8, 13, 52, 53, 54, 55, 56, 57, 58, 59, 60, 61, 62, 63, 64, 65, 66, 67, 68, 69, 70, 71, 72, 73] (by decide +kernel) (by decide +kernel)
set_option maxRecDepth 20000 in
theorem gX4_drift_X4_isLine : GoodIn wsX4_drift (wsV RX4 128 RX4 yX4_isLine wsX4_isLine) := goodIn_app (goodIn_of _ (by decide +kernel)) ggX4_drift_X4_isLine
set_option maxRecDepth 20000 in
theorem ggX4_drift_X4_isMonth : GoodIn wsX4_drift wsX4_isMonth := goodIn_r _ [16, 11, 12, 8, 13] (by decide +kernel) (by decide +kernel)
set_option maxRecDepth 20000 in
theorem gX4_drift_X4_isMonth : GoodIn wsX4_drift (va_wsS RX4 121 yX4_isMonth wsX4_isMonth) := goodIn_app (goodIn_of _ (by decide +kernel)) ggX4_drift_X4_isMonth
set_option maxRecDepth 20000 in
theorem ggX4_drift_X4_at : GoodIn wsX4_drift wsX4_at := goodIn_r _ [19] (by decide +kernel) (by decide +kernel)
set_option maxRecDepth 20000 in
theorem gX4_drift_X4_at : GoodIn wsX4_drift (va_wsS RX4 94 yX4_at wsX4_at) := goodIn_app (goodIn_of _ (by decide +kernel)) ggX4_drift_X4_at
set_option maxRecDepth 20000 in
theorem ggX4_drift_X4_finds : GoodIn wsX4_drift wsX4_finds := goodIn_ca (goodIn_r _ [23, 24, 25, 26, 27, 28, 3, 29, 30, 31, 17, 18, 8, 19, 32, 33, 34, 35, 36, 37, 38, 39, 40, 41, 42, 43, 44, 45, 46, 47, 48, 49, 50, 51, 52, 53, 54, 55, 56, 57, 58, 59, 60, 61, 62, 63, 64, 65, 66, 67, 68, 69, 70, 71, 72, 73] (by decide +kernel) (by decide +kernel)) (goodIn_sub (fun _ h => List.mem_cons_of_mem _ (List.mem_append_right _ h)) (by decide +kernel))
set_option maxRecDepth 20000 in
theorem gX4_drift_X4_finds : GoodIn wsX4_drift (wsV RX4 106 RX4 yX4_finds wsX4_finds) := goodIn_app (goodIn_of _ (by decide +kernel)) ggX4_drift_X4_finds
theorem dX4_drift_0 : decode cX4_drift 0 = .ok (.aload_n 0, 1) := by decide +kernel
theorem dX4_drift_1 : decode cX4_drift 1 = .ok (.aload_n 0, 1) := by decide +kernel
theorem dX4_drift_2 : decode cX4_drift 2 = .ok (.iload_n 1, 1) := by decide +kernel
theorem dX4_drift_3 : decode cX4_drift 3 = .ok (.invokevirtual 128, 3) := by decide +kernel
theorem dX4_drift_6 : decode cX4_drift 6 = .ok (.ifCond .eq 10, 3) := by decide +kernel
theorem dX4_drift_9 : decode cX4_drift 9 = .ok (.iload_n 2, 1) := by decide +kernel
theorem dX4_drift_10 : decode cX4_drift 10 = .ok (.invokestatic 121, 3) := by decide +kernel
theorem dX4_drift_13 : decode cX4_drift 13 = .ok (.ifCond .ne 7, 3) := by decide +kernel
theorem dX4_drift_16 : decode cX4_drift 16 = .ok (.iconst 1, 1) := by decide +kernel
theorem dX4_drift_17 : decode cX4_drift 17 = .ok (.goto 39, 3) := by decide +kernel
theorem dX4_drift_20 : decode cX4_drift 20 = .ok (.aload_n 0, 1) := by decide +kernel
theorem dX4_drift_21 : decode cX4_drift 21 = .ok (.getfield 53, 3) := by decide +kernel
theorem dX4_drift_24 : decode cX4_drift 24 = .ok (.iload_n 1, 1) := by decide +kernel
theorem dX4_drift_25 : decode cX4_drift 25 = .ok (.iload_n 2, 1) := by decide +kernel
theorem dX4_drift_26 : decode cX4_drift 26 = .ok (.invokestatic 94, 3) := by decide +kernel
theorem dX4_drift_29 : decode cX4_drift 29 = .ok (.caload, 1) := by decide +kernel
theorem dX4_drift_30 : decode cX4_drift 30 = .ok (.bipush 45, 2) := by decide +kernel
theorem dX4_drift_32 : decode cX4_drift 32 = .ok (.if_icmp .ne 7, 3) := by decide +kernel
theorem dX4_drift_35 : decode cX4_drift 35 = .ok (.iconst 2, 1) := by decide +kernel
theorem dX4_drift_36 : decode cX4_drift 36 = .ok (.goto 20, 3) := by decide +kernel
theorem dX4_drift_39 : decode cX4_drift 39 = .ok (.aload_n 0, 1) := by decide +kernel
theorem dX4_drift_40 : decode cX4_drift 40 = .ok (.iconst 0, 1) := by decide +kernel
theorem dX4_drift_41 : decode cX4_drift 41 = .ok (.iload_n 1, 1) := by decide +kernel
theorem dX4_drift_42 : decode cX4_drift 42 = .ok (.iload_n 2, 1) := by decide +kernel
theorem dX4_drift_43 : decode cX4_drift 43 = .ok (.bipush 6, 2) := by decide +kernel
theorem dX4_drift_45 : decode cX4_drift 45 = .ok (.invokevirtual 106, 3) := by decide +kernel
theorem dX4_drift_48 : decode cX4_drift 48 = .ok (.ifCond .ne 7, 3) := by decide +kernel
theorem dX4_drift_51 : decode cX4_drift 51 = .ok (.iconst 3, 1) := by decide +kernel
theorem dX4_drift_52 : decode cX4_drift 52 = .ok (.goto 4, 3) := by decide +kernel
theorem dX4_drift_55 : decode cX4_drift 55 = .ok (.iconst 0, 1) := by decide +kernel
theorem dX4_drift_56 : decode cX4_drift 56 = .ok (.putfield 61, 3) := by decide +kernel
theorem dX4_drift_59 : decode cX4_drift 59 = .ok (.aload_n 0, 1) := by decide +kernel
theorem dX4_drift_60 : decode cX4_drift 60 = .ok (.getfield 61, 3) := by decide +kernel
theorem dX4_drift_63 : decode cX4_drift 63 = .ok (.ifCond .le 7, 3) := by decide +kernel
theorem dX4_drift_66 : decode cX4_drift 66 = .ok (.iconst 0, 1) := by decide +kernel
theorem dX4_drift_67 : decode cX4_drift 67 = .ok (.goto 21, 3) := by decide +kernel
theorem dX4_drift_70 : decode cX4_drift 70 = .ok (.aload_n 0, 1) := by decide +kernel
theorem dX4_drift_71 : decode cX4_drift 71 = .ok (.getfield 57, 3) := by decide +kernel
theorem dX4_drift_74 : decode cX4_drift 74 = .ok (.iload_n 1, 1) := by decide +kernel
theorem dX4_drift_75 : decode cX4_drift 75 = .ok (.laload, 1) := by decide +kernel
theorem dX4_drift_76 : decode cX4_drift 76 = .ok (.l2i, 1) := by decide +kernel
theorem dX4_drift_77 : decode cX4_drift 77 = .ok (.aload_n 0, 1) := by decide +kernel
theorem dX4_drift_78 : decode cX4_drift 78 = .ok (.getfield 40, 3) := by decide +kernel
theorem dX4_drift_81 : decode cX4_drift 81 = .ok (.iload_n 1, 1) := by decide +kernel
theorem dX4_drift_82 : decode cX4_drift 82 = .ok (.iload_n 2, 1) := by decide +kernel
theorem dX4_drift_83 : decode cX4_drift 83 = .ok (.invokestatic 94, 3) := by decide +kernel
theorem dX4_drift_86 : decode cX4_drift 86 = .ok (.iaload, 1) := by decide +kernel
theorem dX4_drift_87 : decode cX4_drift 87 = .ok (.isub, 1) := by decide +kernel
theorem dX4_drift_88 : decode cX4_drift 88 = .ok (.ireturn, 1) := by decide +kernel
theorem dX4_many_0 : decode cX4_many 0 = .ok (.iconst 0, 1) := by decide +kernel
theorem dX4_many_1 : decode cX4_many 1 = .ok (.istore_n 2, 1) := by decide +kernel
theorem dX4_many_2 : decode cX4_many 2 = .ok (.iconst 0, 1) := by decide +kernel
theorem dX4_many_3 : decode cX4_many 3 = .ok (.istore_n 3, 1) := by decide +kernel
theorem dX4_many_4 : decode cX4_many 4 = .ok (.iload_n 3, 1) := by decide +kernel
theorem dX4_many_5 : decode cX4_many 5 = .ok (.bipush 120, 2) := by decide +kernel
theorem dX4_many_7 : decode cX4_many 7 = .ok (.if_icmp .ge 27, 3) := by decide +kernel
theorem dX4_many_10 : decode cX4_many 10 = .ok (.iload_n 2, 1) := by decide +kernel
theorem dX4_many_11 : decode cX4_many 11 = .ok (.aload_n 0, 1) := by decide +kernel
theorem dX4_many_12 : decode cX4_many 12 = .ok (.getfield 53, 3) := by decide +kernel
theorem dX4_many_15 : decode cX4_many 15 = .ok (.iload_n 3, 1) := by decide +kernel
theorem dX4_many_16 : decode cX4_many 16 = .ok (.caload, 1) := by decide +kernel
theorem dX4_many_17 : decode cX4_many 17 = .ok (.iload_n 1, 1) := by decide +kernel
theorem dX4_many_18 : decode cX4_many 18 = .ok (.if_icmp .ne 7, 3) := by decide +kernel
theorem dX4_many_21 : decode cX4_many 21 = .ok (.iconst 1, 1) := by decide +kernel
theorem dX4_many_22 : decode cX4_many 22 = .ok (.goto 4, 3) := by decide +kernel
theorem dX4_many_25 : decode cX4_many 25 = .ok (.iconst 0, 1) := by decide +kernel
theorem dX4_many_26 : decode cX4_many 26 = .ok (.iadd, 1) := by decide +kernel
theorem dX4_many_27 : decode cX4_many 27 = .ok (.istore_n 2, 1) := by decide +kernel
theorem dX4_many_28 : decode cX4_many 28 = .ok (.iinc 3 1, 3) := by decide +kernel
theorem dX4_many_31 : decode cX4_many 31 = .ok (.goto (-27), 3) := by decide +kernel
theorem dX4_many_34 : decode cX4_many 34 = .ok (.iload_n 2, 1) := by decide +kernel
theorem dX4_many_35 : decode cX4_many 35 = .ok (.ireturn, 1) := by decide +kernel
set_option maxRecDepth 20000 in
theorem ggX4_open_X4_many : GoodIn wsX4_open wsX4_many := goodIn_ca (goodIn_r _ [6, 7, 8, 9, 10, 11, 12, 13, 14, 15, 16, 17, 18, 19, 20, 21, 22, 23, 24, 25, 26, 27, 28, 29] (by decide +kernel) (by decide +kernel)) (goodIn_sub (fun _ h => List.mem_cons_of_mem _ (List.mem_append_right _ h)) (by decide +kernel))
set_option maxRecDepth 20000 in
theorem gX4_open_X4_many : GoodIn wsX4_open (wsV RX4 137 RX4 yX4_many wsX4_many) := goodIn_app (goodIn_of _ (by decide +kernel)) ggX4_open_X4_many
theorem dX4_open_0 : decode cX4_open 0 = .ok (.aload_n 0, 1) := by decide +kernel
theorem dX4_open_1 : decode cX4_open 1 = .ok (.iconst 0, 1) := by decide +kernel
theorem dX4_open_2 : decode cX4_open 2 = .ok (.putfield 61, 3) := by decide +kernel
theorem dX4_open_5 : decode cX4_open 5 = .ok (.aload_n 0, 1) := by decide +kernel
theorem dX4_open_6 : decode cX4_open 6 = .ok (.bipush 111, 2) := by decide +kernel
theorem dX4_open_8 : decode cX4_open 8 = .ok (.invokevirtual 137, 3) := by decide +kernel
theorem dX4_open_11 : decode cX4_open 11 = .ok (.ireturn, 1) := by decide +kernel
set_option maxRecDepth 20000 in
theorem ggX4_approvedShare_X4_many : GoodIn wsX4_approvedShare wsX4_many := goodIn_ca (goodIn_r _ [5, 6, 12, 13, 14, 15, 16, 17, 18, 19, 20, 21, 22, 23, 24, 25, 26, 27, 28, 29, 30, 31, 32, 33] (by decide +kernel) (by decide +kernel)) (goodIn_sub (fun _ h => List.mem_cons_of_mem _ (List.mem_append_right _ h)) (by decide +kernel))
set_option maxRecDepth 20000 in
theorem gX4_approvedShare_X4_many : GoodIn wsX4_approvedShare (wsV RX4 137 RX4 yX4_many wsX4_many) := goodIn_app (goodIn_of _ (by decide +kernel)) ggX4_approvedShare_X4_many
set_option maxRecDepth 20000 in
theorem ggX4_approvedShare_X4_checked : GoodIn wsX4_approvedShare wsX4_checked := goodIn_r _ [10, 11, 12, 13, 14, 15, 16, 17, 18, 19, 20, 21, 22, 23, 24, 25, 26, 27, 28, 29, 30, 31, 32, 33] (by decide +kernel) (by decide +kernel)
set_option maxRecDepth 20000 in
theorem gX4_approvedShare_X4_checked : GoodIn wsX4_approvedShare (wsV RX4 124 RX4 yX4_checked wsX4_checked) := goodIn_app (goodIn_of _ (by decide +kernel)) ggX4_approvedShare_X4_checked
theorem dX4_approvedShare_0 : decode cX4_approvedShare 0 = .ok (.aload_n 0, 1) := by decide +kernel
theorem dX4_approvedShare_1 : decode cX4_approvedShare 1 = .ok (.bipush 97, 2) := by decide +kernel
theorem dX4_approvedShare_3 : decode cX4_approvedShare 3 = .ok (.invokevirtual 137, 3) := by decide +kernel
theorem dX4_approvedShare_6 : decode cX4_approvedShare 6 = .ok (.aload_n 0, 1) := by decide +kernel
theorem dX4_approvedShare_7 : decode cX4_approvedShare 7 = .ok (.bipush 111, 2) := by decide +kernel
theorem dX4_approvedShare_9 : decode cX4_approvedShare 9 = .ok (.invokevirtual 137, 3) := by decide +kernel
theorem dX4_approvedShare_12 : decode cX4_approvedShare 12 = .ok (.iadd, 1) := by decide +kernel
theorem dX4_approvedShare_13 : decode cX4_approvedShare 13 = .ok (.istore_n 1, 1) := by decide +kernel
theorem dX4_approvedShare_14 : decode cX4_approvedShare 14 = .ok (.aload_n 0, 1) := by decide +kernel
theorem dX4_approvedShare_15 : decode cX4_approvedShare 15 = .ok (.iload_n 1, 1) := by decide +kernel
theorem dX4_approvedShare_16 : decode cX4_approvedShare 16 = .ok (.ifCond .le 7, 3) := by decide +kernel
theorem dX4_approvedShare_19 : decode cX4_approvedShare 19 = .ok (.iconst 1, 1) := by decide +kernel
theorem dX4_approvedShare_20 : decode cX4_approvedShare 20 = .ok (.goto 4, 3) := by decide +kernel
theorem dX4_approvedShare_23 : decode cX4_approvedShare 23 = .ok (.iconst 0, 1) := by decide +kernel
theorem dX4_approvedShare_24 : decode cX4_approvedShare 24 = .ok (.invokevirtual 124, 3) := by decide +kernel
theorem dX4_approvedShare_27 : decode cX4_approvedShare 27 = .ok (.ifCond .le 7, 3) := by decide +kernel
theorem dX4_approvedShare_30 : decode cX4_approvedShare 30 = .ok (.fconst 0, 1) := by decide +kernel
theorem dX4_approvedShare_31 : decode cX4_approvedShare 31 = .ok (.goto 13, 3) := by decide +kernel
theorem dX4_approvedShare_34 : decode cX4_approvedShare 34 = .ok (.aload_n 0, 1) := by decide +kernel
theorem dX4_approvedShare_35 : decode cX4_approvedShare 35 = .ok (.bipush 97, 2) := by decide +kernel
theorem dX4_approvedShare_37 : decode cX4_approvedShare 37 = .ok (.invokevirtual 137, 3) := by decide +kernel
theorem dX4_approvedShare_40 : decode cX4_approvedShare 40 = .ok (.i2f, 1) := by decide +kernel
theorem dX4_approvedShare_41 : decode cX4_approvedShare 41 = .ok (.iload_n 1, 1) := by decide +kernel
theorem dX4_approvedShare_42 : decode cX4_approvedShare 42 = .ok (.i2f, 1) := by decide +kernel
theorem dX4_approvedShare_43 : decode cX4_approvedShare 43 = .ok (.fdiv, 1) := by decide +kernel
theorem dX4_approvedShare_44 : decode cX4_approvedShare 44 = .ok (.freturn, 1) := by decide +kernel
set_option maxRecDepth 20000 in
theorem ggX4_meanTolerance_X4_many : GoodIn wsX4_meanTolerance wsX4_many := goodIn_ca (goodIn_r _ [7, 1, 13, 14, 15, 16, 17, 18, 19, 20, 21, 22, 23, 24, 25, 26, 27, 28, 29, 30, 31, 32, 33, 34] (by decide +kernel) (by decide +kernel)) (goodIn_sub (fun _ h => List.mem_cons_of_mem _ (List.mem_append_right _ h)) (by decide +kernel))
set_option maxRecDepth 20000 in
theorem gX4_meanTolerance_X4_many : GoodIn wsX4_meanTolerance (wsV RX4 137 RX4 yX4_many wsX4_many) := goodIn_app (goodIn_of _ (by decide +kernel)) ggX4_meanTolerance_X4_many
set_option maxRecDepth 20000 in
theorem ggX4_meanTolerance_X4_checked : GoodIn wsX4_meanTolerance wsX4_checked := goodIn_r _ [11, 12, 13, 14, 15, 16, 17, 18, 19, 20, 21, 22, 23, 24, 25, 26, 27, 28, 29, 30, 31, 32, 33, 34] (by decide +kernel) (by decide +kernel)
set_option maxRecDepth 20000 in
theorem gX4_meanTolerance_X4_checked : GoodIn wsX4_meanTolerance (wsV RX4 124 RX4 yX4_checked wsX4_checked) := goodIn_app (goodIn_of _ (by decide +kernel)) ggX4_meanTolerance_X4_checked
theorem dX4_meanTolerance_0 : decode cX4_meanTolerance 0 = .ok (.iconst 0, 1) := by decide +kernel
theorem dX4_meanTolerance_1 : decode cX4_meanTolerance 1 = .ok (.istore_n 1, 1) := by decide +kernel
theorem dX4_meanTolerance_2 : decode cX4_meanTolerance 2 = .ok (.iconst 0, 1) := by decide +kernel
theorem dX4_meanTolerance_3 : decode cX4_meanTolerance 3 = .ok (.istore_n 2, 1) := by decide +kernel
theorem dX4_meanTolerance_4 : decode cX4_meanTolerance 4 = .ok (.iload_n 2, 1) := by decide +kernel
theorem dX4_meanTolerance_5 : decode cX4_meanTolerance 5 = .ok (.bipush 120, 2) := by decide +kernel
theorem dX4_meanTolerance_7 : decode cX4_meanTolerance 7 = .ok (.if_icmp .ge 33, 3) := by decide +kernel
theorem dX4_meanTolerance_10 : decode cX4_meanTolerance 10 = .ok (.iload_n 1, 1) := by decide +kernel
theorem dX4_meanTolerance_11 : decode cX4_meanTolerance 11 = .ok (.aload_n 0, 1) := by decide +kernel
theorem dX4_meanTolerance_12 : decode cX4_meanTolerance 12 = .ok (.getfield 53, 3) := by decide +kernel
theorem dX4_meanTolerance_15 : decode cX4_meanTolerance 15 = .ok (.iload_n 2, 1) := by decide +kernel
theorem dX4_meanTolerance_16 : decode cX4_meanTolerance 16 = .ok (.caload, 1) := by decide +kernel
theorem dX4_meanTolerance_17 : decode cX4_meanTolerance 17 = .ok (.bipush 45, 2) := by decide +kernel
theorem dX4_meanTolerance_19 : decode cX4_meanTolerance 19 = .ok (.if_icmp .ne 7, 3) := by decide +kernel
theorem dX4_meanTolerance_22 : decode cX4_meanTolerance 22 = .ok (.iconst 0, 1) := by decide +kernel
theorem dX4_meanTolerance_23 : decode cX4_meanTolerance 23 = .ok (.goto 9, 3) := by decide +kernel
theorem dX4_meanTolerance_26 : decode cX4_meanTolerance 26 = .ok (.aload_n 0, 1) := by decide +kernel
theorem dX4_meanTolerance_27 : decode cX4_meanTolerance 27 = .ok (.getfield 43, 3) := by decide +kernel
theorem dX4_meanTolerance_30 : decode cX4_meanTolerance 30 = .ok (.iload_n 2, 1) := by decide +kernel
theorem dX4_meanTolerance_31 : decode cX4_meanTolerance 31 = .ok (.iaload, 1) := by decide +kernel
theorem dX4_meanTolerance_32 : decode cX4_meanTolerance 32 = .ok (.iadd, 1) := by decide +kernel
theorem dX4_meanTolerance_33 : decode cX4_meanTolerance 33 = .ok (.istore_n 1, 1) := by decide +kernel
theorem dX4_meanTolerance_34 : decode cX4_meanTolerance 34 = .ok (.iinc 2 1, 3) := by decide +kernel
theorem dX4_meanTolerance_37 : decode cX4_meanTolerance 37 = .ok (.goto (-33), 3) := by decide +kernel
theorem dX4_meanTolerance_40 : decode cX4_meanTolerance 40 = .ok (.aload_n 0, 1) := by decide +kernel
theorem dX4_meanTolerance_41 : decode cX4_meanTolerance 41 = .ok (.bipush 97, 2) := by decide +kernel
theorem dX4_meanTolerance_43 : decode cX4_meanTolerance 43 = .ok (.invokevirtual 137, 3) := by decide +kernel
theorem dX4_meanTolerance_46 : decode cX4_meanTolerance 46 = .ok (.aload_n 0, 1) := by decide +kernel
theorem dX4_meanTolerance_47 : decode cX4_meanTolerance 47 = .ok (.bipush 111, 2) := by decide +kernel
theorem dX4_meanTolerance_49 : decode cX4_meanTolerance 49 = .ok (.invokevirtual 137, 3) := by decide +kernel
theorem dX4_meanTolerance_52 : decode cX4_meanTolerance 52 = .ok (.iadd, 1) := by decide +kernel
theorem dX4_meanTolerance_53 : decode cX4_meanTolerance 53 = .ok (.istore_n 2, 1) := by decide +kernel
theorem dX4_meanTolerance_54 : decode cX4_meanTolerance 54 = .ok (.aload_n 0, 1) := by decide +kernel
theorem dX4_meanTolerance_55 : decode cX4_meanTolerance 55 = .ok (.iload_n 2, 1) := by decide +kernel
theorem dX4_meanTolerance_56 : decode cX4_meanTolerance 56 = .ok (.ifCond .le 7, 3) := by decide +kernel
theorem dX4_meanTolerance_59 : decode cX4_meanTolerance 59 = .ok (.iconst 1, 1) := by decide +kernel
theorem dX4_meanTolerance_60 : decode cX4_meanTolerance 60 = .ok (.goto 4, 3) := by decide +kernel
theorem dX4_meanTolerance_63 : decode cX4_meanTolerance 63 = .ok (.iconst 0, 1) := by decide +kernel
theorem dX4_meanTolerance_64 : decode cX4_meanTolerance 64 = .ok (.invokevirtual 124, 3) := by decide +kernel
theorem dX4_meanTolerance_67 : decode cX4_meanTolerance 67 = .ok (.ifCond .le 7, 3) := by decide +kernel
theorem dX4_meanTolerance_70 : decode cX4_meanTolerance 70 = .ok (.dconst 0, 1) := by decide +kernel
theorem dX4_meanTolerance_71 : decode cX4_meanTolerance 71 = .ok (.goto 8, 3) := by decide +kernel
theorem dX4_meanTolerance_74 : decode cX4_meanTolerance 74 = .ok (.iload_n 1, 1) := by decide +kernel
theorem dX4_meanTolerance_75 : decode cX4_meanTolerance 75 = .ok (.i2d, 1) := by decide +kernel
theorem dX4_meanTolerance_76 : decode cX4_meanTolerance 76 = .ok (.iload_n 2, 1) := by decide +kernel
theorem dX4_meanTolerance_77 : decode cX4_meanTolerance 77 = .ok (.i2d, 1) := by decide +kernel
theorem dX4_meanTolerance_78 : decode cX4_meanTolerance 78 = .ok (.ddiv, 1) := by decide +kernel
theorem dX4_meanTolerance_79 : decode cX4_meanTolerance 79 = .ok (.dreturn, 1) := by decide +kernel
theorem dJx00060_init_a7421_0 : decode cJx00060_init_a7421 0 = .ok (.aload_n 0, 1) := by decide +kernel
theorem dJx00060_init_a7421_1 : decode cJx00060_init_a7421 1 = .ok (.aload_n 1, 1) := by decide +kernel
theorem dJx00060_init_a7421_2 : decode cJx00060_init_a7421 2 = .ok (.invokespecial 7, 3) := by decide +kernel
theorem dJx00060_init_a7421_5 : decode cJx00060_init_a7421 5 = .ok (.return_, 1) := by decide +kernel
theorem dJ9_abs_0f7a4_0 : decode cJ9_abs_0f7a4 0 = .ok (.iload_n 0, 1) := by decide +kernel
theorem dJ9_abs_0f7a4_1 : decode cJ9_abs_0f7a4 1 = .ok (.ifCond .ge 8, 3) := by decide +kernel
theorem dJ9_abs_0f7a4_4 : decode cJ9_abs_0f7a4 4 = .ok (.iload_n 0, 1) := by decide +kernel
theorem dJ9_abs_0f7a4_5 : decode cJ9_abs_0f7a4 5 = .ok (.ineg, 1) := by decide +kernel
theorem dJ9_abs_0f7a4_6 : decode cJ9_abs_0f7a4 6 = .ok (.goto 4, 3) := by decide +kernel
theorem dJ9_abs_0f7a4_9 : decode cJ9_abs_0f7a4 9 = .ok (.iload_n 0, 1) := by decide +kernel
theorem dJ9_abs_0f7a4_10 : decode cJ9_abs_0f7a4 10 = .ok (.ireturn, 1) := by decide +kernel
set_option maxRecDepth 20000 in
theorem ggL_addDriver_X3_addDriver : GoodIn wsL_addDriver wsX3_addDriver := goodIn_ca (goodIn_ca (goodIn_ca (goodIn_r _ [7, 8, 9, 10, 11, 12, 13, 6, 14, 15, 16, 17, 18, 19, 20, 21, 22, 23] (by decide +kernel) (by decide +kernel)) (goodIn_sub (fun _ h => List.mem_cons_of_mem _ (List.mem_append_left _ (List.mem_append_right _ h))) (by decide +kernel))) (goodIn_sub (fun _ h => List.mem_cons_of_mem _ (List.mem_append_left _ (List.mem_append_left _ (List.mem_append_right _ h)))) (by decide +kernel))) (goodIn_sub (fun _ h => List.mem_cons_of_mem _ (List.mem_append_right _ h)) (by decide +kernel))
set_option maxRecDepth 20000 in
theorem gL_addDriver_X3_addDriver : GoodIn wsL_addDriver (wsV RL 7 RX3 yX3_addDriver wsX3_addDriver) := goodIn_app (goodIn_of _ (by decide +kernel)) ggL_addDriver_X3_addDriver
theorem dL_addDriver_0 : decode cL_addDriver 0 = .ok (.aload_n 2, 1) := by decide +kernel
theorem dL_addDriver_1 : decode cL_addDriver 1 = .ok (.iconst 0, 1) := by decide +kernel
theorem dL_addDriver_2 : decode cL_addDriver 2 = .ok (.aload_n 0, 1) := by decide +kernel
theorem dL_addDriver_3 : decode cL_addDriver 3 = .ok (.iload_n 1, 1) := by decide +kernel
theorem dL_addDriver_4 : decode cL_addDriver 4 = .ok (.invokevirtual 7, 3) := by decide +kernel
theorem dL_addDriver_7 : decode cL_addDriver 7 = .ok (.i2l, 1) := by decide +kernel
theorem dL_addDriver_8 : decode cL_addDriver 8 = .ok (.lastore, 1) := by decide +kernel
theorem dL_addDriver_9 : decode cL_addDriver 9 = .ok (.goto 9, 3) := by decide +kernel
theorem dL_addDriver_12 : decode cL_addDriver 12 = .ok (.astore_n 3, 1) := by decide +kernel
theorem dL_addDriver_13 : decode cL_addDriver 13 = .ok (.iconst 1, 1) := by decide +kernel
theorem dL_addDriver_14 : decode cL_addDriver 14 = .ok (.ireturn, 1) := by decide +kernel
theorem dL_addDriver_15 : decode cL_addDriver 15 = .ok (.astore_n 3, 1) := by decide +kernel
theorem dL_addDriver_16 : decode cL_addDriver 16 = .ok (.iconst 2, 1) := by decide +kernel
theorem dL_addDriver_17 : decode cL_addDriver 17 = .ok (.ireturn, 1) := by decide +kernel
theorem dL_addDriver_18 : decode cL_addDriver 18 = .ok (.iconst 0, 1) := by decide +kernel
theorem dL_addDriver_19 : decode cL_addDriver 19 = .ok (.ireturn, 1) := by decide +kernel
set_option maxRecDepth 20000 in
theorem ggL_setDriver_X3_setDriver : GoodIn wsL_setDriver wsX3_setDriver := goodIn_ca (goodIn_ca (goodIn_ca (goodIn_r _ [7, 8, 9, 10, 11, 6, 12, 13, 14, 15, 16, 17, 18, 19, 20, 21, 22, 23, 24, 25, 26, 27, 28, 29, 30, 31, 32, 33, 34, 35, 36, 37, 38, 39, 40, 41, 42, 43, 44, 45, 46, 47, 48, 49, 50, 51, 52, 53, 54, 55, 56, 57, 58, 59, 60, 61, 62, 63, 64, 65, 66, 67, 68, 69, 70, 71, 72, 73, 74, 75, 76, 77, 78, 79, 80, 81, 82, 83, 84, 85, 86, 87, 88, 89, 90, 91, 92, 93, 94, 95, 96, 97, 98, 99, 100, 101, 102, 103, 104, 105, 106, 107] (by decide +kernel) (by decide +kernel)) (goodIn_sub (fun _ h => List.mem_cons_of_mem _ (List.mem_append_left _ (List.mem_append_left _ (List.mem_append_right _ h)))) (by decide +kernel))) (goodIn_sub (fun _ h => List.mem_cons_of_mem _ (List.mem_append_left _ (List.mem_append_right _ h))) (by decide +kernel))) (goodIn_sub (fun _ h => List.mem_cons_of_mem _ (List.mem_append_right _ h)) (by decide +kernel))
set_option maxRecDepth 20000 in
theorem gL_setDriver_X3_setDriver : GoodIn wsL_setDriver (wsV RL 17 RX3 yX3_setDriver wsX3_setDriver) := goodIn_app (goodIn_of _ (by decide +kernel)) ggL_setDriver_X3_setDriver
theorem dL_setDriver_0 : decode cL_setDriver 0 = .ok (.aload_n 3, 1) := by decide +kernel
theorem dL_setDriver_1 : decode cL_setDriver 1 = .ok (.iconst 0, 1) := by decide +kernel
theorem dL_setDriver_2 : decode cL_setDriver 2 = .ok (.aload_n 0, 1) := by decide +kernel
theorem dL_setDriver_3 : decode cL_setDriver 3 = .ok (.iload_n 1, 1) := by decide +kernel
theorem dL_setDriver_4 : decode cL_setDriver 4 = .ok (.iload_n 2, 1) := by decide +kernel
theorem dL_setDriver_5 : decode cL_setDriver 5 = .ok (.invokevirtual 17, 3) := by decide +kernel
theorem dL_setDriver_8 : decode cL_setDriver 8 = .ok (.i2l, 1) := by decide +kernel
theorem dL_setDriver_9 : decode cL_setDriver 9 = .ok (.lastore, 1) := by decide +kernel
theorem dL_setDriver_10 : decode cL_setDriver 10 = .ok (.goto 11, 3) := by decide +kernel
theorem dL_setDriver_13 : decode cL_setDriver 13 = .ok (.astore 4, 2) := by decide +kernel
theorem dL_setDriver_15 : decode cL_setDriver 15 = .ok (.iconst 1, 1) := by decide +kernel
theorem dL_setDriver_16 : decode cL_setDriver 16 = .ok (.ireturn, 1) := by decide +kernel
theorem dL_setDriver_17 : decode cL_setDriver 17 = .ok (.astore 4, 2) := by decide +kernel
theorem dL_setDriver_19 : decode cL_setDriver 19 = .ok (.iconst 2, 1) := by decide +kernel
theorem dL_setDriver_20 : decode cL_setDriver 20 = .ok (.ireturn, 1) := by decide +kernel
theorem dL_setDriver_21 : decode cL_setDriver 21 = .ok (.iconst 0, 1) := by decide +kernel
theorem dL_setDriver_22 : decode cL_setDriver 22 = .ok (.ireturn, 1) := by decide +kernel
set_option maxRecDepth 20000 in
theorem ggL_driver_X3_driver : GoodIn wsL_driver wsX3_driver := goodIn_ca (goodIn_ca (goodIn_r _ [6, 7, 8, 9, 5, 10, 11, 12, 13, 14, 15, 16, 17, 18, 19, 20, 21, 22, 23, 24, 25, 26, 27, 28, 29, 30, 31, 32, 33, 34, 35, 36, 37, 38, 39, 40, 41, 42, 43, 44, 45, 46, 47] (by decide +kernel) (by decide +kernel)) (goodIn_sub (fun _ h => List.mem_cons_of_mem _ (List.mem_append_right _ h)) (by decide +kernel))) (goodIn_sub (fun _ h => List.mem_cons_of_mem _ (List.mem_append_left _ (List.mem_append_right _ h))) (by decide +kernel))
set_option maxRecDepth 20000 in
theorem gL_driver_X3_driver : GoodIn wsL_driver (wsV RL 23 RX3 yX3_driver wsX3_driver) := goodIn_app (goodIn_of _ (by decide +kernel)) ggL_driver_X3_driver
theorem dL_driver_0 : decode cL_driver 0 = .ok (.aload 4, 2) := by decide +kernel
theorem dL_driver_2 : decode cL_driver 2 = .ok (.iconst 0, 1) := by decide +kernel
theorem dL_driver_3 : decode cL_driver 3 = .ok (.aload_n 0, 1) := by decide +kernel
theorem dL_driver_4 : decode cL_driver 4 = .ok (.iload_n 1, 1) := by decide +kernel
theorem dL_driver_5 : decode cL_driver 5 = .ok (.iload_n 2, 1) := by decide +kernel
theorem dL_driver_6 : decode cL_driver 6 = .ok (.iload_n 3, 1) := by decide +kernel
theorem dL_driver_7 : decode cL_driver 7 = .ok (.invokevirtual 23, 3) := by decide +kernel
theorem dL_driver_10 : decode cL_driver 10 = .ok (.i2l, 1) := by decide +kernel
theorem dL_driver_11 : decode cL_driver 11 = .ok (.lastore, 1) := by decide +kernel
theorem dL_driver_12 : decode cL_driver 12 = .ok (.goto 7, 3) := by decide +kernel
theorem dL_driver_15 : decode cL_driver 15 = .ok (.astore 5, 2) := by decide +kernel
theorem dL_driver_17 : decode cL_driver 17 = .ok (.iconst 1, 1) := by decide +kernel
theorem dL_driver_18 : decode cL_driver 18 = .ok (.ireturn, 1) := by decide +kernel
theorem dL_driver_19 : decode cL_driver 19 = .ok (.iconst 0, 1) := by decide +kernel
theorem dL_driver_20 : decode cL_driver 20 = .ok (.ireturn, 1) := by decide +kernel
set_option maxRecDepth 20000 in
theorem ggL_addLine_X3_addLine : GoodIn wsL_addLine wsX3_addLine := goodIn_ca (goodIn_ca (goodIn_ca (goodIn_ca (goodIn_r _ [8, 9, 10, 11, 12, 13, 14, 15, 16, 7, 17, 18, 19, 20, 21, 22, 23, 24, 25, 26, 27, 28, 29, 30, 31, 32, 33, 34, 35, 36, 37, 38, 39, 40, 41, 42, 43, 44, 45, 46] (by decide +kernel) (by decide +kernel)) (goodIn_sub (fun _ h => List.mem_cons_of_mem _ (List.mem_append_left _ (List.mem_append_left _ (List.mem_append_right _ h)))) (by decide +kernel))) (goodIn_sub (fun _ h => List.mem_cons_of_mem _ (List.mem_append_left _ (List.mem_append_right _ h))) (by decide +kernel))) (goodIn_sub (fun _ h => List.mem_cons_of_mem _ (List.mem_append_right _ h)) (by decide +kernel))) (goodIn_sub (fun _ h => List.mem_cons_of_mem _ (List.mem_append_left _ (List.mem_append_left _ (List.mem_append_left _ (List.mem_append_right _ h))))) (by decide +kernel))
set_option maxRecDepth 20000 in
theorem gL_addLine_X3_addLine : GoodIn wsL_addLine (wsV RL 27 RX3 yX3_addLine wsX3_addLine) := goodIn_app (goodIn_of _ (by decide +kernel)) ggL_addLine_X3_addLine
theorem dL_addLine_0 : decode cL_addLine 0 = .ok (.aload 4, 2) := by decide +kernel
end
section
theorem dL_addLine_2 : decode cL_addLine 2 = .ok (.iconst 0, 1) := by decide +kernel
theorem dL_addLine_3 : decode cL_addLine 3 = .ok (.aload_n 0, 1) := by decide +kernel
theorem dL_addLine_4 : decode cL_addLine 4 = .ok (.iload_n 1, 1) := by decide +kernel
theorem dL_addLine_5 : decode cL_addLine 5 = .ok (.iload_n 2, 1) := by decide +kernel
theorem dL_addLine_6 : decode cL_addLine 6 = .ok (.iload_n 3, 1) := by decide +kernel
theorem dL_addLine_7 : decode cL_addLine 7 = .ok (.invokevirtual 27, 3) := by decide +kernel
theorem dL_addLine_10 : decode cL_addLine 10 = .ok (.i2l, 1) := by decide +kernel
theorem dL_addLine_11 : decode cL_addLine 11 = .ok (.lastore, 1) := by decide +kernel
theorem dL_addLine_12 : decode cL_addLine 12 = .ok (.goto 15, 3) := by decide +kernel
theorem dL_addLine_15 : decode cL_addLine 15 = .ok (.astore 5, 2) := by decide +kernel
theorem dL_addLine_17 : decode cL_addLine 17 = .ok (.iconst 1, 1) := by decide +kernel
theorem dL_addLine_18 : decode cL_addLine 18 = .ok (.ireturn, 1) := by decide +kernel
theorem dL_addLine_19 : decode cL_addLine 19 = .ok (.astore 5, 2) := by decide +kernel
theorem dL_addLine_21 : decode cL_addLine 21 = .ok (.iconst 2, 1) := by decide +kernel
theorem dL_addLine_22 : decode cL_addLine 22 = .ok (.ireturn, 1) := by decide +kernel
theorem dL_addLine_23 : decode cL_addLine 23 = .ok (.astore 5, 2) := by decide +kernel
theorem dL_addLine_25 : decode cL_addLine 25 = .ok (.iconst 3, 1) := by decide +kernel
theorem dL_addLine_26 : decode cL_addLine 26 = .ok (.ireturn, 1) := by decide +kernel
theorem dL_addLine_27 : decode cL_addLine 27 = .ok (.iconst 0, 1) := by decide +kernel
theorem dL_addLine_28 : decode cL_addLine 28 = .ok (.ireturn, 1) := by decide +kernel
set_option maxRecDepth 20000 in
theorem ggL_addScenario_X3_addScenario : GoodIn wsL_addScenario wsX3_addScenario := goodIn_ca (goodIn_ca (goodIn_ca (goodIn_r _ [7, 8, 9, 10, 11, 12, 13, 6, 14, 15, 16, 17, 18, 19, 20, 21, 22, 23, 24, 25, 26, 27, 28, 29, 30, 31, 32, 33, 34] (by decide +kernel) (by decide +kernel)) (goodIn_sub (fun _ h => List.mem_cons_of_mem _ (List.mem_append_left _ (List.mem_append_right _ h))) (by decide +kernel))) (goodIn_sub (fun _ h => List.mem_cons_of_mem _ (List.mem_append_right _ h)) (by decide +kernel))) (goodIn_sub (fun _ h => List.mem_cons_of_mem _ (List.mem_append_left _ (List.mem_append_left _ (List.mem_append_right _ h)))) (by decide +kernel))
set_option maxRecDepth 20000 in
theorem gL_addScenario_X3_addScenario : GoodIn wsL_addScenario (wsV RL 31 RX3 yX3_addScenario wsX3_addScenario) := goodIn_app (goodIn_of _ (by decide +kernel)) ggL_addScenario_X3_addScenario
theorem dL_addScenario_0 : decode cL_addScenario 0 = .ok (.aload_n 2, 1) := by decide +kernel
theorem dL_addScenario_1 : decode cL_addScenario 1 = .ok (.iconst 0, 1) := by decide +kernel
theorem dL_addScenario_2 : decode cL_addScenario 2 = .ok (.aload_n 0, 1) := by decide +kernel
theorem dL_addScenario_3 : decode cL_addScenario 3 = .ok (.iload_n 1, 1) := by decide +kernel
theorem dL_addScenario_4 : decode cL_addScenario 4 = .ok (.invokevirtual 31, 3) := by decide +kernel
theorem dL_addScenario_7 : decode cL_addScenario 7 = .ok (.i2l, 1) := by decide +kernel
theorem dL_addScenario_8 : decode cL_addScenario 8 = .ok (.lastore, 1) := by decide +kernel
theorem dL_addScenario_9 : decode cL_addScenario 9 = .ok (.goto 9, 3) := by decide +kernel
theorem dL_addScenario_12 : decode cL_addScenario 12 = .ok (.astore_n 3, 1) := by decide +kernel
theorem dL_addScenario_13 : decode cL_addScenario 13 = .ok (.iconst 1, 1) := by decide +kernel
theorem dL_addScenario_14 : decode cL_addScenario 14 = .ok (.ireturn, 1) := by decide +kernel
theorem dL_addScenario_15 : decode cL_addScenario 15 = .ok (.astore_n 3, 1) := by decide +kernel
theorem dL_addScenario_16 : decode cL_addScenario 16 = .ok (.iconst 2, 1) := by decide +kernel
theorem dL_addScenario_17 : decode cL_addScenario 17 = .ok (.ireturn, 1) := by decide +kernel
theorem dL_addScenario_18 : decode cL_addScenario 18 = .ok (.iconst 0, 1) := by decide +kernel
theorem dL_addScenario_19 : decode cL_addScenario 19 = .ok (.ireturn, 1) := by decide +kernel
set_option maxRecDepth 20000 in
theorem ggL_differ_X3_differ : GoodIn wsL_differ wsX3_differ := goodIn_ca (goodIn_ca (goodIn_ca (goodIn_ca (goodIn_ca (goodIn_r _ [9, 10, 11, 12, 13, 14, 15, 16, 17, 18, 19, 8, 20, 21, 22, 23, 24, 25, 26, 27, 28, 29, 30, 31, 32, 33, 34, 35, 36, 37, 38, 39, 40, 41, 42, 43, 44, 45, 46, 47, 48, 49, 50, 51, 52] (by decide +kernel) (by decide +kernel)) (goodIn_sub (fun _ h => List.mem_cons_of_mem _ (List.mem_append_left _ (List.mem_append_left _ (List.mem_append_left _ (List.mem_append_right _ h))))) (by decide +kernel))) (goodIn_sub (fun _ h => List.mem_cons_of_mem _ (List.mem_append_left _ (List.mem_append_left _ (List.mem_append_right _ h)))) (by decide +kernel))) (goodIn_sub (fun _ h => List.mem_cons_of_mem _ (List.mem_append_left _ (List.mem_append_right _ h))) (by decide +kernel))) (goodIn_sub (fun _ h => List.mem_cons_of_mem _ (List.mem_append_right _ h)) (by decide +kernel))) (goodIn_sub (fun _ h => List.mem_cons_of_mem _ (List.mem_append_left _ (List.mem_append_left _ (List.mem_append_left _ (List.mem_append_left _ (List.mem_append_right _ h)))))) (by decide +kernel))
set_option maxRecDepth 20000 in
theorem gL_differ_X3_differ : GoodIn wsL_differ (wsV RL 34 RX3 yX3_differ wsX3_differ) := goodIn_app (goodIn_of _ (by decide +kernel)) ggL_differ_X3_differ
theorem dL_differ_0 : decode cL_differ 0 = .ok (.aload 5, 2) := by decide +kernel
theorem dL_differ_2 : decode cL_differ 2 = .ok (.iconst 0, 1) := by decide +kernel
theorem dL_differ_3 : decode cL_differ 3 = .ok (.aload_n 0, 1) := by decide +kernel
theorem dL_differ_4 : decode cL_differ 4 = .ok (.iload_n 1, 1) := by decide +kernel
theorem dL_differ_5 : decode cL_differ 5 = .ok (.iload_n 2, 1) := by decide +kernel
theorem dL_differ_6 : decode cL_differ 6 = .ok (.iload_n 3, 1) := by decide +kernel
theorem dL_differ_7 : decode cL_differ 7 = .ok (.iload 4, 2) := by decide +kernel
theorem dL_differ_9 : decode cL_differ 9 = .ok (.invokevirtual 34, 3) := by decide +kernel
theorem dL_differ_12 : decode cL_differ 12 = .ok (.i2l, 1) := by decide +kernel
theorem dL_differ_13 : decode cL_differ 13 = .ok (.lastore, 1) := by decide +kernel
theorem dL_differ_14 : decode cL_differ 14 = .ok (.goto 19, 3) := by decide +kernel
theorem dL_differ_17 : decode cL_differ 17 = .ok (.astore 6, 2) := by decide +kernel
theorem dL_differ_19 : decode cL_differ 19 = .ok (.iconst 1, 1) := by decide +kernel
theorem dL_differ_20 : decode cL_differ 20 = .ok (.ireturn, 1) := by decide +kernel
theorem dL_differ_21 : decode cL_differ 21 = .ok (.astore 6, 2) := by decide +kernel
theorem dL_differ_23 : decode cL_differ 23 = .ok (.iconst 2, 1) := by decide +kernel
theorem dL_differ_24 : decode cL_differ 24 = .ok (.ireturn, 1) := by decide +kernel
theorem dL_differ_25 : decode cL_differ 25 = .ok (.astore 6, 2) := by decide +kernel
theorem dL_differ_27 : decode cL_differ 27 = .ok (.iconst 3, 1) := by decide +kernel
theorem dL_differ_28 : decode cL_differ 28 = .ok (.ireturn, 1) := by decide +kernel
theorem dL_differ_29 : decode cL_differ 29 = .ok (.astore 6, 2) := by decide +kernel
theorem dL_differ_31 : decode cL_differ 31 = .ok (.iconst 4, 1) := by decide +kernel
theorem dL_differ_32 : decode cL_differ 32 = .ok (.ireturn, 1) := by decide +kernel
theorem dL_differ_33 : decode cL_differ 33 = .ok (.iconst 0, 1) := by decide +kernel
theorem dL_differ_34 : decode cL_differ 34 = .ok (.ireturn, 1) := by decide +kernel
set_option maxRecDepth 20000 in
theorem ggL_number_X3_number : GoodIn wsL_number wsX3_number := goodIn_ca (goodIn_ca (goodIn_ca (goodIn_r _ [7, 8, 9, 10, 6, 11, 12, 13, 14, 15, 16, 17, 18, 19, 20, 21, 22, 23, 24, 25, 26, 27, 28, 29, 30, 31, 32, 33, 34, 35, 36, 37, 38, 39, 40, 41, 42, 43, 44, 45, 46, 47, 48, 49, 50, 51, 52, 53, 54, 55, 56, 57, 58, 59, 60, 61, 62, 63, 64, 65, 66, 67, 68, 69, 70, 71, 72, 73, 74, 75, 76, 77, 78, 79, 80, 81, 82, 83, 84, 85, 86, 87, 88, 89, 90, 91, 92, 93, 94, 95, 96, 97] (by decide +kernel) (by decide +kernel)) (goodIn_sub (fun _ h => List.mem_cons_of_mem _ (List.mem_append_left _ (List.mem_append_right _ h))) (by decide +kernel))) (goodIn_sub (fun _ h => List.mem_cons_of_mem _ (List.mem_append_left _ (List.mem_append_left _ (List.mem_append_right _ h)))) (by decide +kernel))) (goodIn_sub (fun _ h => List.mem_cons_of_mem _ (List.mem_append_right _ h)) (by decide +kernel))
set_option maxRecDepth 20000 in
theorem gL_number_X3_number : GoodIn wsL_number (wsV RL 40 RX3 yX3_number wsX3_number) := goodIn_app (goodIn_of _ (by decide +kernel)) ggL_number_X3_number
theorem dL_number_0 : decode cL_number 0 = .ok (.aload 4, 2) := by decide +kernel
theorem dL_number_2 : decode cL_number 2 = .ok (.iconst 0, 1) := by decide +kernel
theorem dL_number_3 : decode cL_number 3 = .ok (.aload_n 0, 1) := by decide +kernel
theorem dL_number_4 : decode cL_number 4 = .ok (.iload_n 1, 1) := by decide +kernel
theorem dL_number_5 : decode cL_number 5 = .ok (.iload_n 2, 1) := by decide +kernel
theorem dL_number_6 : decode cL_number 6 = .ok (.iload_n 3, 1) := by decide +kernel
theorem dL_number_7 : decode cL_number 7 = .ok (.invokevirtual 40, 3) := by decide +kernel
theorem dL_number_10 : decode cL_number 10 = .ok (.i2l, 1) := by decide +kernel
theorem dL_number_11 : decode cL_number 11 = .ok (.lastore, 1) := by decide +kernel
theorem dL_number_12 : decode cL_number 12 = .ok (.goto 11, 3) := by decide +kernel
theorem dL_number_15 : decode cL_number 15 = .ok (.astore 5, 2) := by decide +kernel
theorem dL_number_17 : decode cL_number 17 = .ok (.iconst 1, 1) := by decide +kernel
theorem dL_number_18 : decode cL_number 18 = .ok (.ireturn, 1) := by decide +kernel
theorem dL_number_19 : decode cL_number 19 = .ok (.astore 5, 2) := by decide +kernel
theorem dL_number_21 : decode cL_number 21 = .ok (.iconst 2, 1) := by decide +kernel
theorem dL_number_22 : decode cL_number 22 = .ok (.ireturn, 1) := by decide +kernel
theorem dL_number_23 : decode cL_number 23 = .ok (.iconst 0, 1) := by decide +kernel
theorem dL_number_24 : decode cL_number 24 = .ok (.ireturn, 1) := by decide +kernel
set_option maxRecDepth 20000 in
theorem ggL_numberByHand_X3_numberByHand : GoodIn wsL_numberByHand wsX3_numberByHand := goodIn_ca (goodIn_ca (goodIn_ca (goodIn_r _ [7, 8, 9, 10, 11, 12, 6, 13, 14, 15, 16, 17, 18, 19, 20, 21, 22, 23, 24, 25, 26, 27, 28, 29, 30, 31, 32, 33, 34, 35, 36, 37, 38, 39, 40, 41, 42, 43, 44, 45, 46, 47, 48, 49, 50, 51, 52, 53, 54, 55, 56, 57, 58, 59, 60, 61, 62, 63, 64, 65, 66, 67, 68, 69, 70, 71, 72, 73, 74, 75, 76, 77, 78, 79, 80, 81, 82, 83, 84, 85, 86, 87, 88, 89, 90] (by decide +kernel) (by decide +kernel)) (goodIn_sub (fun _ h => List.mem_cons_of_mem _ (List.mem_append_left _ (List.mem_append_left _ (List.mem_append_right _ h)))) (by decide +kernel))) (goodIn_sub (fun _ h => List.mem_cons_of_mem _ (List.mem_append_left _ (List.mem_append_right _ h))) (by decide +kernel))) (goodIn_sub (fun _ h => List.mem_cons_of_mem _ (List.mem_append_right _ h)) (by decide +kernel))
set_option maxRecDepth 20000 in
theorem gL_numberByHand_X3_numberByHand : GoodIn wsL_numberByHand (wsV RL 43 RX3 yX3_numberByHand wsX3_numberByHand) := goodIn_app (goodIn_of _ (by decide +kernel)) ggL_numberByHand_X3_numberByHand
theorem dL_numberByHand_0 : decode cL_numberByHand 0 = .ok (.aload 4, 2) := by decide +kernel
theorem dL_numberByHand_2 : decode cL_numberByHand 2 = .ok (.iconst 0, 1) := by decide +kernel
theorem dL_numberByHand_3 : decode cL_numberByHand 3 = .ok (.aload_n 0, 1) := by decide +kernel
theorem dL_numberByHand_4 : decode cL_numberByHand 4 = .ok (.iload_n 1, 1) := by decide +kernel
theorem dL_numberByHand_5 : decode cL_numberByHand 5 = .ok (.iload_n 2, 1) := by decide +kernel
theorem dL_numberByHand_6 : decode cL_numberByHand 6 = .ok (.iload_n 3, 1) := by decide +kernel
theorem dL_numberByHand_7 : decode cL_numberByHand 7 = .ok (.invokevirtual 43, 3) := by decide +kernel
theorem dL_numberByHand_10 : decode cL_numberByHand 10 = .ok (.i2l, 1) := by decide +kernel
theorem dL_numberByHand_11 : decode cL_numberByHand 11 = .ok (.lastore, 1) := by decide +kernel
theorem dL_numberByHand_12 : decode cL_numberByHand 12 = .ok (.goto 11, 3) := by decide +kernel
theorem dL_numberByHand_15 : decode cL_numberByHand 15 = .ok (.astore 5, 2) := by decide +kernel
theorem dL_numberByHand_17 : decode cL_numberByHand 17 = .ok (.iconst 1, 1) := by decide +kernel
theorem dL_numberByHand_18 : decode cL_numberByHand 18 = .ok (.ireturn, 1) := by decide +kernel
theorem dL_numberByHand_19 : decode cL_numberByHand 19 = .ok (.astore 5, 2) := by decide +kernel
theorem dL_numberByHand_21 : decode cL_numberByHand 21 = .ok (.iconst 2, 1) := by decide +kernel
theorem dL_numberByHand_22 : decode cL_numberByHand 22 = .ok (.ireturn, 1) := by decide +kernel
theorem dL_numberByHand_23 : decode cL_numberByHand 23 = .ok (.iconst 0, 1) := by decide +kernel
theorem dL_numberByHand_24 : decode cL_numberByHand 24 = .ok (.ireturn, 1) := by decide +kernel
set_option maxRecDepth 20000 in
theorem ggL_year_X3_year : GoodIn wsL_year wsX3_year := goodIn_ca (goodIn_ca (goodIn_ca (goodIn_r _ [7, 8, 9, 10, 6, 11, 12, 13, 14, 15, 16, 17, 18, 19, 20, 21, 22, 23, 24, 25, 26, 27, 28, 29, 30, 31, 32, 33, 34, 35, 36, 37, 38, 39, 40, 41, 42, 43, 44, 45, 46, 47, 48, 49, 50, 51, 52, 53, 54, 55, 56, 57, 58, 59, 60, 61, 62, 63, 64, 65, 66, 67, 68, 69, 70, 71, 72, 73, 74, 75, 76, 77, 78, 79, 80, 81, 82, 83, 84, 85, 86, 87, 88, 89, 90, 91, 92, 93, 94] (by decide +kernel) (by decide +kernel)) (goodIn_sub (fun _ h => List.mem_cons_of_mem _ (List.mem_append_left _ (List.mem_append_right _ h))) (by decide +kernel))) (goodIn_sub (fun _ h => List.mem_cons_of_mem _ (List.mem_append_left _ (List.mem_append_left _ (List.mem_append_right _ h)))) (by decide +kernel))) (goodIn_sub (fun _ h => List.mem_cons_of_mem _ (List.mem_append_right _ h)) (by decide +kernel))
set_option maxRecDepth 20000 in
theorem gL_year_X3_year : GoodIn wsL_year (wsV RL 46 RX3 yX3_year wsX3_year) := goodIn_app (goodIn_of _ (by decide +kernel)) ggL_year_X3_year
theorem dL_year_0 : decode cL_year 0 = .ok (.aload_n 3, 1) := by decide +kernel
theorem dL_year_1 : decode cL_year 1 = .ok (.iconst 0, 1) := by decide +kernel
theorem dL_year_2 : decode cL_year 2 = .ok (.aload_n 0, 1) := by decide +kernel
theorem dL_year_3 : decode cL_year 3 = .ok (.iload_n 1, 1) := by decide +kernel
theorem dL_year_4 : decode cL_year 4 = .ok (.iload_n 2, 1) := by decide +kernel
theorem dL_year_5 : decode cL_year 5 = .ok (.invokevirtual 46, 3) := by decide +kernel
theorem dL_year_8 : decode cL_year 8 = .ok (.lastore, 1) := by decide +kernel
theorem dL_year_9 : decode cL_year 9 = .ok (.goto 11, 3) := by decide +kernel
theorem dL_year_12 : decode cL_year 12 = .ok (.astore 4, 2) := by decide +kernel
theorem dL_year_14 : decode cL_year 14 = .ok (.iconst 1, 1) := by decide +kernel
theorem dL_year_15 : decode cL_year 15 = .ok (.ireturn, 1) := by decide +kernel
theorem dL_year_16 : decode cL_year 16 = .ok (.astore 4, 2) := by decide +kernel
theorem dL_year_18 : decode cL_year 18 = .ok (.iconst 2, 1) := by decide +kernel
theorem dL_year_19 : decode cL_year 19 = .ok (.ireturn, 1) := by decide +kernel
theorem dL_year_20 : decode cL_year 20 = .ok (.iconst 0, 1) := by decide +kernel
theorem dL_year_21 : decode cL_year 21 = .ok (.ireturn, 1) := by decide +kernel
set_option maxRecDepth 20000 in
theorem ggL_effect_X3_effect : GoodIn wsL_effect wsX3_effect := goodIn_ca (goodIn_ca (goodIn_ca (goodIn_r _ [7, 8, 9, 10, 6, 11, 12, 13, 14, 15, 16, 17, 18, 19, 20, 21, 22, 23, 24, 25, 26, 27, 28, 29, 30, 31, 32, 33, 34, 35, 36, 37, 38, 39, 40, 41, 42, 43, 44, 45, 46, 47, 48, 49, 50, 51, 52, 53, 54, 55, 56, 57, 58, 59, 60, 61, 62, 63, 64, 65, 66, 67, 68, 69, 70, 71, 72, 73, 74, 75, 76, 77, 78, 79, 80, 81, 82, 83, 84, 85, 86, 87, 88, 89, 90, 91, 92, 93, 94, 95, 96, 97, 98, 99, 100, 101] (by decide +kernel) (by decide +kernel)) (goodIn_sub (fun _ h => List.mem_cons_of_mem _ (List.mem_append_left _ (List.mem_append_right _ h))) (by decide +kernel))) (goodIn_sub (fun _ h => List.mem_cons_of_mem _ (List.mem_append_left _ (List.mem_append_left _ (List.mem_append_right _ h)))) (by decide +kernel))) (goodIn_sub (fun _ h => List.mem_cons_of_mem _ (List.mem_append_right _ h)) (by decide +kernel))
set_option maxRecDepth 20000 in
theorem gL_effect_X3_effect : GoodIn wsL_effect (wsV RL 50 RX3 yX3_effect wsX3_effect) := goodIn_app (goodIn_of _ (by decide +kernel)) ggL_effect_X3_effect
theorem dL_effect_0 : decode cL_effect 0 = .ok (.aload 5, 2) := by decide +kernel
theorem dL_effect_2 : decode cL_effect 2 = .ok (.iconst 0, 1) := by decide +kernel
theorem dL_effect_3 : decode cL_effect 3 = .ok (.aload_n 0, 1) := by decide +kernel
theorem dL_effect_4 : decode cL_effect 4 = .ok (.iload_n 1, 1) := by decide +kernel
theorem dL_effect_5 : decode cL_effect 5 = .ok (.iload_n 2, 1) := by decide +kernel
theorem dL_effect_6 : decode cL_effect 6 = .ok (.iload_n 3, 1) := by decide +kernel
theorem dL_effect_7 : decode cL_effect 7 = .ok (.iload 4, 2) := by decide +kernel
theorem dL_effect_9 : decode cL_effect 9 = .ok (.invokevirtual 50, 3) := by decide +kernel
theorem dL_effect_12 : decode cL_effect 12 = .ok (.i2l, 1) := by decide +kernel
theorem dL_effect_13 : decode cL_effect 13 = .ok (.lastore, 1) := by decide +kernel
theorem dL_effect_14 : decode cL_effect 14 = .ok (.goto 11, 3) := by decide +kernel
theorem dL_effect_17 : decode cL_effect 17 = .ok (.astore 6, 2) := by decide +kernel
theorem dL_effect_19 : decode cL_effect 19 = .ok (.iconst 1, 1) := by decide +kernel
theorem dL_effect_20 : decode cL_effect 20 = .ok (.ireturn, 1) := by decide +kernel
theorem dL_effect_21 : decode cL_effect 21 = .ok (.astore 6, 2) := by decide +kernel
theorem dL_effect_23 : decode cL_effect 23 = .ok (.iconst 2, 1) := by decide +kernel
theorem dL_effect_24 : decode cL_effect 24 = .ok (.ireturn, 1) := by decide +kernel
theorem dL_effect_25 : decode cL_effect 25 = .ok (.iconst 0, 1) := by decide +kernel
theorem dL_effect_26 : decode cL_effect 26 = .ok (.ireturn, 1) := by decide +kernel
set_option maxRecDepth 20000 in
theorem ggL_seek_X3_seek : GoodIn wsL_seek wsX3_seek := goodIn_ca (goodIn_ca (goodIn_ca (goodIn_r _ [7, 8, 9, 10, 11, 12, 13, 14, 15, 6, 16, 17, 18, 19, 20, 21, 22, 23, 24, 25, 26, 27, 28, 29, 30, 31, 32, 33, 34, 35, 36, 37, 38, 39, 40, 41, 42, 43, 44, 45, 46, 47, 48, 49, 50, 51, 52, 53, 54, 55, 56, 57, 58, 59, 60, 61, 62, 63, 64, 65, 66, 67, 68, 69, 70, 71, 72, 73, 74, 75, 76, 77, 78, 79, 80, 81, 82, 83, 84, 85, 86, 87, 88, 89, 90] (by decide +kernel) (by decide +kernel)) (goodIn_sub (fun _ h => List.mem_cons_of_mem _ (List.mem_append_left _ (List.mem_append_left _ (List.mem_append_right _ h)))) (by decide +kernel))) (goodIn_sub (fun _ h => List.mem_cons_of_mem _ (List.mem_append_left _ (List.mem_append_right _ h))) (by decide +kernel))) (goodIn_sub (fun _ h => List.mem_cons_of_mem _ (List.mem_append_right _ h)) (by decide +kernel))
set_option maxRecDepth 20000 in
theorem gL_seek_X3_seek : GoodIn wsL_seek (wsV RL 53 RX3 yX3_seek wsX3_seek) := goodIn_app (goodIn_of _ (by decide +kernel)) ggL_seek_X3_seek
theorem dL_seek_0 : decode cL_seek 0 = .ok (.aload 5, 2) := by decide +kernel
theorem dL_seek_2 : decode cL_seek 2 = .ok (.iconst 0, 1) := by decide +kernel
theorem dL_seek_3 : decode cL_seek 3 = .ok (.aload_n 0, 1) := by decide +kernel
theorem dL_seek_4 : decode cL_seek 4 = .ok (.iload_n 1, 1) := by decide +kernel
theorem dL_seek_5 : decode cL_seek 5 = .ok (.iload_n 2, 1) := by decide +kernel
theorem dL_seek_6 : decode cL_seek 6 = .ok (.iload_n 3, 1) := by decide +kernel
theorem dL_seek_7 : decode cL_seek 7 = .ok (.iload 4, 2) := by decide +kernel
theorem dL_seek_9 : decode cL_seek 9 = .ok (.invokevirtual 53, 3) := by decide +kernel
theorem dL_seek_12 : decode cL_seek 12 = .ok (.i2l, 1) := by decide +kernel
theorem dL_seek_13 : decode cL_seek 13 = .ok (.lastore, 1) := by decide +kernel
theorem dL_seek_14 : decode cL_seek 14 = .ok (.goto 11, 3) := by decide +kernel
theorem dL_seek_17 : decode cL_seek 17 = .ok (.astore 6, 2) := by decide +kernel
theorem dL_seek_19 : decode cL_seek 19 = .ok (.iconst 1, 1) := by decide +kernel
theorem dL_seek_20 : decode cL_seek 20 = .ok (.ireturn, 1) := by decide +kernel
theorem dL_seek_21 : decode cL_seek 21 = .ok (.astore 6, 2) := by decide +kernel
theorem dL_seek_23 : decode cL_seek 23 = .ok (.iconst 2, 1) := by decide +kernel
theorem dL_seek_24 : decode cL_seek 24 = .ok (.ireturn, 1) := by decide +kernel
theorem dL_seek_25 : decode cL_seek 25 = .ok (.iconst 0, 1) := by decide +kernel
theorem dL_seek_26 : decode cL_seek 26 = .ok (.ireturn, 1) := by decide +kernel
set_option maxRecDepth 20000 in
theorem ggL_actual_X3_actual : GoodIn wsL_actual wsX3_actual := goodIn_ca (goodIn_ca (goodIn_ca (goodIn_r _ [7, 8, 9, 10, 11, 12, 13, 14, 15, 16, 6, 17, 18, 19, 20, 21, 22, 23, 24, 25, 26, 27, 28, 29, 30, 31, 32, 33, 34, 35, 36, 37, 38, 39, 40, 41, 42, 43, 44, 45, 46, 47, 48, 49, 50, 51, 52, 53, 54, 55, 56, 57, 58, 59, 60, 61, 62, 63, 64, 65, 66, 67, 68, 69, 70, 71, 72, 73, 74, 75, 76, 77, 78, 79, 80, 81, 82, 83, 84, 85, 86, 87, 88, 89, 90, 91, 92, 93, 94, 95, 96, 97, 98, 99, 100, 101, 102, 103, 104, 105, 106, 107, 108, 109, 110] (by decide +kernel) (by decide +kernel)) (goodIn_sub (fun _ h => List.mem_cons_of_mem _ (List.mem_append_left _ (List.mem_append_right _ h))) (by decide +kernel))) (goodIn_sub (fun _ h => List.mem_cons_of_mem _ (List.mem_append_left _ (List.mem_append_left _ (List.mem_append_right _ h)))) (by decide +kernel))) (goodIn_sub (fun _ h => List.mem_cons_of_mem _ (List.mem_append_right _ h)) (by decide +kernel))
set_option maxRecDepth 20000 in
theorem gL_actual_X3_actual : GoodIn wsL_actual (wsV RL 58 RX3 yX3_actual wsX3_actual) := goodIn_app (goodIn_of _ (by decide +kernel)) ggL_actual_X3_actual
theorem dL_actual_0 : decode cL_actual 0 = .ok (.aload 4, 2) := by decide +kernel
theorem dL_actual_2 : decode cL_actual 2 = .ok (.iconst 0, 1) := by decide +kernel
theorem dL_actual_3 : decode cL_actual 3 = .ok (.aload_n 0, 1) := by decide +kernel
theorem dL_actual_4 : decode cL_actual 4 = .ok (.iload_n 1, 1) := by decide +kernel
theorem dL_actual_5 : decode cL_actual 5 = .ok (.iload_n 2, 1) := by decide +kernel
theorem dL_actual_6 : decode cL_actual 6 = .ok (.iload_n 3, 1) := by decide +kernel
theorem dL_actual_7 : decode cL_actual 7 = .ok (.invokevirtual 58, 3) := by decide +kernel
theorem dL_actual_10 : decode cL_actual 10 = .ok (.i2l, 1) := by decide +kernel
theorem dL_actual_11 : decode cL_actual 11 = .ok (.lastore, 1) := by decide +kernel
theorem dL_actual_12 : decode cL_actual 12 = .ok (.goto 11, 3) := by decide +kernel
theorem dL_actual_15 : decode cL_actual 15 = .ok (.astore 5, 2) := by decide +kernel
theorem dL_actual_17 : decode cL_actual 17 = .ok (.iconst 1, 1) := by decide +kernel
theorem dL_actual_18 : decode cL_actual 18 = .ok (.ireturn, 1) := by decide +kernel
theorem dL_actual_19 : decode cL_actual 19 = .ok (.astore 5, 2) := by decide +kernel
theorem dL_actual_21 : decode cL_actual 21 = .ok (.iconst 2, 1) := by decide +kernel
theorem dL_actual_22 : decode cL_actual 22 = .ok (.ireturn, 1) := by decide +kernel
theorem dL_actual_23 : decode cL_actual 23 = .ok (.iconst 0, 1) := by decide +kernel
theorem dL_actual_24 : decode cL_actual 24 = .ok (.ireturn, 1) := by decide +kernel
set_option maxRecDepth 20000 in
theorem ggL_takeActual_X3_takeActual : GoodIn wsL_takeActual wsX3_takeActual := goodIn_ca (goodIn_ca (goodIn_ca (goodIn_r _ [7, 8, 9, 10, 11, 12, 13, 14, 6, 15, 16, 17, 18, 19, 20, 21, 22, 23, 24, 25, 26, 27, 28, 29, 30, 31, 32, 33, 34, 35, 36, 37, 38, 39, 40, 41, 42, 43, 44, 45, 46, 47, 48, 49, 50, 51, 52, 53, 54, 55, 56, 57, 58, 59, 60, 61, 62, 63, 64, 65, 66, 67, 68, 69, 70, 71, 72, 73, 74, 75, 76, 77, 78, 79, 80, 81, 82, 83, 84, 85, 86, 87, 88, 89, 90, 91, 92, 93, 94, 95, 96, 97, 98, 99, 100, 101, 102, 103, 104, 105, 106, 107, 108] (by decide +kernel) (by decide +kernel)) (goodIn_sub (fun _ h => List.mem_cons_of_mem _ (List.mem_append_left _ (List.mem_append_left _ (List.mem_append_right _ h)))) (by decide +kernel))) (goodIn_sub (fun _ h => List.mem_cons_of_mem _ (List.mem_append_left _ (List.mem_append_right _ h))) (by decide +kernel))) (goodIn_sub (fun _ h => List.mem_cons_of_mem _ (List.mem_append_right _ h)) (by decide +kernel))
set_option maxRecDepth 20000 in
theorem gL_takeActual_X3_takeActual : GoodIn wsL_takeActual (wsV RL 61 RX3 yX3_takeActual wsX3_takeActual) := goodIn_app (goodIn_of _ (by decide +kernel)) ggL_takeActual_X3_takeActual
theorem dL_takeActual_0 : decode cL_takeActual 0 = .ok (.aload_n 3, 1) := by decide +kernel
theorem dL_takeActual_1 : decode cL_takeActual 1 = .ok (.iconst 0, 1) := by decide +kernel
theorem dL_takeActual_2 : decode cL_takeActual 2 = .ok (.aload_n 0, 1) := by decide +kernel
theorem dL_takeActual_3 : decode cL_takeActual 3 = .ok (.iload_n 1, 1) := by decide +kernel
theorem dL_takeActual_4 : decode cL_takeActual 4 = .ok (.iload_n 2, 1) := by decide +kernel
theorem dL_takeActual_5 : decode cL_takeActual 5 = .ok (.invokevirtual 61, 3) := by decide +kernel
theorem dL_takeActual_8 : decode cL_takeActual 8 = .ok (.i2l, 1) := by decide +kernel
theorem dL_takeActual_9 : decode cL_takeActual 9 = .ok (.lastore, 1) := by decide +kernel
theorem dL_takeActual_10 : decode cL_takeActual 10 = .ok (.goto 11, 3) := by decide +kernel
theorem dL_takeActual_13 : decode cL_takeActual 13 = .ok (.astore 4, 2) := by decide +kernel
theorem dL_takeActual_15 : decode cL_takeActual 15 = .ok (.iconst 1, 1) := by decide +kernel
theorem dL_takeActual_16 : decode cL_takeActual 16 = .ok (.ireturn, 1) := by decide +kernel
theorem dL_takeActual_17 : decode cL_takeActual 17 = .ok (.astore 4, 2) := by decide +kernel
theorem dL_takeActual_19 : decode cL_takeActual 19 = .ok (.iconst 2, 1) := by decide +kernel
theorem dL_takeActual_20 : decode cL_takeActual 20 = .ok (.ireturn, 1) := by decide +kernel
theorem dL_takeActual_21 : decode cL_takeActual 21 = .ok (.iconst 0, 1) := by decide +kernel
theorem dL_takeActual_22 : decode cL_takeActual 22 = .ok (.ireturn, 1) := by decide +kernel
set_option maxRecDepth 20000 in
theorem ggL_pass_X3_pass : GoodIn wsL_pass wsX3_pass := goodIn_ca (goodIn_r _ [6, 7, 8, 9, 10, 11, 12, 13, 14, 15, 16] (by decide +kernel) (by decide +kernel)) (goodIn_sub (fun _ h => List.mem_cons_of_mem _ (List.mem_append_right _ h)) (by decide +kernel))
set_option maxRecDepth 20000 in
theorem gL_pass_X3_pass : GoodIn wsL_pass (wsV RL 64 RX3 yX3_pass wsX3_pass) := goodIn_app (goodIn_of _ (by decide +kernel)) ggL_pass_X3_pass
theorem dL_pass_0 : decode cL_pass 0 = .ok (.aload_n 1, 1) := by decide +kernel
theorem dL_pass_1 : decode cL_pass 1 = .ok (.iconst 0, 1) := by decide +kernel
theorem dL_pass_2 : decode cL_pass 2 = .ok (.aload_n 0, 1) := by decide +kernel
theorem dL_pass_3 : decode cL_pass 3 = .ok (.invokevirtual 64, 3) := by decide +kernel
theorem dL_pass_6 : decode cL_pass 6 = .ok (.i2l, 1) := by decide +kernel
theorem dL_pass_7 : decode cL_pass 7 = .ok (.lastore, 1) := by decide +kernel
theorem dL_pass_8 : decode cL_pass 8 = .ok (.goto 6, 3) := by decide +kernel
theorem dL_pass_11 : decode cL_pass 11 = .ok (.astore_n 2, 1) := by decide +kernel
theorem dL_pass_12 : decode cL_pass 12 = .ok (.iconst 1, 1) := by decide +kernel
theorem dL_pass_13 : decode cL_pass 13 = .ok (.ireturn, 1) := by decide +kernel
theorem dL_pass_14 : decode cL_pass 14 = .ok (.iconst 0, 1) := by decide +kernel
theorem dL_pass_15 : decode cL_pass 15 = .ok (.ireturn, 1) := by decide +kernel
set_option maxRecDepth 20000 in
theorem ggL_approve_X3_approve : GoodIn wsL_approve wsX3_approve := goodIn_ca (goodIn_ca (goodIn_ca (goodIn_ca (goodIn_r _ [8, 9, 10, 11, 12, 13, 14, 7, 15, 16, 17, 18, 19, 20, 21, 22, 23, 24, 25, 26, 27, 28, 29, 30, 31, 32, 33, 34, 35, 36, 37, 38, 39, 40, 41, 42, 43, 44, 45, 46, 47, 48, 49, 50, 51, 52, 53, 54, 55, 56, 57, 58, 59, 60, 61, 62, 63, 64, 65, 66, 67, 68, 69, 70, 71, 72, 73, 74, 75, 76, 77, 78, 79, 80, 81, 82, 83, 84, 85, 86, 87, 88, 89, 90, 91, 92, 93, 94, 95, 96, 97, 98, 99, 100, 101, 102, 103, 104, 105, 106, 107, 108] (by decide +kernel) (by decide +kernel)) (goodIn_sub (fun _ h => List.mem_cons_of_mem _ (List.mem_append_left _ (List.mem_append_left _ (List.mem_append_right _ h)))) (by decide +kernel))) (goodIn_sub (fun _ h => List.mem_cons_of_mem _ (List.mem_append_left _ (List.mem_append_right _ h))) (by decide +kernel))) (goodIn_sub (fun _ h => List.mem_cons_of_mem _ (List.mem_append_left _ (List.mem_append_left _ (List.mem_append_left _ (List.mem_append_right _ h))))) (by decide +kernel))) (goodIn_sub (fun _ h => List.mem_cons_of_mem _ (List.mem_append_right _ h)) (by decide +kernel))
set_option maxRecDepth 20000 in
theorem gL_approve_X3_approve : GoodIn wsL_approve (wsV RL 68 RX3 yX3_approve wsX3_approve) := goodIn_app (goodIn_of _ (by decide +kernel)) ggL_approve_X3_approve
theorem dL_approve_0 : decode cL_approve 0 = .ok (.aload 4, 2) := by decide +kernel
theorem dL_approve_2 : decode cL_approve 2 = .ok (.iconst 0, 1) := by decide +kernel
theorem dL_approve_3 : decode cL_approve 3 = .ok (.aload_n 0, 1) := by decide +kernel
theorem dL_approve_4 : decode cL_approve 4 = .ok (.iload_n 1, 1) := by decide +kernel
theorem dL_approve_5 : decode cL_approve 5 = .ok (.iload_n 2, 1) := by decide +kernel
theorem dL_approve_6 : decode cL_approve 6 = .ok (.iload_n 3, 1) := by decide +kernel
theorem dL_approve_7 : decode cL_approve 7 = .ok (.invokevirtual 68, 3) := by decide +kernel
theorem dL_approve_10 : decode cL_approve 10 = .ok (.i2l, 1) := by decide +kernel
theorem dL_approve_11 : decode cL_approve 11 = .ok (.lastore, 1) := by decide +kernel
theorem dL_approve_12 : decode cL_approve 12 = .ok (.goto 15, 3) := by decide +kernel
theorem dL_approve_15 : decode cL_approve 15 = .ok (.astore 5, 2) := by decide +kernel
theorem dL_approve_17 : decode cL_approve 17 = .ok (.iconst 1, 1) := by decide +kernel
theorem dL_approve_18 : decode cL_approve 18 = .ok (.ireturn, 1) := by decide +kernel
theorem dL_approve_19 : decode cL_approve 19 = .ok (.astore 5, 2) := by decide +kernel
theorem dL_approve_21 : decode cL_approve 21 = .ok (.iconst 2, 1) := by decide +kernel
theorem dL_approve_22 : decode cL_approve 22 = .ok (.ireturn, 1) := by decide +kernel
theorem dL_approve_23 : decode cL_approve 23 = .ok (.astore 5, 2) := by decide +kernel
theorem dL_approve_25 : decode cL_approve 25 = .ok (.iconst 3, 1) := by decide +kernel
theorem dL_approve_26 : decode cL_approve 26 = .ok (.ireturn, 1) := by decide +kernel
theorem dL_approve_27 : decode cL_approve 27 = .ok (.iconst 0, 1) := by decide +kernel
theorem dL_approve_28 : decode cL_approve 28 = .ok (.ireturn, 1) := by decide +kernel
set_option maxRecDepth 20000 in
theorem ggL_state_X3_state : GoodIn wsL_state wsX3_state := goodIn_ca (goodIn_ca (goodIn_r _ [6, 7, 8, 9, 10, 5, 11, 12, 13, 14, 15, 16, 17, 18, 19, 20, 21, 22, 23, 24, 25, 26, 27, 28, 29, 30, 31, 32, 33, 34, 35, 36, 37] (by decide +kernel) (by decide +kernel)) (goodIn_sub (fun _ h => List.mem_cons_of_mem _ (List.mem_append_left _ (List.mem_append_right _ h))) (by decide +kernel))) (goodIn_sub (fun _ h => List.mem_cons_of_mem _ (List.mem_append_right _ h)) (by decide +kernel))
set_option maxRecDepth 20000 in
theorem gL_state_X3_state : GoodIn wsL_state (wsV RL 71 RX3 yX3_state wsX3_state) := goodIn_app (goodIn_of _ (by decide +kernel)) ggL_state_X3_state
theorem dL_state_0 : decode cL_state 0 = .ok (.aload_n 3, 1) := by decide +kernel
theorem dL_state_1 : decode cL_state 1 = .ok (.iconst 0, 1) := by decide +kernel
theorem dL_state_2 : decode cL_state 2 = .ok (.aload_n 0, 1) := by decide +kernel
theorem dL_state_3 : decode cL_state 3 = .ok (.iload_n 1, 1) := by decide +kernel
theorem dL_state_4 : decode cL_state 4 = .ok (.iload_n 2, 1) := by decide +kernel
theorem dL_state_5 : decode cL_state 5 = .ok (.invokevirtual 71, 3) := by decide +kernel
theorem dL_state_8 : decode cL_state 8 = .ok (.i2l, 1) := by decide +kernel
theorem dL_state_9 : decode cL_state 9 = .ok (.lastore, 1) := by decide +kernel
theorem dL_state_10 : decode cL_state 10 = .ok (.goto 7, 3) := by decide +kernel
theorem dL_state_13 : decode cL_state 13 = .ok (.astore 4, 2) := by decide +kernel
theorem dL_state_15 : decode cL_state 15 = .ok (.iconst 1, 1) := by decide +kernel
theorem dL_state_16 : decode cL_state 16 = .ok (.ireturn, 1) := by decide +kernel
theorem dL_state_17 : decode cL_state 17 = .ok (.iconst 0, 1) := by decide +kernel
theorem dL_state_18 : decode cL_state 18 = .ok (.ireturn, 1) := by decide +kernel
set_option maxRecDepth 20000 in
theorem ggL_drift_X3_drift : GoodIn wsL_drift wsX3_drift := goodIn_ca (goodIn_ca (goodIn_ca (goodIn_ca (goodIn_r _ [8, 9, 10, 11, 12, 13, 14, 7, 15, 16, 17, 18, 19, 20, 21, 22, 23, 24, 25, 26, 27, 28, 29, 30, 31, 32, 33, 34, 35, 36, 37, 38, 39, 40, 41, 42, 43, 44, 45, 46, 47, 48, 49, 50, 51, 52, 53, 54, 55, 56, 57, 58, 59, 60, 61, 62, 63, 64, 65, 66, 67, 68, 69, 70, 71, 72, 73, 74, 75, 76, 77, 78, 79, 80, 81, 82, 83, 84, 85, 86, 87, 88, 89, 90, 91, 92, 93, 94, 95, 96, 97, 98, 99, 100, 101] (by decide +kernel) (by decide +kernel)) (goodIn_sub (fun _ h => List.mem_cons_of_mem _ (List.mem_append_left _ (List.mem_append_left _ (List.mem_append_left _ (List.mem_append_right _ h))))) (by decide +kernel))) (goodIn_sub (fun _ h => List.mem_cons_of_mem _ (List.mem_append_left _ (List.mem_append_left _ (List.mem_append_right _ h)))) (by decide +kernel))) (goodIn_sub (fun _ h => List.mem_cons_of_mem _ (List.mem_append_left _ (List.mem_append_right _ h))) (by decide +kernel))) (goodIn_sub (fun _ h => List.mem_cons_of_mem _ (List.mem_append_right _ h)) (by decide +kernel))
set_option maxRecDepth 20000 in
theorem gL_drift_X3_drift : GoodIn wsL_drift (wsV RL 75 RX3 yX3_drift wsX3_drift) := goodIn_app (goodIn_of _ (by decide +kernel)) ggL_drift_X3_drift
theorem dL_drift_0 : decode cL_drift 0 = .ok (.aload_n 3, 1) := by decide +kernel
theorem dL_drift_1 : decode cL_drift 1 = .ok (.iconst 0, 1) := by decide +kernel
theorem dL_drift_2 : decode cL_drift 2 = .ok (.aload_n 0, 1) := by decide +kernel
theorem dL_drift_3 : decode cL_drift 3 = .ok (.iload_n 1, 1) := by decide +kernel
theorem dL_drift_4 : decode cL_drift 4 = .ok (.iload_n 2, 1) := by decide +kernel
theorem dL_drift_5 : decode cL_drift 5 = .ok (.invokevirtual 75, 3) := by decide +kernel
theorem dL_drift_8 : decode cL_drift 8 = .ok (.i2l, 1) := by decide +kernel
theorem dL_drift_9 : decode cL_drift 9 = .ok (.lastore, 1) := by decide +kernel
theorem dL_drift_10 : decode cL_drift 10 = .ok (.goto 15, 3) := by decide +kernel
theorem dL_drift_13 : decode cL_drift 13 = .ok (.astore 4, 2) := by decide +kernel
theorem dL_drift_15 : decode cL_drift 15 = .ok (.iconst 1, 1) := by decide +kernel
theorem dL_drift_16 : decode cL_drift 16 = .ok (.ireturn, 1) := by decide +kernel
theorem dL_drift_17 : decode cL_drift 17 = .ok (.astore 4, 2) := by decide +kernel
theorem dL_drift_19 : decode cL_drift 19 = .ok (.iconst 2, 1) := by decide +kernel
theorem dL_drift_20 : decode cL_drift 20 = .ok (.ireturn, 1) := by decide +kernel
theorem dL_drift_21 : decode cL_drift 21 = .ok (.astore 4, 2) := by decide +kernel
theorem dL_drift_23 : decode cL_drift 23 = .ok (.iconst 3, 1) := by decide +kernel
theorem dL_drift_24 : decode cL_drift 24 = .ok (.ireturn, 1) := by decide +kernel
theorem dL_drift_25 : decode cL_drift 25 = .ok (.iconst 0, 1) := by decide +kernel
theorem dL_drift_26 : decode cL_drift 26 = .ok (.ireturn, 1) := by decide +kernel
set_option maxRecDepth 20000 in
theorem ggL_approvedShare_X3_approvedShare : GoodIn wsL_approvedShare wsX3_approvedShare := goodIn_ca (goodIn_ca (goodIn_r _ [6, 7, 8, 9, 10, 11, 12, 13, 14, 15, 16, 17, 18, 19, 20, 21, 22, 23, 24] (by decide +kernel) (by decide +kernel)) (goodIn_sub (fun _ h => List.mem_cons_of_mem _ (List.mem_append_right _ h)) (by decide +kernel))) (goodIn_sub (fun _ h => List.mem_cons_of_mem _ (List.mem_append_left _ (List.mem_append_right _ h))) (by decide +kernel))
set_option maxRecDepth 20000 in
theorem gL_approvedShare_X3_approvedShare : GoodIn wsL_approvedShare (wsV RL 78 RX3 yX3_approvedShare wsX3_approvedShare) := goodIn_app (goodIn_of _ (by decide +kernel)) ggL_approvedShare_X3_approvedShare
theorem dL_approvedShare_0 : decode cL_approvedShare 0 = .ok (.aload_n 1, 1) := by decide +kernel
theorem dL_approvedShare_1 : decode cL_approvedShare 1 = .ok (.iconst 0, 1) := by decide +kernel
theorem dL_approvedShare_2 : decode cL_approvedShare 2 = .ok (.aload_n 0, 1) := by decide +kernel
theorem dL_approvedShare_3 : decode cL_approvedShare 3 = .ok (.invokevirtual 78, 3) := by decide +kernel
theorem dL_approvedShare_6 : decode cL_approvedShare 6 = .ok (.f2d, 1) := by decide +kernel
theorem dL_approvedShare_7 : decode cL_approvedShare 7 = .ok (.dastore, 1) := by decide +kernel
theorem dL_approvedShare_8 : decode cL_approvedShare 8 = .ok (.goto 6, 3) := by decide +kernel
theorem dL_approvedShare_11 : decode cL_approvedShare 11 = .ok (.astore_n 2, 1) := by decide +kernel
theorem dL_approvedShare_12 : decode cL_approvedShare 12 = .ok (.iconst 1, 1) := by decide +kernel
theorem dL_approvedShare_13 : decode cL_approvedShare 13 = .ok (.ireturn, 1) := by decide +kernel
theorem dL_approvedShare_14 : decode cL_approvedShare 14 = .ok (.iconst 0, 1) := by decide +kernel
theorem dL_approvedShare_15 : decode cL_approvedShare 15 = .ok (.ireturn, 1) := by decide +kernel
set_option maxRecDepth 20000 in
theorem ggL_meanTolerance_X3_meanTolerance : GoodIn wsL_meanTolerance wsX3_meanTolerance := goodIn_ca (goodIn_ca (goodIn_r _ [6, 7, 8, 9, 10, 11, 12, 13, 14, 15, 16, 17, 18, 19, 20, 21, 22, 23, 24, 25, 26, 27, 28] (by decide +kernel) (by decide +kernel)) (goodIn_sub (fun _ h => List.mem_cons_of_mem _ (List.mem_append_right _ h)) (by decide +kernel))) (goodIn_sub (fun _ h => List.mem_cons_of_mem _ (List.mem_append_left _ (List.mem_append_right _ h))) (by decide +kernel))
set_option maxRecDepth 20000 in
theorem gL_meanTolerance_X3_meanTolerance : GoodIn wsL_meanTolerance (wsV RL 84 RX3 yX3_meanTolerance wsX3_meanTolerance) := goodIn_app (goodIn_of _ (by decide +kernel)) ggL_meanTolerance_X3_meanTolerance
theorem dL_meanTolerance_0 : decode cL_meanTolerance 0 = .ok (.aload_n 1, 1) := by decide +kernel
theorem dL_meanTolerance_1 : decode cL_meanTolerance 1 = .ok (.iconst 0, 1) := by decide +kernel
theorem dL_meanTolerance_2 : decode cL_meanTolerance 2 = .ok (.aload_n 0, 1) := by decide +kernel
theorem dL_meanTolerance_3 : decode cL_meanTolerance 3 = .ok (.invokevirtual 84, 3) := by decide +kernel
theorem dL_meanTolerance_6 : decode cL_meanTolerance 6 = .ok (.dastore, 1) := by decide +kernel
theorem dL_meanTolerance_7 : decode cL_meanTolerance 7 = .ok (.goto 6, 3) := by decide +kernel
theorem dL_meanTolerance_10 : decode cL_meanTolerance 10 = .ok (.astore_n 2, 1) := by decide +kernel
theorem dL_meanTolerance_11 : decode cL_meanTolerance 11 = .ok (.iconst 1, 1) := by decide +kernel
theorem dL_meanTolerance_12 : decode cL_meanTolerance 12 = .ok (.ireturn, 1) := by decide +kernel
theorem dL_meanTolerance_13 : decode cL_meanTolerance 13 = .ok (.iconst 0, 1) := by decide +kernel
theorem dL_meanTolerance_14 : decode cL_meanTolerance 14 = .ok (.ireturn, 1) := by decide +kernel
set_option maxRecDepth 20000 in
theorem ggL_law_X3_init : GoodIn wsL_law wsX3_init := goodIn_ca (goodIn_r _ [10, 11, 12, 13, 14, 15, 16, 17, 18, 19, 20, 21, 22, 23, 24, 25, 26, 27, 28, 29, 30, 31, 32, 33, 34, 35, 36, 37, 38, 39, 40, 41, 42, 43, 44, 45, 46, 47, 48, 49, 50, 51, 52, 53, 485, 486, 487, 488, 489, 490, 491, 514, 515, 516, 517, 518, 519, 520, 521, 522, 523, 524, 525, 526, 527, 528] (by decide +kernel) (by decide +kernel)) (goodIn_sub (fun _ h => List.mem_append_left _ (List.mem_append_left _ (List.mem_append_left _ (List.mem_append_left _ (List.mem_append_left _ (List.mem_append_left _ (List.mem_append_right _ h))))))) (by decide +kernel))
set_option maxRecDepth 20000 in
theorem gL_law_X3_init : GoodIn wsL_law (wsX3_init) := ggL_law_X3_init
set_option maxRecDepth 20000 in
theorem ggL_law_X4_init : GoodIn wsL_law wsX4_init := goodIn_ca (goodIn_r _ [56, 57, 12, 13, 14, 58, 59, 60, 61, 62, 63, 64, 65, 66, 67, 68, 69, 44, 70, 71, 39, 72, 6, 73, 74, 75, 76, 77, 78, 79, 492, 493, 494, 495, 496, 497, 498, 499, 500, 501, 502, 503, 504, 505, 506, 507, 508, 509, 510, 511, 512, 513] (by decide +kernel) (by decide +kernel)) (goodIn_sub (fun _ h => List.mem_append_left _ (List.mem_append_left _ (List.mem_append_left _ (List.mem_append_left _ (List.mem_append_left _ (List.mem_append_left _ (List.mem_append_right _ h))))))) (by decide +kernel))
set_option maxRecDepth 20000 in
theorem gL_law_X4_init : GoodIn wsL_law (wsX4_init) := ggL_law_X4_init
set_option maxRecDepth 20000 in
theorem ggL_law_L_addDriver : GoodIn wsL_law wsL_addDriver := goodIn_ca (goodIn_ca (goodIn_ca (goodIn_r _ [83, 84, 85, 86, 87, 88, 2, 89, 90, 91, 92, 15, 93, 94, 95, 96, 97, 485, 486, 487, 488, 489, 490, 491] (by decide +kernel) (by decide +kernel)) (goodIn_sub (fun _ h => List.mem_append_left _ (List.mem_append_left _ (List.mem_append_left _ (List.mem_append_left _ (List.mem_append_left _ (List.mem_append_left _ (List.mem_append_right _ h))))))) (by decide +kernel))) (goodIn_sub (fun _ h => List.mem_append_left _ (List.mem_append_left _ (List.mem_append_left _ (List.mem_append_left _ (List.mem_append_left _ (List.mem_append_right _ h)))))) (by decide +kernel))) (goodIn_sub (fun _ h => List.mem_append_left _ (List.mem_append_left _ (List.mem_append_left _ (List.mem_append_left _ (List.mem_append_right _ h))))) (by decide +kernel))
set_option maxRecDepth 20000 in
theorem gL_law_L_addDriver : GoodIn wsL_law (va_wsS RL 92 yL_addDriver wsL_addDriver) := goodIn_app (goodIn_of _ (by decide +kernel)) ggL_law_L_addDriver
set_option maxRecDepth 20000 in
theorem ggL_law_X4_addDriver : GoodIn wsL_law wsX4_addDriver := goodIn_ca (goodIn_r _ [101, 75, 74, 58, 102, 103, 5, 104, 492, 493, 494, 495, 496, 497, 498, 499, 500, 501, 502, 503, 504, 505, 506, 507, 508, 509, 510, 511, 512, 513] (by decide +kernel) (by decide +kernel)) (goodIn_sub (fun _ h => List.mem_append_left _ (List.mem_append_left _ (List.mem_append_left _ (List.mem_append_left _ (List.mem_append_left _ (List.mem_append_left _ (List.mem_append_right _ h))))))) (by decide +kernel))
set_option maxRecDepth 20000 in
theorem gL_law_X4_addDriver : GoodIn wsL_law (wsV RL 97 RX4 yX4_addDriver wsX4_addDriver) := goodIn_app (goodIn_of _ (by decide +kernel)) ggL_law_X4_addDriver
set_option maxRecDepth 20000 in
theorem ggL_law_X4_thrown : GoodIn wsL_law wsX4_thrown := goodIn_r _ [108, 74, 492, 493, 494, 495, 496, 497, 498, 499, 500, 501, 502, 503, 504, 505, 506, 507, 508, 509, 510, 511, 512, 513] (by decide +kernel) (by decide +kernel)
set_option maxRecDepth 20000 in
theorem gL_law_X4_thrown : GoodIn wsL_law (wsV RL 98 RX4 yX4_thrown wsX4_thrown) := goodIn_app (goodIn_of _ (by decide +kernel)) ggL_law_X4_thrown
set_option maxRecDepth 20000 in
theorem ggL_law_L_setDriver : GoodIn wsL_law wsL_setDriver := goodIn_ca (goodIn_ca (goodIn_ca (goodIn_r _ [111, 112, 84, 113, 114, 115, 2, 116, 15, 117, 118, 119, 120, 121, 122, 92, 93, 94, 95, 96, 97, 123, 124, 125, 126, 23, 28, 27, 127, 128, 129, 130, 131, 132, 133, 134, 19, 135, 18, 136, 137, 34, 32, 138, 139, 140, 141, 22, 142, 143, 144, 46, 145, 146, 147, 148, 43, 47, 40, 41, 42, 149, 150, 151, 152, 153, 154, 155, 156, 157, 158, 26, 159, 160, 51, 161, 162, 163, 164, 165, 52, 166, 167, 168, 169, 53, 485, 486, 487, 488, 489, 490, 491, 519, 520, 521, 522, 523, 524, 525, 514, 515, 516, 517, 518, 526, 527, 528] (by decide +kernel) (by decide +kernel)) (goodIn_sub (fun _ h => List.mem_append_left _ (List.mem_append_left _ (List.mem_append_left _ (List.mem_append_left _ (List.mem_append_left _ (List.mem_append_left _ (List.mem_append_right _ h))))))) (by decide +kernel))) (goodIn_sub (fun _ h => List.mem_append_left _ (List.mem_append_left _ (List.mem_append_left _ (List.mem_append_right _ h)))) (by decide +kernel))) (goodIn_sub (fun _ h => List.mem_append_left _ (List.mem_append_left _ (List.mem_append_left _ (List.mem_append_left _ (List.mem_append_right _ h))))) (by decide +kernel))
set_option maxRecDepth 20000 in
theorem gL_law_L_setDriver : GoodIn wsL_law (va_wsS RL 101 yL_setDriver wsL_setDriver) := goodIn_app (goodIn_of _ (by decide +kernel)) ggL_law_L_setDriver
set_option maxRecDepth 20000 in
theorem ggL_law_X4_setDriver : GoodIn wsL_law wsX4_setDriver := goodIn_ca (goodIn_r _ [173, 74, 58, 174, 175, 176, 5, 177, 75, 102, 103, 104, 178, 179, 180, 181, 76, 72, 73, 68, 69, 182, 183, 184, 185, 186, 187, 188, 70, 59, 71, 60, 61, 67, 189, 190, 191, 192, 193, 194, 195, 196, 197, 198, 199, 78, 64, 65, 63, 66, 200, 201, 202, 203, 62, 492, 493, 494, 495, 496, 497, 498, 499, 500, 501, 502, 503, 504, 505, 506, 507, 508, 509, 510, 511, 512, 513] (by decide +kernel) (by decide +kernel)) (goodIn_sub (fun _ h => List.mem_append_left _ (List.mem_append_left _ (List.mem_append_left _ (List.mem_append_left _ (List.mem_append_left _ (List.mem_append_left _ (List.mem_append_right _ h))))))) (by decide +kernel))
set_option maxRecDepth 20000 in
theorem gL_law_X4_setDriver : GoodIn wsL_law (wsV RL 104 RX4 yX4_setDriver wsX4_setDriver) := goodIn_app (goodIn_of _ (by decide +kernel)) ggL_law_X4_setDriver
set_option maxRecDepth 20000 in
theorem ggL_law_L_driver : GoodIn wsL_law wsL_driver := goodIn_ca (goodIn_ca (goodIn_r _ [206, 112, 207, 208, 209, 2, 210, 211, 212, 213, 214, 121, 122, 19, 117, 118, 119, 120, 92, 215, 216, 217, 131, 132, 133, 134, 15, 135, 18, 136, 137, 34, 32, 138, 139, 140, 485, 486, 487, 488, 489, 490, 491, 514, 515, 516, 517, 518] (by decide +kernel) (by decide +kernel)) (goodIn_sub (fun _ h => List.mem_append_left _ (List.mem_append_left _ (List.mem_append_left _ (List.mem_append_left _ (List.mem_append_left _ (List.mem_append_left _ (List.mem_append_right _ h))))))) (by decide +kernel))) (goodIn_sub (fun _ h => List.mem_append_left _ (List.mem_append_left _ (List.mem_append_left _ (List.mem_append_right _ h)))) (by decide +kernel))
set_option maxRecDepth 20000 in
theorem gL_law_L_driver : GoodIn wsL_law (va_wsS RL 105 yL_driver wsL_driver) := goodIn_app (goodIn_of _ (by decide +kernel)) ggL_law_L_driver
set_option maxRecDepth 20000 in
theorem ggL_law_X4_driver : GoodIn wsL_law wsX4_driver := goodIn_ca (goodIn_r _ [221, 222, 223, 224, 5, 225, 77, 102, 103, 104, 174, 175, 176, 177, 75, 226, 227, 228, 229, 230, 231, 232, 74, 196, 197, 198, 199, 58, 78, 64, 65, 63, 66, 200, 201, 202, 203, 62, 492, 493, 494, 495, 496, 497, 498, 499, 500, 501, 502, 503, 504, 505, 506, 507, 508, 509, 510, 511, 512, 513] (by decide +kernel) (by decide +kernel)) (goodIn_sub (fun _ h => List.mem_append_left _ (List.mem_append_left _ (List.mem_append_left _ (List.mem_append_left _ (List.mem_append_left _ (List.mem_append_left _ (List.mem_append_right _ h))))))) (by decide +kernel))
set_option maxRecDepth 20000 in
theorem gL_law_X4_driver : GoodIn wsL_law (wsV RL 108 RX4 yX4_driver wsX4_driver) := goodIn_app (goodIn_of _ (by decide +kernel)) ggL_law_X4_driver
set_option maxRecDepth 20000 in
theorem ggL_law_L_addLine : GoodIn wsL_law wsL_addLine := goodIn_ca (goodIn_ca (goodIn_ca (goodIn_ca (goodIn_r _ [235, 84, 112, 85, 236, 237, 238, 2, 239, 96, 97, 90, 91, 23, 117, 118, 119, 120, 121, 122, 92, 240, 241, 242, 243, 244, 22, 245, 246, 40, 144, 41, 42, 485, 486, 487, 488, 489, 490, 491, 519, 520, 521, 522, 523, 524, 525] (by decide +kernel) (by decide +kernel)) (goodIn_sub (fun _ h => List.mem_append_left _ (List.mem_append_left _ (List.mem_append_left _ (List.mem_append_left _ (List.mem_append_left _ (List.mem_append_left _ (List.mem_append_right _ h))))))) (by decide +kernel))) (goodIn_sub (fun _ h => List.mem_append_left _ (List.mem_append_left _ (List.mem_append_left _ (List.mem_append_left _ (List.mem_append_right _ h))))) (by decide +kernel))) (goodIn_sub (fun _ h => List.mem_append_left _ (List.mem_append_left _ (List.mem_append_left _ (List.mem_append_left _ (List.mem_append_left _ (List.mem_append_right _ h)))))) (by decide +kernel))) (goodIn_sub (fun _ h => List.mem_append_left _ (List.mem_append_left _ (List.mem_append_left _ (List.mem_append_right _ h)))) (by decide +kernel))
set_option maxRecDepth 20000 in
theorem gL_law_L_addLine : GoodIn wsL_law (va_wsS RL 109 yL_addLine wsL_addLine) := goodIn_app (goodIn_of _ (by decide +kernel)) ggL_law_L_addLine
set_option maxRecDepth 20000 in
theorem ggL_law_X4_addLine : GoodIn wsL_law wsX4_addLine := goodIn_ca (goodIn_r _ [250, 76, 74, 59, 60, 61, 174, 175, 176, 5, 177, 75, 102, 103, 104, 251, 252, 253, 254, 492, 493, 494, 495, 496, 497, 498, 499, 500, 501, 502, 503, 504, 505, 506, 507, 508, 509, 510, 511, 512, 513] (by decide +kernel) (by decide +kernel)) (goodIn_sub (fun _ h => List.mem_append_left _ (List.mem_append_left _ (List.mem_append_left _ (List.mem_append_left _ (List.mem_append_left _ (List.mem_append_left _ (List.mem_append_right _ h))))))) (by decide +kernel))
set_option maxRecDepth 20000 in
theorem gL_law_X4_addLine : GoodIn wsL_law (wsV RL 112 RX4 yX4_addLine wsX4_addLine) := goodIn_app (goodIn_of _ (by decide +kernel)) ggL_law_X4_addLine
set_option maxRecDepth 20000 in
theorem ggL_law_L_addScenario : GoodIn wsL_law wsL_addScenario := goodIn_ca (goodIn_ca (goodIn_ca (goodIn_r _ [257, 112, 85, 258, 259, 260, 2, 261, 90, 91, 19, 211, 212, 213, 214, 121, 122, 262, 18, 263, 264, 32, 35, 485, 486, 487, 488, 489, 490, 491, 514, 515, 516, 517, 518] (by decide +kernel) (by decide +kernel)) (goodIn_sub (fun _ h => List.mem_append_left _ (List.mem_append_left _ (List.mem_append_left _ (List.mem_append_left _ (List.mem_append_left _ (List.mem_append_left _ (List.mem_append_right _ h))))))) (by decide +kernel))) (goodIn_sub (fun _ h => List.mem_append_left _ (List.mem_append_left _ (List.mem_append_left _ (List.mem_append_left _ (List.mem_append_left _ (List.mem_append_right _ h)))))) (by decide +kernel))) (goodIn_sub (fun _ h => List.mem_append_left _ (List.mem_append_left _ (List.mem_append_left _ (List.mem_append_right _ h)))) (by decide +kernel))
set_option maxRecDepth 20000 in
theorem gL_law_L_addScenario : GoodIn wsL_law (va_wsS RL 113 yL_addScenario wsL_addScenario) := goodIn_app (goodIn_of _ (by decide +kernel)) ggL_law_L_addScenario
set_option maxRecDepth 20000 in
theorem ggL_law_X4_addScenario : GoodIn wsL_law wsX4_addScenario := goodIn_ca (goodIn_r _ [268, 77, 74, 62, 222, 223, 224, 5, 225, 102, 103, 104, 492, 493, 494, 495, 496, 497, 498, 499, 500, 501, 502, 503, 504, 505, 506, 507, 508, 509, 510, 511, 512, 513] (by decide +kernel) (by decide +kernel)) (goodIn_sub (fun _ h => List.mem_append_left _ (List.mem_append_left _ (List.mem_append_left _ (List.mem_append_left _ (List.mem_append_left _ (List.mem_append_left _ (List.mem_append_right _ h))))))) (by decide +kernel))
set_option maxRecDepth 20000 in
theorem gL_law_X4_addScenario : GoodIn wsL_law (wsV RL 115 RX4 yX4_addScenario wsX4_addScenario) := goodIn_app (goodIn_of _ (by decide +kernel)) ggL_law_X4_addScenario
set_option maxRecDepth 20000 in
theorem ggL_law_L_differ : GoodIn wsL_law wsL_differ := goodIn_ca (goodIn_ca (goodIn_ca (goodIn_ca (goodIn_ca (goodIn_r _ [271, 112, 84, 272, 85, 273, 274, 275, 2, 276, 96, 97, 277, 278, 90, 91, 19, 211, 212, 213, 214, 121, 122, 117, 118, 119, 120, 92, 215, 216, 217, 279, 18, 280, 281, 34, 282, 33, 138, 139, 140, 485, 486, 487, 488, 489, 490, 491, 514, 515, 516, 517, 518] (by decide +kernel) (by decide +kernel)) (goodIn_sub (fun _ h => List.mem_append_left _ (List.mem_append_left _ (List.mem_append_left _ (List.mem_append_left _ (List.mem_append_left _ (List.mem_append_left _ (List.mem_append_right _ h))))))) (by decide +kernel))) (goodIn_sub (fun _ h => List.mem_append_left _ (List.mem_append_left _ (List.mem_append_left _ (List.mem_append_left _ (List.mem_append_right _ h))))) (by decide +kernel))) (goodIn_sub (fun _ h => List.mem_append_left _ (List.mem_append_left _ (List.mem_append_right _ h))) (by decide +kernel))) (goodIn_sub (fun _ h => List.mem_append_left _ (List.mem_append_left _ (List.mem_append_left _ (List.mem_append_left _ (List.mem_append_left _ (List.mem_append_right _ h)))))) (by decide +kernel))) (goodIn_sub (fun _ h => List.mem_append_left _ (List.mem_append_left _ (List.mem_append_left _ (List.mem_append_right _ h)))) (by decide +kernel))
set_option maxRecDepth 20000 in
theorem gL_law_L_differ : GoodIn wsL_law (va_wsS RL 116 yL_differ wsL_differ) := goodIn_app (goodIn_of _ (by decide +kernel)) ggL_law_L_differ
set_option maxRecDepth 20000 in
theorem ggL_law_X4_differ : GoodIn wsL_law wsX4_differ := goodIn_ca (goodIn_r _ [286, 78, 74, 63, 64, 65, 66, 222, 223, 224, 5, 225, 77, 102, 103, 104, 174, 175, 176, 177, 75, 226, 227, 228, 492, 493, 494, 495, 496, 497, 498, 499, 500, 501, 502, 503, 504, 505, 506, 507, 508, 509, 510, 511, 512, 513] (by decide +kernel) (by decide +kernel)) (goodIn_sub (fun _ h => List.mem_append_left _ (List.mem_append_left _ (List.mem_append_left _ (List.mem_append_left _ (List.mem_append_left _ (List.mem_append_left _ (List.mem_append_right _ h))))))) (by decide +kernel))
set_option maxRecDepth 20000 in
theorem gL_law_X4_differ : GoodIn wsL_law (wsV RL 119 RX4 yX4_differ wsX4_differ) := goodIn_app (goodIn_of _ (by decide +kernel)) ggL_law_X4_differ
set_option maxRecDepth 20000 in
theorem ggL_law_L_number : GoodIn wsL_law wsL_number := goodIn_ca (goodIn_ca (goodIn_ca (goodIn_r _ [289, 112, 272, 290, 291, 292, 2, 293, 211, 212, 213, 214, 121, 122, 19, 240, 241, 242, 243, 23, 215, 216, 217, 294, 295, 296, 297, 28, 127, 128, 129, 130, 92, 15, 131, 132, 133, 134, 135, 18, 136, 137, 34, 32, 138, 139, 140, 298, 22, 299, 300, 45, 40, 43, 47, 41, 42, 149, 150, 301, 302, 303, 46, 145, 146, 147, 148, 151, 152, 153, 154, 155, 156, 304, 305, 306, 277, 278, 307, 485, 486, 487, 488, 489, 490, 491, 514, 515, 516, 517, 518, 519, 520, 521, 522, 523, 524, 525] (by decide +kernel) (by decide +kernel)) (goodIn_sub (fun _ h => List.mem_append_left _ (List.mem_append_left _ (List.mem_append_left _ (List.mem_append_left _ (List.mem_append_left _ (List.mem_append_left _ (List.mem_append_right _ h))))))) (by decide +kernel))) (goodIn_sub (fun _ h => List.mem_append_left _ (List.mem_append_left _ (List.mem_append_left _ (List.mem_append_right _ h)))) (by decide +kernel))) (goodIn_sub (fun _ h => List.mem_append_left _ (List.mem_append_left _ (List.mem_append_right _ h))) (by decide +kernel))
set_option maxRecDepth 20000 in
theorem gL_law_L_number : GoodIn wsL_law (va_wsS RL 120 yL_number wsL_number) := goodIn_app (goodIn_of _ (by decide +kernel)) ggL_law_L_number
set_option maxRecDepth 20000 in
theorem ggL_law_X4_number : GoodIn wsL_law wsX4_number := goodIn_ca (goodIn_r _ [311, 74, 73, 222, 223, 224, 5, 225, 77, 102, 103, 104, 251, 252, 253, 254, 76, 226, 227, 228, 185, 186, 187, 188, 70, 59, 71, 60, 61, 67, 189, 190, 182, 183, 184, 191, 192, 193, 194, 195, 196, 197, 198, 199, 58, 78, 64, 65, 63, 66, 200, 201, 202, 203, 62, 492, 493, 494, 495, 496, 497, 498, 499, 500, 501, 502, 503, 504, 505, 506, 507, 508, 509, 510, 511, 512, 513] (by decide +kernel) (by decide +kernel)) (goodIn_sub (fun _ h => List.mem_append_left _ (List.mem_append_left _ (List.mem_append_left _ (List.mem_append_left _ (List.mem_append_left _ (List.mem_append_left _ (List.mem_append_right _ h))))))) (by decide +kernel))
set_option maxRecDepth 20000 in
theorem gL_law_X4_number : GoodIn wsL_law (wsV RL 122 RX4 yX4_number wsX4_number) := goodIn_app (goodIn_of _ (by decide +kernel)) ggL_law_X4_number
set_option maxRecDepth 20000 in
theorem ggL_law_L_numberByHand : GoodIn wsL_law wsL_numberByHand := goodIn_ca (goodIn_ca (goodIn_ca (goodIn_r _ [314, 112, 272, 315, 316, 317, 2, 318, 23, 28, 211, 212, 213, 214, 121, 122, 19, 240, 241, 242, 243, 215, 216, 217, 127, 128, 129, 130, 92, 15, 131, 132, 133, 134, 135, 18, 136, 137, 34, 32, 138, 139, 140, 141, 22, 142, 143, 144, 46, 145, 146, 147, 148, 43, 47, 40, 41, 42, 149, 150, 151, 152, 153, 154, 155, 156, 304, 305, 306, 277, 278, 307, 485, 486, 487, 488, 489, 490, 491, 519, 520, 521, 522, 523, 524, 525, 514, 515, 516, 517, 518] (by decide +kernel) (by decide +kernel)) (goodIn_sub (fun _ h => List.mem_append_left _ (List.mem_append_left _ (List.mem_append_left _ (List.mem_append_left _ (List.mem_append_left _ (List.mem_append_left _ (List.mem_append_right _ h))))))) (by decide +kernel))) (goodIn_sub (fun _ h => List.mem_append_left _ (List.mem_append_left _ (List.mem_append_left _ (List.mem_append_right _ h)))) (by decide +kernel))) (goodIn_sub (fun _ h => List.mem_append_left _ (List.mem_append_left _ (List.mem_append_right _ h))) (by decide +kernel))
set_option maxRecDepth 20000 in
theorem gL_law_L_numberByHand : GoodIn wsL_law (va_wsS RL 123 yL_numberByHand wsL_numberByHand) := goodIn_app (goodIn_of _ (by decide +kernel)) ggL_law_L_numberByHand
set_option maxRecDepth 20000 in
theorem ggL_law_X4_numberByHand : GoodIn wsL_law wsX4_numberByHand := goodIn_ca (goodIn_r _ [322, 323, 309, 310, 5, 311, 74, 73, 222, 223, 224, 225, 77, 102, 103, 104, 251, 252, 253, 254, 76, 226, 227, 228, 185, 186, 187, 188, 70, 59, 71, 60, 61, 67, 189, 190, 182, 183, 184, 191, 192, 193, 194, 195, 196, 197, 198, 199, 58, 78, 64, 65, 63, 66, 200, 201, 202, 203, 62, 492, 493, 494, 495, 496, 497, 498, 499, 500, 501, 502, 503, 504, 505, 506, 507, 508, 509, 510, 511, 512, 513] (by decide +kernel) (by decide +kernel)) (goodIn_sub (fun _ h => List.mem_append_left _ (List.mem_append_left _ (List.mem_append_left _ (List.mem_append_left _ (List.mem_append_left _ (List.mem_append_left _ (List.mem_append_right _ h))))))) (by decide +kernel))
set_option maxRecDepth 20000 in
theorem gL_law_X4_numberByHand : GoodIn wsL_law (wsV RL 125 RX4 yX4_numberByHand wsX4_numberByHand) := goodIn_app (goodIn_of _ (by decide +kernel)) ggL_law_X4_numberByHand
set_option maxRecDepth 20000 in
theorem ggL_law_L_year : GoodIn wsL_law wsL_year := goodIn_ca (goodIn_ca (goodIn_ca (goodIn_r _ [326, 112, 272, 327, 328, 329, 2, 330, 211, 212, 213, 214, 121, 122, 19, 240, 241, 242, 243, 23, 294, 295, 296, 297, 28, 127, 128, 129, 130, 92, 15, 131, 132, 133, 134, 135, 18, 136, 137, 34, 32, 138, 139, 140, 298, 22, 299, 300, 45, 40, 43, 47, 41, 42, 149, 150, 301, 302, 303, 46, 145, 146, 147, 148, 151, 152, 153, 154, 155, 156, 304, 305, 306, 277, 278, 307, 485, 486, 487, 488, 489, 490, 491, 514, 515, 516, 517, 518, 519, 520, 521, 522, 523, 524, 525] (by decide +kernel) (by decide +kernel)) (goodIn_sub (fun _ h => List.mem_append_left _ (List.mem_append_left _ (List.mem_append_left _ (List.mem_append_left _ (List.mem_append_left _ (List.mem_append_left _ (List.mem_append_right _ h))))))) (by decide +kernel))) (goodIn_sub (fun _ h => List.mem_append_left _ (List.mem_append_left _ (List.mem_append_left _ (List.mem_append_right _ h)))) (by decide +kernel))) (goodIn_sub (fun _ h => List.mem_append_left _ (List.mem_append_left _ (List.mem_append_right _ h))) (by decide +kernel))
set_option maxRecDepth 20000 in
theorem gL_law_L_year : GoodIn wsL_law (va_wsS RL 126 yL_year wsL_year) := goodIn_app (goodIn_of _ (by decide +kernel)) ggL_law_L_year
set_option maxRecDepth 20000 in
theorem ggL_law_X4_year : GoodIn wsL_law wsX4_year := goodIn_ca (goodIn_r _ [334, 74, 73, 222, 223, 224, 5, 225, 77, 102, 103, 104, 251, 252, 253, 254, 76, 185, 186, 187, 188, 70, 59, 71, 60, 61, 67, 189, 190, 182, 183, 184, 191, 192, 193, 194, 195, 196, 197, 198, 199, 58, 78, 64, 65, 63, 66, 200, 201, 202, 203, 62, 492, 493, 494, 495, 496, 497, 498, 499, 500, 501, 502, 503, 504, 505, 506, 507, 508, 509, 510, 511, 512, 513] (by decide +kernel) (by decide +kernel)) (goodIn_sub (fun _ h => List.mem_append_left _ (List.mem_append_left _ (List.mem_append_left _ (List.mem_append_left _ (List.mem_append_left _ (List.mem_append_left _ (List.mem_append_right _ h))))))) (by decide +kernel))
set_option maxRecDepth 20000 in
theorem gL_law_X4_year : GoodIn wsL_law (wsV RL 128 RX4 yX4_year wsX4_year) := goodIn_app (goodIn_of _ (by decide +kernel)) ggL_law_X4_year
set_option maxRecDepth 20000 in
theorem ggL_law_L_effect : GoodIn wsL_law wsL_effect := goodIn_ca (goodIn_ca (goodIn_ca (goodIn_r _ [337, 112, 272, 338, 339, 340, 2, 341, 211, 212, 213, 214, 121, 122, 19, 117, 118, 119, 120, 92, 240, 241, 242, 243, 23, 215, 216, 217, 294, 295, 296, 297, 28, 127, 128, 129, 130, 15, 131, 132, 133, 134, 135, 18, 136, 137, 34, 32, 138, 139, 140, 298, 22, 299, 300, 45, 40, 43, 47, 41, 42, 149, 150, 301, 302, 303, 46, 145, 146, 147, 148, 151, 152, 153, 154, 155, 156, 304, 305, 306, 277, 278, 307, 485, 486, 487, 488, 489, 490, 491, 514, 515, 516, 517, 518, 519, 520, 521, 522, 523, 524, 525] (by decide +kernel) (by decide +kernel)) (goodIn_sub (fun _ h => List.mem_append_left _ (List.mem_append_left _ (List.mem_append_left _ (List.mem_append_left _ (List.mem_append_left _ (List.mem_append_left _ (List.mem_append_right _ h))))))) (by decide +kernel))) (goodIn_sub (fun _ h => List.mem_append_left _ (List.mem_append_left _ (List.mem_append_left _ (List.mem_append_right _ h)))) (by decide +kernel))) (goodIn_sub (fun _ h => List.mem_append_left _ (List.mem_append_left _ (List.mem_append_right _ h))) (by decide +kernel))
set_option maxRecDepth 20000 in
theorem gL_law_L_effect : GoodIn wsL_law (va_wsS RL 129 yL_effect wsL_effect) := goodIn_app (goodIn_of _ (by decide +kernel)) ggL_law_L_effect
set_option maxRecDepth 20000 in
theorem ggL_law_X4_effect : GoodIn wsL_law wsX4_effect := goodIn_ca (goodIn_r _ [345, 74, 73, 222, 223, 224, 5, 225, 77, 102, 103, 104, 174, 175, 176, 177, 75, 251, 252, 253, 254, 76, 226, 227, 228, 185, 186, 187, 188, 70, 59, 71, 60, 61, 67, 189, 190, 182, 183, 184, 191, 192, 193, 194, 195, 196, 197, 198, 199, 58, 78, 64, 65, 63, 66, 200, 201, 202, 203, 62, 492, 493, 494, 495, 496, 497, 498, 499, 500, 501, 502, 503, 504, 505, 506, 507, 508, 509, 510, 511, 512, 513] (by decide +kernel) (by decide +kernel)) (goodIn_sub (fun _ h => List.mem_append_left _ (List.mem_append_left _ (List.mem_append_left _ (List.mem_append_left _ (List.mem_append_left _ (List.mem_append_left _ (List.mem_append_right _ h))))))) (by decide +kernel))
set_option maxRecDepth 20000 in
theorem gL_law_X4_effect : GoodIn wsL_law (wsV RL 131 RX4 yX4_effect wsX4_effect) := goodIn_app (goodIn_of _ (by decide +kernel)) ggL_law_X4_effect
set_option maxRecDepth 20000 in
theorem ggL_law_L_seek : GoodIn wsL_law wsL_seek := goodIn_ca (goodIn_ca (goodIn_ca (goodIn_r _ [348, 112, 349, 350, 351, 352, 2, 353, 354, 355, 23, 28, 307, 117, 118, 119, 120, 121, 122, 92, 240, 241, 242, 243, 215, 216, 217, 127, 128, 129, 130, 15, 131, 132, 133, 134, 19, 135, 18, 136, 137, 34, 32, 138, 139, 140, 298, 22, 299, 300, 45, 40, 43, 47, 41, 42, 149, 150, 301, 302, 303, 46, 145, 146, 147, 148, 151, 152, 153, 154, 155, 156, 485, 486, 487, 488, 489, 490, 491, 519, 520, 521, 522, 523, 524, 525, 514, 515, 516, 517, 518] (by decide +kernel) (by decide +kernel)) (goodIn_sub (fun _ h => List.mem_append_left _ (List.mem_append_left _ (List.mem_append_left _ (List.mem_append_left _ (List.mem_append_left _ (List.mem_append_left _ (List.mem_append_right _ h))))))) (by decide +kernel))) (goodIn_sub (fun _ h => List.mem_append_left _ (List.mem_append_right _ h)) (by decide +kernel))) (goodIn_sub (fun _ h => List.mem_append_left _ (List.mem_append_left _ (List.mem_append_left _ (List.mem_append_right _ h)))) (by decide +kernel))
set_option maxRecDepth 20000 in
theorem gL_law_L_seek : GoodIn wsL_law (va_wsS RL 132 yL_seek wsL_seek) := goodIn_app (goodIn_of _ (by decide +kernel)) ggL_law_L_seek
set_option maxRecDepth 20000 in
theorem ggL_law_X4_seek : GoodIn wsL_law wsX4_seek := goodIn_ca (goodIn_r _ [359, 74, 58, 73, 174, 175, 176, 5, 177, 75, 102, 103, 104, 251, 252, 253, 254, 76, 226, 227, 228, 185, 186, 187, 188, 70, 59, 71, 60, 61, 67, 189, 190, 182, 183, 184, 191, 192, 193, 194, 195, 196, 197, 198, 199, 78, 64, 65, 63, 66, 200, 201, 202, 203, 62, 492, 493, 494, 495, 496, 497, 498, 499, 500, 501, 502, 503, 504, 505, 506, 507, 508, 509, 510, 511, 512, 513] (by decide +kernel) (by decide +kernel)) (goodIn_sub (fun _ h => List.mem_append_left _ (List.mem_append_left _ (List.mem_append_left _ (List.mem_append_left _ (List.mem_append_left _ (List.mem_append_left _ (List.mem_append_right _ h))))))) (by decide +kernel))
set_option maxRecDepth 20000 in
theorem gL_law_X4_seek : GoodIn wsL_law (wsV RL 134 RX4 yX4_seek wsX4_seek) := goodIn_app (goodIn_of _ (by decide +kernel)) ggL_law_X4_seek
set_option maxRecDepth 20000 in
theorem ggL_law_L_actual : GoodIn wsL_law wsL_actual := goodIn_ca (goodIn_ca (goodIn_ca (goodIn_r _ [362, 112, 84, 363, 364, 365, 2, 366, 96, 97, 367, 368, 369, 23, 240, 241, 242, 243, 121, 122, 215, 216, 217, 157, 149, 150, 123, 124, 125, 126, 28, 27, 127, 128, 129, 130, 92, 15, 131, 132, 133, 134, 19, 135, 18, 136, 137, 34, 32, 138, 139, 140, 141, 22, 142, 143, 144, 46, 145, 146, 147, 148, 43, 47, 40, 41, 42, 151, 152, 153, 154, 155, 156, 158, 26, 159, 160, 51, 161, 162, 163, 164, 165, 52, 166, 167, 168, 169, 53, 485, 486, 487, 488, 489, 490, 491, 519, 520, 521, 522, 523, 524, 525, 514, 515, 516, 517, 518, 526, 527, 528] (by decide +kernel) (by decide +kernel)) (goodIn_sub (fun _ h => List.mem_append_left _ (List.mem_append_left _ (List.mem_append_left _ (List.mem_append_left _ (List.mem_append_left _ (List.mem_append_left _ (List.mem_append_right _ h))))))) (by decide +kernel))) (goodIn_sub (fun _ h => List.mem_append_left _ (List.mem_append_left _ (List.mem_append_left _ (List.mem_append_left _ (List.mem_append_right _ h))))) (by decide +kernel))) (goodIn_sub (fun _ h => List.mem_append_left _ (List.mem_append_left _ (List.mem_append_left _ (List.mem_append_right _ h)))) (by decide +kernel))
set_option maxRecDepth 20000 in
theorem gL_law_L_actual : GoodIn wsL_law (va_wsS RL 135 yL_actual wsL_actual) := goodIn_app (goodIn_of _ (by decide +kernel)) ggL_law_L_actual
set_option maxRecDepth 20000 in
theorem ggL_law_X4_actual : GoodIn wsL_law wsX4_actual := goodIn_ca (goodIn_r _ [373, 79, 374, 375, 74, 70, 67, 251, 252, 253, 5, 254, 76, 102, 103, 104, 226, 227, 228, 182, 183, 184, 178, 179, 180, 181, 72, 73, 68, 69, 185, 186, 187, 188, 59, 71, 60, 61, 189, 190, 191, 192, 193, 194, 195, 196, 197, 198, 199, 58, 78, 64, 65, 63, 66, 200, 201, 202, 203, 62, 492, 493, 494, 495, 496, 497, 498, 499, 500, 501, 502, 503, 504, 505, 506, 507, 508, 509, 510, 511, 512, 513] (by decide +kernel) (by decide +kernel)) (goodIn_sub (fun _ h => List.mem_append_left _ (List.mem_append_left _ (List.mem_append_left _ (List.mem_append_left _ (List.mem_append_left _ (List.mem_append_left _ (List.mem_append_right _ h))))))) (by decide +kernel))
set_option maxRecDepth 20000 in
theorem gL_law_X4_actual : GoodIn wsL_law (wsV RL 137 RX4 yX4_actual wsX4_actual) := goodIn_app (goodIn_of _ (by decide +kernel)) ggL_law_X4_actual
set_option maxRecDepth 20000 in
theorem ggL_law_L_takeActual : GoodIn wsL_law wsL_takeActual := goodIn_ca (goodIn_ca (goodIn_ca (goodIn_r _ [378, 112, 349, 379, 380, 381, 2, 382, 354, 355, 23, 307, 240, 241, 242, 243, 121, 122, 215, 216, 217, 157, 149, 150, 123, 124, 125, 126, 28, 27, 127, 128, 129, 130, 92, 15, 131, 132, 133, 134, 19, 135, 18, 136, 137, 34, 32, 138, 139, 140, 141, 22, 142, 143, 144, 46, 145, 146, 147, 148, 43, 47, 40, 41, 42, 151, 152, 153, 154, 155, 156, 158, 26, 159, 160, 51, 161, 162, 163, 164, 165, 52, 166, 167, 168, 169, 53, 485, 486, 487, 488, 489, 490, 491, 519, 520, 521, 522, 523, 524, 525, 514, 515, 516, 517, 518, 526, 527, 528] (by decide +kernel) (by decide +kernel)) (goodIn_sub (fun _ h => List.mem_append_left _ (List.mem_append_left _ (List.mem_append_left _ (List.mem_append_left _ (List.mem_append_left _ (List.mem_append_left _ (List.mem_append_right _ h))))))) (by decide +kernel))) (goodIn_sub (fun _ h => List.mem_append_left _ (List.mem_append_right _ h)) (by decide +kernel))) (goodIn_sub (fun _ h => List.mem_append_left _ (List.mem_append_left _ (List.mem_append_left _ (List.mem_append_right _ h)))) (by decide +kernel))
set_option maxRecDepth 20000 in
theorem gL_law_L_takeActual : GoodIn wsL_law (va_wsS RL 138 yL_takeActual wsL_takeActual) := goodIn_app (goodIn_of _ (by decide +kernel)) ggL_law_L_takeActual
set_option maxRecDepth 20000 in
theorem ggL_law_X4_takeActual : GoodIn wsL_law wsX4_takeActual := goodIn_ca (goodIn_r _ [386, 70, 74, 251, 252, 253, 5, 254, 76, 102, 103, 104, 226, 227, 228, 182, 183, 184, 178, 179, 180, 181, 72, 73, 68, 69, 185, 186, 187, 188, 59, 71, 60, 61, 67, 189, 190, 191, 192, 193, 194, 195, 196, 197, 198, 199, 58, 78, 64, 65, 63, 66, 200, 201, 202, 203, 62, 492, 493, 494, 495, 496, 497, 498, 499, 500, 501, 502, 503, 504, 505, 506, 507, 508, 509, 510, 511, 512, 513] (by decide +kernel) (by decide +kernel)) (goodIn_sub (fun _ h => List.mem_append_left _ (List.mem_append_left _ (List.mem_append_left _ (List.mem_append_left _ (List.mem_append_left _ (List.mem_append_left _ (List.mem_append_right _ h))))))) (by decide +kernel))
set_option maxRecDepth 20000 in
theorem gL_law_X4_takeActual : GoodIn wsL_law (wsV RL 140 RX4 yX4_takeActual wsX4_takeActual) := goodIn_app (goodIn_of _ (by decide +kernel)) ggL_law_X4_takeActual
set_option maxRecDepth 20000 in
theorem ggL_law_L_pass : GoodIn wsL_law wsL_pass := goodIn_ca (goodIn_ca (goodIn_r _ [389, 85, 390, 391, 392, 2, 393, 90, 91, 367, 485, 486, 487, 488, 489, 490, 491] (by decide +kernel) (by decide +kernel)) (goodIn_sub (fun _ h => List.mem_append_left _ (List.mem_append_left _ (List.mem_append_left _ (List.mem_append_left _ (List.mem_append_left _ (List.mem_append_left _ (List.mem_append_right _ h))))))) (by decide +kernel))) (goodIn_sub (fun _ h => List.mem_append_left _ (List.mem_append_left _ (List.mem_append_left _ (List.mem_append_left _ (List.mem_append_left _ (List.mem_append_right _ h)))))) (by decide +kernel))
set_option maxRecDepth 20000 in
theorem gL_law_L_pass : GoodIn wsL_law (va_wsS RL 141 yL_pass wsL_pass) := goodIn_app (goodIn_of _ (by decide +kernel)) ggL_law_L_pass
set_option maxRecDepth 20000 in
theorem ggL_law_X4_pass : GoodIn wsL_law wsX4_pass := goodIn_r _ [397, 79, 229, 230, 231, 5, 232, 74, 492, 493, 494, 495, 496, 497, 498, 499, 500, 501, 502, 503, 504, 505, 506, 507, 508, 509, 510, 511, 512, 513] (by decide +kernel) (by decide +kernel)
set_option maxRecDepth 20000 in
theorem gL_law_X4_pass : GoodIn wsL_law (wsV RL 144 RX4 yX4_pass wsX4_pass) := goodIn_app (goodIn_of _ (by decide +kernel)) ggL_law_X4_pass
set_option maxRecDepth 20000 in
theorem ggL_law_X3_month : GoodIn wsL_law wsX3_month := goodIn_r _ [401, 367, 485, 486, 487, 488, 489, 490, 491] (by decide +kernel) (by decide +kernel)
set_option maxRecDepth 20000 in
theorem gL_law_X3_month : GoodIn wsL_law (wsV RL 145 RX3 yX3_month wsX3_month) := goodIn_app (goodIn_of _ (by decide +kernel)) ggL_law_X3_month
set_option maxRecDepth 20000 in
theorem ggL_law_X4_month : GoodIn wsL_law wsX4_month := goodIn_r _ [405, 74, 79, 492, 493, 494, 495, 496, 497, 498, 499, 500, 501, 502, 503, 504, 505, 506, 507, 508, 509, 510, 511, 512, 513] (by decide +kernel) (by decide +kernel)
set_option maxRecDepth 20000 in
theorem gL_law_X4_month : GoodIn wsL_law (wsV RL 148 RX4 yX4_month wsX4_month) := goodIn_app (goodIn_of _ (by decide +kernel)) ggL_law_X4_month
set_option maxRecDepth 20000 in
theorem ggL_law_L_approve : GoodIn wsL_law wsL_approve := goodIn_ca (goodIn_ca (goodIn_ca (goodIn_ca (goodIn_r _ [408, 112, 84, 272, 409, 410, 411, 2, 412, 96, 97, 27, 240, 241, 242, 243, 121, 122, 23, 215, 216, 217, 294, 295, 296, 297, 28, 127, 128, 129, 130, 92, 15, 131, 132, 133, 134, 19, 135, 18, 136, 137, 34, 32, 138, 139, 140, 298, 22, 299, 300, 45, 40, 43, 47, 41, 42, 149, 150, 301, 302, 303, 46, 145, 146, 147, 148, 151, 152, 153, 154, 155, 156, 304, 305, 306, 277, 278, 307, 157, 413, 26, 414, 415, 51, 52, 53, 485, 486, 487, 488, 489, 490, 491, 519, 520, 521, 522, 523, 524, 525, 514, 515, 516, 517, 518, 526, 527, 528] (by decide +kernel) (by decide +kernel)) (goodIn_sub (fun _ h => List.mem_append_left _ (List.mem_append_left _ (List.mem_append_left _ (List.mem_append_left _ (List.mem_append_left _ (List.mem_append_left _ (List.mem_append_right _ h))))))) (by decide +kernel))) (goodIn_sub (fun _ h => List.mem_append_left _ (List.mem_append_left _ (List.mem_append_left _ (List.mem_append_left _ (List.mem_append_right _ h))))) (by decide +kernel))) (goodIn_sub (fun _ h => List.mem_append_left _ (List.mem_append_left _ (List.mem_append_left _ (List.mem_append_right _ h)))) (by decide +kernel))) (goodIn_sub (fun _ h => List.mem_append_left _ (List.mem_append_left _ (List.mem_append_right _ h))) (by decide +kernel))
set_option maxRecDepth 20000 in
theorem gL_law_L_approve : GoodIn wsL_law (va_wsS RL 149 yL_approve wsL_approve) := goodIn_app (goodIn_of _ (by decide +kernel)) ggL_law_L_approve
set_option maxRecDepth 20000 in
theorem ggL_law_X4_approve : GoodIn wsL_law wsX4_approve := goodIn_ca (goodIn_r _ [419, 74, 72, 68, 73, 69, 251, 252, 253, 5, 254, 76, 102, 103, 104, 226, 227, 228, 185, 186, 187, 188, 70, 59, 71, 60, 61, 67, 189, 190, 182, 183, 184, 191, 192, 193, 194, 195, 196, 197, 198, 199, 58, 78, 64, 65, 63, 66, 200, 201, 202, 203, 62, 492, 493, 494, 495, 496, 497, 498, 499, 500, 501, 502, 503, 504, 505, 506, 507, 508, 509, 510, 511, 512, 513] (by decide +kernel) (by decide +kernel)) (goodIn_sub (fun _ h => List.mem_append_left _ (List.mem_append_left _ (List.mem_append_left _ (List.mem_append_left _ (List.mem_append_left _ (List.mem_append_left _ (List.mem_append_right _ h))))))) (by decide +kernel))
set_option maxRecDepth 20000 in
theorem gL_law_X4_approve : GoodIn wsL_law (wsV RL 151 RX4 yX4_approve wsX4_approve) := goodIn_app (goodIn_of _ (by decide +kernel)) ggL_law_X4_approve
set_option maxRecDepth 20000 in
theorem ggL_law_L_state : GoodIn wsL_law wsL_state := goodIn_ca (goodIn_ca (goodIn_r _ [422, 112, 423, 424, 425, 2, 426, 27, 240, 241, 242, 243, 121, 122, 23, 215, 216, 217, 157, 149, 150, 485, 486, 487, 488, 489, 490, 491, 526, 527, 528, 519, 520, 521, 522, 523, 524, 525] (by decide +kernel) (by decide +kernel)) (goodIn_sub (fun _ h => List.mem_append_left _ (List.mem_append_left _ (List.mem_append_left _ (List.mem_append_left _ (List.mem_append_left _ (List.mem_append_left _ (List.mem_append_right _ h))))))) (by decide +kernel))) (goodIn_sub (fun _ h => List.mem_append_left _ (List.mem_append_left _ (List.mem_append_left _ (List.mem_append_right _ h)))) (by decide +kernel))
set_option maxRecDepth 20000 in
theorem gL_law_L_state : GoodIn wsL_law (va_wsS RL 152 yL_state wsL_state) := goodIn_app (goodIn_of _ (by decide +kernel)) ggL_law_L_state
set_option maxRecDepth 20000 in
theorem ggL_law_X4_state : GoodIn wsL_law wsX4_state := goodIn_ca (goodIn_r _ [430, 72, 251, 252, 253, 5, 254, 76, 102, 103, 104, 226, 227, 228, 229, 230, 231, 232, 74, 182, 183, 184, 492, 493, 494, 495, 496, 497, 498, 499, 500, 501, 502, 503, 504, 505, 506, 507, 508, 509, 510, 511, 512, 513] (by decide +kernel) (by decide +kernel)) (goodIn_sub (fun _ h => List.mem_append_left _ (List.mem_append_left _ (List.mem_append_left _ (List.mem_append_left _ (List.mem_append_left _ (List.mem_append_left _ (List.mem_append_right _ h))))))) (by decide +kernel))
set_option maxRecDepth 20000 in
theorem gL_law_X4_state : GoodIn wsL_law (wsV RL 154 RX4 yX4_state wsX4_state) := goodIn_app (goodIn_of _ (by decide +kernel)) ggL_law_X4_state
set_option maxRecDepth 20000 in
theorem ggL_law_L_drift : GoodIn wsL_law wsL_drift := goodIn_ca (goodIn_ca (goodIn_ca (goodIn_ca (goodIn_r _ [433, 112, 349, 272, 434, 435, 436, 2, 437, 354, 355, 27, 240, 241, 242, 243, 121, 122, 23, 215, 216, 217, 157, 149, 150, 294, 295, 296, 297, 28, 127, 128, 129, 130, 92, 15, 131, 132, 133, 134, 19, 135, 18, 136, 137, 34, 32, 138, 139, 140, 298, 22, 299, 300, 45, 40, 43, 47, 41, 42, 301, 302, 303, 46, 145, 146, 147, 148, 151, 152, 153, 154, 155, 156, 304, 305, 306, 277, 278, 307, 485, 486, 487, 488, 489, 490, 491, 526, 527, 528, 519, 520, 521, 522, 523, 524, 525, 514, 515, 516, 517, 518] (by decide +kernel) (by decide +kernel)) (goodIn_sub (fun _ h => List.mem_append_left _ (List.mem_append_left _ (List.mem_append_left _ (List.mem_append_left _ (List.mem_append_left _ (List.mem_append_left _ (List.mem_append_right _ h))))))) (by decide +kernel))) (goodIn_sub (fun _ h => List.mem_append_left _ (List.mem_append_right _ h)) (by decide +kernel))) (goodIn_sub (fun _ h => List.mem_append_left _ (List.mem_append_left _ (List.mem_append_left _ (List.mem_append_right _ h)))) (by decide +kernel))) (goodIn_sub (fun _ h => List.mem_append_left _ (List.mem_append_left _ (List.mem_append_right _ h))) (by decide +kernel))
set_option maxRecDepth 20000 in
theorem gL_law_L_drift : GoodIn wsL_law (va_wsS RL 155 yL_drift wsL_drift) := goodIn_app (goodIn_of _ (by decide +kernel)) ggL_law_L_drift
set_option maxRecDepth 20000 in
theorem ggL_law_X4_drift : GoodIn wsL_law wsX4_drift := goodIn_ca (goodIn_r _ [441, 72, 74, 73, 68, 251, 252, 253, 5, 254, 76, 102, 103, 104, 226, 227, 228, 182, 183, 184, 185, 186, 187, 188, 70, 59, 71, 60, 61, 67, 189, 190, 191, 192, 193, 194, 195, 196, 197, 198, 199, 58, 78, 64, 65, 63, 66, 200, 201, 202, 203, 62, 492, 493, 494, 495, 496, 497, 498, 499, 500, 501, 502, 503, 504, 505, 506, 507, 508, 509, 510, 511, 512, 513] (by decide +kernel) (by decide +kernel)) (goodIn_sub (fun _ h => List.mem_append_left _ (List.mem_append_left _ (List.mem_append_left _ (List.mem_append_left _ (List.mem_append_left _ (List.mem_append_left _ (List.mem_append_right _ h))))))) (by decide +kernel))
set_option maxRecDepth 20000 in
theorem gL_law_X4_drift : GoodIn wsL_law (wsV RL 157 RX4 yX4_drift wsX4_drift) := goodIn_app (goodIn_of _ (by decide +kernel)) ggL_law_X4_drift
set_option maxRecDepth 20000 in
theorem ggL_law_X3_open : GoodIn wsL_law wsX3_open := goodIn_ca (goodIn_r _ [445, 27, 446, 26, 447, 448, 51, 485, 486, 487, 488, 489, 490, 491, 526, 527, 528] (by decide +kernel) (by decide +kernel)) (goodIn_sub (fun _ h => List.mem_append_left _ (List.mem_append_left _ (List.mem_append_left _ (List.mem_append_left _ (List.mem_append_left _ (List.mem_append_left _ (List.mem_append_right _ h))))))) (by decide +kernel))
set_option maxRecDepth 20000 in
theorem gL_law_X3_open : GoodIn wsL_law (wsV RL 158 RX3 yX3_open wsX3_open) := goodIn_app (goodIn_of _ (by decide +kernel)) ggL_law_X3_open
set_option maxRecDepth 20000 in
theorem ggL_law_X4_open : GoodIn wsL_law wsX4_open := goodIn_ca (goodIn_r _ [452, 74, 453, 454, 455, 5, 456, 72, 492, 493, 494, 495, 496, 497, 498, 499, 500, 501, 502, 503, 504, 505, 506, 507, 508, 509, 510, 511, 512, 513] (by decide +kernel) (by decide +kernel)) (goodIn_sub (fun _ h => List.mem_append_left _ (List.mem_append_left _ (List.mem_append_left _ (List.mem_append_left _ (List.mem_append_left _ (List.mem_append_left _ (List.mem_append_right _ h))))))) (by decide +kernel))
set_option maxRecDepth 20000 in
theorem gL_law_X4_open : GoodIn wsL_law (wsV RL 161 RX4 yX4_open wsX4_open) := goodIn_app (goodIn_of _ (by decide +kernel)) ggL_law_X4_open
set_option maxRecDepth 20000 in
theorem ggL_law_L_approvedShare : GoodIn wsL_law wsL_approvedShare := goodIn_ca (goodIn_ca (goodIn_r _ [459, 460, 461, 462, 463, 2, 464, 465, 466, 27, 446, 26, 447, 448, 51, 485, 486, 487, 488, 489, 490, 491, 526, 527, 528] (by decide +kernel) (by decide +kernel)) (goodIn_sub (fun _ h => List.mem_append_left _ (List.mem_append_left _ (List.mem_append_left _ (List.mem_append_left _ (List.mem_append_left _ (List.mem_append_left _ (List.mem_append_right _ h))))))) (by decide +kernel))) (goodIn_sub (fun _ h => List.mem_append_right _ h) (by decide +kernel))
set_option maxRecDepth 20000 in
theorem gL_law_L_approvedShare : GoodIn wsL_law (va_wsS RL 162 yL_approvedShare wsL_approvedShare) := goodIn_app (goodIn_of _ (by decide +kernel)) ggL_law_L_approvedShare
set_option maxRecDepth 20000 in
theorem ggL_law_X4_approvedShare : GoodIn wsL_law wsX4_approvedShare := goodIn_ca (goodIn_r _ [470, 453, 454, 455, 5, 456, 72, 229, 230, 231, 232, 74, 492, 493, 494, 495, 496, 497, 498, 499, 500, 501, 502, 503, 504, 505, 506, 507, 508, 509, 510, 511, 512, 513] (by decide +kernel) (by decide +kernel)) (goodIn_sub (fun _ h => List.mem_append_left _ (List.mem_append_left _ (List.mem_append_left _ (List.mem_append_left _ (List.mem_append_left _ (List.mem_append_left _ (List.mem_append_right _ h))))))) (by decide +kernel))
set_option maxRecDepth 20000 in
theorem gL_law_X4_approvedShare : GoodIn wsL_law (wsV RL 165 RX4 yX4_approvedShare wsX4_approvedShare) := goodIn_app (goodIn_of _ (by decide +kernel)) ggL_law_X4_approvedShare
set_option maxRecDepth 20000 in
theorem ggL_law_L_meanTolerance : GoodIn wsL_law wsL_meanTolerance := goodIn_ca (goodIn_ca (goodIn_r _ [473, 460, 474, 475, 476, 2, 477, 465, 466, 27, 446, 26, 447, 448, 51, 478, 479, 480, 53, 485, 486, 487, 488, 489, 490, 491, 526, 527, 528] (by decide +kernel) (by decide +kernel)) (goodIn_sub (fun _ h => List.mem_append_left _ (List.mem_append_left _ (List.mem_append_left _ (List.mem_append_left _ (List.mem_append_left _ (List.mem_append_left _ (List.mem_append_right _ h))))))) (by decide +kernel))) (goodIn_sub (fun _ h => List.mem_append_right _ h) (by decide +kernel))
set_option maxRecDepth 20000 in
theorem gL_law_L_meanTolerance : GoodIn wsL_law (va_wsS RL 166 yL_meanTolerance wsL_meanTolerance) := goodIn_app (goodIn_of _ (by decide +kernel)) ggL_law_L_meanTolerance
set_option maxRecDepth 20000 in
theorem ggL_law_X4_meanTolerance : GoodIn wsL_law wsX4_meanTolerance := goodIn_ca (goodIn_r _ [484, 72, 69, 453, 454, 455, 5, 456, 229, 230, 231, 232, 74, 492, 493, 494, 495, 496, 497, 498, 499, 500, 501, 502, 503, 504, 505, 506, 507, 508, 509, 510, 511, 512, 513] (by decide +kernel) (by decide +kernel)) (goodIn_sub (fun _ h => List.mem_append_left _ (List.mem_append_left _ (List.mem_append_left _ (List.mem_append_left _ (List.mem_append_left _ (List.mem_append_left _ (List.mem_append_right _ h))))))) (by decide +kernel))
set_option maxRecDepth 20000 in
theorem gL_law_X4_meanTolerance : GoodIn wsL_law (wsV RL 168 RX4 yX4_meanTolerance wsX4_meanTolerance) := goodIn_app (goodIn_of _ (by decide +kernel)) ggL_law_X4_meanTolerance
theorem dL_law_0 : decode cL_law 0 = .ok (.new 8, 3) := by decide +kernel
theorem dL_law_3 : decode cL_law 3 = .ok (.dup, 1) := by decide +kernel
theorem dL_law_4 : decode cL_law 4 = .ok (.invokespecial 88, 3) := by decide +kernel
theorem dL_law_7 : decode cL_law 7 = .ok (.astore_n 1, 1) := by decide +kernel
theorem dL_law_8 : decode cL_law 8 = .ok (.new 89, 3) := by decide +kernel
theorem dL_law_11 : decode cL_law 11 = .ok (.dup, 1) := by decide +kernel
theorem dL_law_12 : decode cL_law 12 = .ok (.invokespecial 91, 3) := by decide +kernel
theorem dL_law_15 : decode cL_law 15 = .ok (.astore_n 2, 1) := by decide +kernel
theorem dL_law_16 : decode cL_law 16 = .ok (.iconst 1, 1) := by decide +kernel
theorem dL_law_17 : decode cL_law 17 = .ok (.newarray .long, 2) := by decide +kernel
theorem dL_law_19 : decode cL_law 19 = .ok (.astore_n 3, 1) := by decide +kernel
theorem dL_law_20 : decode cL_law 20 = .ok (.iconst 1, 1) := by decide +kernel
theorem dL_law_21 : decode cL_law 21 = .ok (.newarray .double, 2) := by decide +kernel
theorem dL_law_23 : decode cL_law 23 = .ok (.astore 4, 2) := by decide +kernel
theorem dL_law_25 : decode cL_law 25 = .ok (.iconst 0, 1) := by decide +kernel
theorem dL_law_26 : decode cL_law 26 = .ok (.istore 5, 2) := by decide +kernel
theorem dL_law_28 : decode cL_law 28 = .ok (.iload 5, 2) := by decide +kernel
theorem dL_law_30 : decode cL_law 30 = .ok (.aload_n 0, 1) := by decide +kernel
theorem dL_law_31 : decode cL_law 31 = .ok (.arraylength, 1) := by decide +kernel
theorem dL_law_32 : decode cL_law 32 = .ok (.iconst 5, 1) := by decide +kernel
theorem dL_law_33 : decode cL_law 33 = .ok (.isub, 1) := by decide +kernel
theorem dL_law_34 : decode cL_law 34 = .ok (.if_icmp .gt 1526, 3) := by decide +kernel
theorem dL_law_37 : decode cL_law 37 = .ok (.aload_n 0, 1) := by decide +kernel
theorem dL_law_38 : decode cL_law 38 = .ok (.iload 5, 2) := by decide +kernel
theorem dL_law_40 : decode cL_law 40 = .ok (.iaload, 1) := by decide +kernel
theorem dL_law_41 : decode cL_law 41 = .ok (.bipush 31, 2) := by decide +kernel
theorem dL_law_43 : decode cL_law 43 = .ok (.iand, 1) := by decide +kernel
theorem dL_law_44 : decode cL_law 44 = .ok (.tableswitch 1510 0 20 #[100, 156, 224, 304, 386, 442, 534, 614, 694, 761, 853, 945, 1025, 1093, 1137, 1150, 1230, 1298, 1366, 1379, 1445], 100) := by decide +kernel
theorem dL_law_144 : decode cL_law 144 = .ok (.aload_n 1, 1) := by decide +kernel
theorem dL_law_145 : decode cL_law 145 = .ok (.aload_n 0, 1) := by decide +kernel
theorem dL_law_146 : decode cL_law 146 = .ok (.iload 5, 2) := by decide +kernel
theorem dL_law_148 : decode cL_law 148 = .ok (.iconst 1, 1) := by decide +kernel
theorem dL_law_149 : decode cL_law 149 = .ok (.iadd, 1) := by decide +kernel
theorem dL_law_150 : decode cL_law 150 = .ok (.iaload, 1) := by decide +kernel
theorem dL_law_151 : decode cL_law 151 = .ok (.aload_n 3, 1) := by decide +kernel
theorem dL_law_152 : decode cL_law 152 = .ok (.invokestatic 92, 3) := by decide +kernel
theorem dL_law_155 : decode cL_law 155 = .ok (.istore 6, 2) := by decide +kernel
theorem dL_law_157 : decode cL_law 157 = .ok (.aload_n 2, 1) := by decide +kernel
theorem dL_law_158 : decode cL_law 158 = .ok (.aload_n 0, 1) := by decide +kernel
theorem dL_law_159 : decode cL_law 159 = .ok (.iload 5, 2) := by decide +kernel
theorem dL_law_161 : decode cL_law 161 = .ok (.iconst 1, 1) := by decide +kernel
theorem dL_law_162 : decode cL_law 162 = .ok (.iadd, 1) := by decide +kernel
theorem dL_law_163 : decode cL_law 163 = .ok (.iaload, 1) := by decide +kernel
theorem dL_law_164 : decode cL_law 164 = .ok (.invokevirtual 97, 3) := by decide +kernel
theorem dL_law_167 : decode cL_law 167 = .ok (.istore 7, 2) := by decide +kernel
theorem dL_law_169 : decode cL_law 169 = .ok (.aload_n 2, 1) := by decide +kernel
theorem dL_law_170 : decode cL_law 170 = .ok (.invokevirtual 98, 3) := by decide +kernel
theorem dL_law_173 : decode cL_law 173 = .ok (.iload 6, 2) := by decide +kernel
theorem dL_law_175 : decode cL_law 175 = .ok (.if_icmp .eq 5, 3) := by decide +kernel
theorem dL_law_178 : decode cL_law 178 = .ok (.iconst 0, 1) := by decide +kernel
theorem dL_law_179 : decode cL_law 179 = .ok (.ireturn, 1) := by decide +kernel
theorem dL_law_180 : decode cL_law 180 = .ok (.iload 6, 2) := by decide +kernel
theorem dL_law_182 : decode cL_law 182 = .ok (.ifCond .ne 15, 3) := by decide +kernel
theorem dL_law_185 : decode cL_law 185 = .ok (.aload_n 3, 1) := by decide +kernel
theorem dL_law_186 : decode cL_law 186 = .ok (.iconst 0, 1) := by decide +kernel
theorem dL_law_187 : decode cL_law 187 = .ok (.laload, 1) := by decide +kernel
theorem dL_law_188 : decode cL_law 188 = .ok (.iload 7, 2) := by decide +kernel
theorem dL_law_190 : decode cL_law 190 = .ok (.i2l, 1) := by decide +kernel
theorem dL_law_191 : decode cL_law 191 = .ok (.lcmp, 1) := by decide +kernel
theorem dL_law_192 : decode cL_law 192 = .ok (.ifCond .eq 5, 3) := by decide +kernel
theorem dL_law_195 : decode cL_law 195 = .ok (.iconst 0, 1) := by decide +kernel
theorem dL_law_196 : decode cL_law 196 = .ok (.ireturn, 1) := by decide +kernel
theorem dL_law_197 : decode cL_law 197 = .ok (.goto 1357, 3) := by decide +kernel
theorem dL_law_200 : decode cL_law 200 = .ok (.aload_n 1, 1) := by decide +kernel
theorem dL_law_201 : decode cL_law 201 = .ok (.aload_n 0, 1) := by decide +kernel
theorem dL_law_202 : decode cL_law 202 = .ok (.iload 5, 2) := by decide +kernel
theorem dL_law_204 : decode cL_law 204 = .ok (.iconst 1, 1) := by decide +kernel
theorem dL_law_205 : decode cL_law 205 = .ok (.iadd, 1) := by decide +kernel
theorem dL_law_206 : decode cL_law 206 = .ok (.iaload, 1) := by decide +kernel
theorem dL_law_207 : decode cL_law 207 = .ok (.aload_n 0, 1) := by decide +kernel
theorem dL_law_208 : decode cL_law 208 = .ok (.iload 5, 2) := by decide +kernel
theorem dL_law_210 : decode cL_law 210 = .ok (.iconst 2, 1) := by decide +kernel
theorem dL_law_211 : decode cL_law 211 = .ok (.iadd, 1) := by decide +kernel
theorem dL_law_212 : decode cL_law 212 = .ok (.iaload, 1) := by decide +kernel
theorem dL_law_213 : decode cL_law 213 = .ok (.aload_n 3, 1) := by decide +kernel
theorem dL_law_214 : decode cL_law 214 = .ok (.invokestatic 101, 3) := by decide +kernel
theorem dL_law_217 : decode cL_law 217 = .ok (.istore 6, 2) := by decide +kernel
theorem dL_law_219 : decode cL_law 219 = .ok (.aload_n 2, 1) := by decide +kernel
theorem dL_law_220 : decode cL_law 220 = .ok (.aload_n 0, 1) := by decide +kernel
theorem dL_law_221 : decode cL_law 221 = .ok (.iload 5, 2) := by decide +kernel
theorem dL_law_223 : decode cL_law 223 = .ok (.iconst 1, 1) := by decide +kernel
theorem dL_law_224 : decode cL_law 224 = .ok (.iadd, 1) := by decide +kernel
theorem dL_law_225 : decode cL_law 225 = .ok (.iaload, 1) := by decide +kernel
theorem dL_law_226 : decode cL_law 226 = .ok (.aload_n 0, 1) := by decide +kernel
theorem dL_law_227 : decode cL_law 227 = .ok (.iload 5, 2) := by decide +kernel
theorem dL_law_229 : decode cL_law 229 = .ok (.iconst 2, 1) := by decide +kernel
theorem dL_law_230 : decode cL_law 230 = .ok (.iadd, 1) := by decide +kernel
theorem dL_law_231 : decode cL_law 231 = .ok (.iaload, 1) := by decide +kernel
theorem dL_law_232 : decode cL_law 232 = .ok (.invokevirtual 104, 3) := by decide +kernel
theorem dL_law_235 : decode cL_law 235 = .ok (.istore 7, 2) := by decide +kernel
theorem dL_law_237 : decode cL_law 237 = .ok (.aload_n 2, 1) := by decide +kernel
theorem dL_law_238 : decode cL_law 238 = .ok (.invokevirtual 98, 3) := by decide +kernel
theorem dL_law_241 : decode cL_law 241 = .ok (.iload 6, 2) := by decide +kernel
theorem dL_law_243 : decode cL_law 243 = .ok (.if_icmp .eq 5, 3) := by decide +kernel
theorem dL_law_246 : decode cL_law 246 = .ok (.iconst 0, 1) := by decide +kernel
theorem dL_law_247 : decode cL_law 247 = .ok (.ireturn, 1) := by decide +kernel
theorem dL_law_248 : decode cL_law 248 = .ok (.iload 6, 2) := by decide +kernel
theorem dL_law_250 : decode cL_law 250 = .ok (.ifCond .ne 15, 3) := by decide +kernel
theorem dL_law_253 : decode cL_law 253 = .ok (.aload_n 3, 1) := by decide +kernel
theorem dL_law_254 : decode cL_law 254 = .ok (.iconst 0, 1) := by decide +kernel
theorem dL_law_255 : decode cL_law 255 = .ok (.laload, 1) := by decide +kernel
theorem dL_law_256 : decode cL_law 256 = .ok (.iload 7, 2) := by decide +kernel
theorem dL_law_258 : decode cL_law 258 = .ok (.i2l, 1) := by decide +kernel
theorem dL_law_259 : decode cL_law 259 = .ok (.lcmp, 1) := by decide +kernel
theorem dL_law_260 : decode cL_law 260 = .ok (.ifCond .eq 5, 3) := by decide +kernel
theorem dL_law_263 : decode cL_law 263 = .ok (.iconst 0, 1) := by decide +kernel
theorem dL_law_264 : decode cL_law 264 = .ok (.ireturn, 1) := by decide +kernel
theorem dL_law_265 : decode cL_law 265 = .ok (.goto 1289, 3) := by decide +kernel
theorem dL_law_268 : decode cL_law 268 = .ok (.aload_n 1, 1) := by decide +kernel
theorem dL_law_269 : decode cL_law 269 = .ok (.aload_n 0, 1) := by decide +kernel
theorem dL_law_270 : decode cL_law 270 = .ok (.iload 5, 2) := by decide +kernel
theorem dL_law_272 : decode cL_law 272 = .ok (.iconst 1, 1) := by decide +kernel
theorem dL_law_273 : decode cL_law 273 = .ok (.iadd, 1) := by decide +kernel
theorem dL_law_274 : decode cL_law 274 = .ok (.iaload, 1) := by decide +kernel
theorem dL_law_275 : decode cL_law 275 = .ok (.aload_n 0, 1) := by decide +kernel
theorem dL_law_276 : decode cL_law 276 = .ok (.iload 5, 2) := by decide +kernel
theorem dL_law_278 : decode cL_law 278 = .ok (.iconst 2, 1) := by decide +kernel
theorem dL_law_279 : decode cL_law 279 = .ok (.iadd, 1) := by decide +kernel
theorem dL_law_280 : decode cL_law 280 = .ok (.iaload, 1) := by decide +kernel
theorem dL_law_281 : decode cL_law 281 = .ok (.aload_n 0, 1) := by decide +kernel
theorem dL_law_282 : decode cL_law 282 = .ok (.iload 5, 2) := by decide +kernel
theorem dL_law_284 : decode cL_law 284 = .ok (.iconst 3, 1) := by decide +kernel
theorem dL_law_285 : decode cL_law 285 = .ok (.iadd, 1) := by decide +kernel
theorem dL_law_286 : decode cL_law 286 = .ok (.iaload, 1) := by decide +kernel
theorem dL_law_287 : decode cL_law 287 = .ok (.aload_n 3, 1) := by decide +kernel
theorem dL_law_288 : decode cL_law 288 = .ok (.invokestatic 105, 3) := by decide +kernel
theorem dL_law_291 : decode cL_law 291 = .ok (.istore 6, 2) := by decide +kernel
theorem dL_law_293 : decode cL_law 293 = .ok (.aload_n 2, 1) := by decide +kernel
theorem dL_law_294 : decode cL_law 294 = .ok (.aload_n 0, 1) := by decide +kernel
theorem dL_law_295 : decode cL_law 295 = .ok (.iload 5, 2) := by decide +kernel
theorem dL_law_297 : decode cL_law 297 = .ok (.iconst 1, 1) := by decide +kernel
theorem dL_law_298 : decode cL_law 298 = .ok (.iadd, 1) := by decide +kernel
theorem dL_law_299 : decode cL_law 299 = .ok (.iaload, 1) := by decide +kernel
theorem dL_law_300 : decode cL_law 300 = .ok (.aload_n 0, 1) := by decide +kernel
theorem dL_law_301 : decode cL_law 301 = .ok (.iload 5, 2) := by decide +kernel
theorem dL_law_303 : decode cL_law 303 = .ok (.iconst 2, 1) := by decide +kernel
theorem dL_law_304 : decode cL_law 304 = .ok (.iadd, 1) := by decide +kernel
theorem dL_law_305 : decode cL_law 305 = .ok (.iaload, 1) := by decide +kernel
theorem dL_law_306 : decode cL_law 306 = .ok (.aload_n 0, 1) := by decide +kernel
theorem dL_law_307 : decode cL_law 307 = .ok (.iload 5, 2) := by decide +kernel
theorem dL_law_309 : decode cL_law 309 = .ok (.iconst 3, 1) := by decide +kernel
theorem dL_law_310 : decode cL_law 310 = .ok (.iadd, 1) := by decide +kernel
theorem dL_law_311 : decode cL_law 311 = .ok (.iaload, 1) := by decide +kernel
theorem dL_law_312 : decode cL_law 312 = .ok (.invokevirtual 108, 3) := by decide +kernel
theorem dL_law_315 : decode cL_law 315 = .ok (.istore 7, 2) := by decide +kernel
theorem dL_law_317 : decode cL_law 317 = .ok (.aload_n 2, 1) := by decide +kernel
theorem dL_law_318 : decode cL_law 318 = .ok (.invokevirtual 98, 3) := by decide +kernel
theorem dL_law_321 : decode cL_law 321 = .ok (.iload 6, 2) := by decide +kernel
theorem dL_law_323 : decode cL_law 323 = .ok (.if_icmp .eq 5, 3) := by decide +kernel
theorem dL_law_326 : decode cL_law 326 = .ok (.iconst 0, 1) := by decide +kernel
theorem dL_law_327 : decode cL_law 327 = .ok (.ireturn, 1) := by decide +kernel
theorem dL_law_328 : decode cL_law 328 = .ok (.iload 6, 2) := by decide +kernel
theorem dL_law_330 : decode cL_law 330 = .ok (.ifCond .ne 15, 3) := by decide +kernel
theorem dL_law_333 : decode cL_law 333 = .ok (.aload_n 3, 1) := by decide +kernel
theorem dL_law_334 : decode cL_law 334 = .ok (.iconst 0, 1) := by decide +kernel
theorem dL_law_335 : decode cL_law 335 = .ok (.laload, 1) := by decide +kernel
theorem dL_law_336 : decode cL_law 336 = .ok (.iload 7, 2) := by decide +kernel
theorem dL_law_338 : decode cL_law 338 = .ok (.i2l, 1) := by decide +kernel
theorem dL_law_339 : decode cL_law 339 = .ok (.lcmp, 1) := by decide +kernel
theorem dL_law_340 : decode cL_law 340 = .ok (.ifCond .eq 5, 3) := by decide +kernel
theorem dL_law_343 : decode cL_law 343 = .ok (.iconst 0, 1) := by decide +kernel
theorem dL_law_344 : decode cL_law 344 = .ok (.ireturn, 1) := by decide +kernel
theorem dL_law_345 : decode cL_law 345 = .ok (.goto 1209, 3) := by decide +kernel
theorem dL_law_348 : decode cL_law 348 = .ok (.aload_n 1, 1) := by decide +kernel
theorem dL_law_349 : decode cL_law 349 = .ok (.aload_n 0, 1) := by decide +kernel
theorem dL_law_350 : decode cL_law 350 = .ok (.iload 5, 2) := by decide +kernel
theorem dL_law_352 : decode cL_law 352 = .ok (.iconst 1, 1) := by decide +kernel
theorem dL_law_353 : decode cL_law 353 = .ok (.iadd, 1) := by decide +kernel
theorem dL_law_354 : decode cL_law 354 = .ok (.iaload, 1) := by decide +kernel
theorem dL_law_355 : decode cL_law 355 = .ok (.i2c, 1) := by decide +kernel
theorem dL_law_356 : decode cL_law 356 = .ok (.aload_n 0, 1) := by decide +kernel
theorem dL_law_357 : decode cL_law 357 = .ok (.iload 5, 2) := by decide +kernel
theorem dL_law_359 : decode cL_law 359 = .ok (.iconst 2, 1) := by decide +kernel
theorem dL_law_360 : decode cL_law 360 = .ok (.iadd, 1) := by decide +kernel
theorem dL_law_361 : decode cL_law 361 = .ok (.iaload, 1) := by decide +kernel
theorem dL_law_362 : decode cL_law 362 = .ok (.aload_n 0, 1) := by decide +kernel
theorem dL_law_363 : decode cL_law 363 = .ok (.iload 5, 2) := by decide +kernel
theorem dL_law_365 : decode cL_law 365 = .ok (.iconst 3, 1) := by decide +kernel
theorem dL_law_366 : decode cL_law 366 = .ok (.iadd, 1) := by decide +kernel
theorem dL_law_367 : decode cL_law 367 = .ok (.iaload, 1) := by decide +kernel
theorem dL_law_368 : decode cL_law 368 = .ok (.aload_n 3, 1) := by decide +kernel
theorem dL_law_369 : decode cL_law 369 = .ok (.invokestatic 109, 3) := by decide +kernel
theorem dL_law_372 : decode cL_law 372 = .ok (.istore 6, 2) := by decide +kernel
theorem dL_law_374 : decode cL_law 374 = .ok (.aload_n 2, 1) := by decide +kernel
theorem dL_law_375 : decode cL_law 375 = .ok (.aload_n 0, 1) := by decide +kernel
theorem dL_law_376 : decode cL_law 376 = .ok (.iload 5, 2) := by decide +kernel
theorem dL_law_378 : decode cL_law 378 = .ok (.iconst 1, 1) := by decide +kernel
theorem dL_law_379 : decode cL_law 379 = .ok (.iadd, 1) := by decide +kernel
theorem dL_law_380 : decode cL_law 380 = .ok (.iaload, 1) := by decide +kernel
theorem dL_law_381 : decode cL_law 381 = .ok (.i2c, 1) := by decide +kernel
theorem dL_law_382 : decode cL_law 382 = .ok (.aload_n 0, 1) := by decide +kernel
theorem dL_law_383 : decode cL_law 383 = .ok (.iload 5, 2) := by decide +kernel
theorem dL_law_385 : decode cL_law 385 = .ok (.iconst 2, 1) := by decide +kernel
theorem dL_law_386 : decode cL_law 386 = .ok (.iadd, 1) := by decide +kernel
theorem dL_law_387 : decode cL_law 387 = .ok (.iaload, 1) := by decide +kernel
theorem dL_law_388 : decode cL_law 388 = .ok (.aload_n 0, 1) := by decide +kernel
theorem dL_law_389 : decode cL_law 389 = .ok (.iload 5, 2) := by decide +kernel
theorem dL_law_391 : decode cL_law 391 = .ok (.iconst 3, 1) := by decide +kernel
theorem dL_law_392 : decode cL_law 392 = .ok (.iadd, 1) := by decide +kernel
theorem dL_law_393 : decode cL_law 393 = .ok (.iaload, 1) := by decide +kernel
theorem dL_law_394 : decode cL_law 394 = .ok (.invokevirtual 112, 3) := by decide +kernel
theorem dL_law_397 : decode cL_law 397 = .ok (.istore 7, 2) := by decide +kernel
theorem dL_law_399 : decode cL_law 399 = .ok (.aload_n 2, 1) := by decide +kernel
theorem dL_law_400 : decode cL_law 400 = .ok (.invokevirtual 98, 3) := by decide +kernel
theorem dL_law_403 : decode cL_law 403 = .ok (.iload 6, 2) := by decide +kernel
theorem dL_law_405 : decode cL_law 405 = .ok (.if_icmp .eq 5, 3) := by decide +kernel
theorem dL_law_408 : decode cL_law 408 = .ok (.iconst 0, 1) := by decide +kernel
theorem dL_law_409 : decode cL_law 409 = .ok (.ireturn, 1) := by decide +kernel
theorem dL_law_410 : decode cL_law 410 = .ok (.iload 6, 2) := by decide +kernel
theorem dL_law_412 : decode cL_law 412 = .ok (.ifCond .ne 15, 3) := by decide +kernel
theorem dL_law_415 : decode cL_law 415 = .ok (.aload_n 3, 1) := by decide +kernel
theorem dL_law_416 : decode cL_law 416 = .ok (.iconst 0, 1) := by decide +kernel
theorem dL_law_417 : decode cL_law 417 = .ok (.laload, 1) := by decide +kernel
theorem dL_law_418 : decode cL_law 418 = .ok (.iload 7, 2) := by decide +kernel
theorem dL_law_420 : decode cL_law 420 = .ok (.i2l, 1) := by decide +kernel
theorem dL_law_421 : decode cL_law 421 = .ok (.lcmp, 1) := by decide +kernel
theorem dL_law_422 : decode cL_law 422 = .ok (.ifCond .eq 5, 3) := by decide +kernel
theorem dL_law_425 : decode cL_law 425 = .ok (.iconst 0, 1) := by decide +kernel
theorem dL_law_426 : decode cL_law 426 = .ok (.ireturn, 1) := by decide +kernel
theorem dL_law_427 : decode cL_law 427 = .ok (.goto 1127, 3) := by decide +kernel
theorem dL_law_430 : decode cL_law 430 = .ok (.aload_n 1, 1) := by decide +kernel
theorem dL_law_431 : decode cL_law 431 = .ok (.aload_n 0, 1) := by decide +kernel
theorem dL_law_432 : decode cL_law 432 = .ok (.iload 5, 2) := by decide +kernel
theorem dL_law_434 : decode cL_law 434 = .ok (.iconst 1, 1) := by decide +kernel
theorem dL_law_435 : decode cL_law 435 = .ok (.iadd, 1) := by decide +kernel
theorem dL_law_436 : decode cL_law 436 = .ok (.iaload, 1) := by decide +kernel
theorem dL_law_437 : decode cL_law 437 = .ok (.aload_n 3, 1) := by decide +kernel
theorem dL_law_438 : decode cL_law 438 = .ok (.invokestatic 113, 3) := by decide +kernel
theorem dL_law_441 : decode cL_law 441 = .ok (.istore 6, 2) := by decide +kernel
theorem dL_law_443 : decode cL_law 443 = .ok (.aload_n 2, 1) := by decide +kernel
theorem dL_law_444 : decode cL_law 444 = .ok (.aload_n 0, 1) := by decide +kernel
theorem dL_law_445 : decode cL_law 445 = .ok (.iload 5, 2) := by decide +kernel
theorem dL_law_447 : decode cL_law 447 = .ok (.iconst 1, 1) := by decide +kernel
theorem dL_law_448 : decode cL_law 448 = .ok (.iadd, 1) := by decide +kernel
theorem dL_law_449 : decode cL_law 449 = .ok (.iaload, 1) := by decide +kernel
theorem dL_law_450 : decode cL_law 450 = .ok (.invokevirtual 115, 3) := by decide +kernel
theorem dL_law_453 : decode cL_law 453 = .ok (.istore 7, 2) := by decide +kernel
theorem dL_law_455 : decode cL_law 455 = .ok (.aload_n 2, 1) := by decide +kernel
theorem dL_law_456 : decode cL_law 456 = .ok (.invokevirtual 98, 3) := by decide +kernel
theorem dL_law_459 : decode cL_law 459 = .ok (.iload 6, 2) := by decide +kernel
theorem dL_law_461 : decode cL_law 461 = .ok (.if_icmp .eq 5, 3) := by decide +kernel
theorem dL_law_464 : decode cL_law 464 = .ok (.iconst 0, 1) := by decide +kernel
theorem dL_law_465 : decode cL_law 465 = .ok (.ireturn, 1) := by decide +kernel
theorem dL_law_466 : decode cL_law 466 = .ok (.iload 6, 2) := by decide +kernel
theorem dL_law_468 : decode cL_law 468 = .ok (.ifCond .ne 15, 3) := by decide +kernel
theorem dL_law_471 : decode cL_law 471 = .ok (.aload_n 3, 1) := by decide +kernel
theorem dL_law_472 : decode cL_law 472 = .ok (.iconst 0, 1) := by decide +kernel
theorem dL_law_473 : decode cL_law 473 = .ok (.laload, 1) := by decide +kernel
theorem dL_law_474 : decode cL_law 474 = .ok (.iload 7, 2) := by decide +kernel
theorem dL_law_476 : decode cL_law 476 = .ok (.i2l, 1) := by decide +kernel
theorem dL_law_477 : decode cL_law 477 = .ok (.lcmp, 1) := by decide +kernel
theorem dL_law_478 : decode cL_law 478 = .ok (.ifCond .eq 5, 3) := by decide +kernel
theorem dL_law_481 : decode cL_law 481 = .ok (.iconst 0, 1) := by decide +kernel
theorem dL_law_482 : decode cL_law 482 = .ok (.ireturn, 1) := by decide +kernel
theorem dL_law_483 : decode cL_law 483 = .ok (.goto 1071, 3) := by decide +kernel
theorem dL_law_486 : decode cL_law 486 = .ok (.aload_n 1, 1) := by decide +kernel
theorem dL_law_487 : decode cL_law 487 = .ok (.aload_n 0, 1) := by decide +kernel
theorem dL_law_488 : decode cL_law 488 = .ok (.iload 5, 2) := by decide +kernel
theorem dL_law_490 : decode cL_law 490 = .ok (.iconst 1, 1) := by decide +kernel
theorem dL_law_491 : decode cL_law 491 = .ok (.iadd, 1) := by decide +kernel
theorem dL_law_492 : decode cL_law 492 = .ok (.iaload, 1) := by decide +kernel
theorem dL_law_493 : decode cL_law 493 = .ok (.aload_n 0, 1) := by decide +kernel
theorem dL_law_494 : decode cL_law 494 = .ok (.iload 5, 2) := by decide +kernel
theorem dL_law_496 : decode cL_law 496 = .ok (.iconst 2, 1) := by decide +kernel
theorem dL_law_497 : decode cL_law 497 = .ok (.iadd, 1) := by decide +kernel
theorem dL_law_498 : decode cL_law 498 = .ok (.iaload, 1) := by decide +kernel
theorem dL_law_499 : decode cL_law 499 = .ok (.aload_n 0, 1) := by decide +kernel
theorem dL_law_500 : decode cL_law 500 = .ok (.iload 5, 2) := by decide +kernel
theorem dL_law_502 : decode cL_law 502 = .ok (.iconst 3, 1) := by decide +kernel
theorem dL_law_503 : decode cL_law 503 = .ok (.iadd, 1) := by decide +kernel
theorem dL_law_504 : decode cL_law 504 = .ok (.iaload, 1) := by decide +kernel
theorem dL_law_505 : decode cL_law 505 = .ok (.aload_n 0, 1) := by decide +kernel
theorem dL_law_506 : decode cL_law 506 = .ok (.iload 5, 2) := by decide +kernel
theorem dL_law_508 : decode cL_law 508 = .ok (.iconst 4, 1) := by decide +kernel
theorem dL_law_509 : decode cL_law 509 = .ok (.iadd, 1) := by decide +kernel
theorem dL_law_510 : decode cL_law 510 = .ok (.iaload, 1) := by decide +kernel
theorem dL_law_511 : decode cL_law 511 = .ok (.aload_n 3, 1) := by decide +kernel
theorem dL_law_512 : decode cL_law 512 = .ok (.invokestatic 116, 3) := by decide +kernel
theorem dL_law_515 : decode cL_law 515 = .ok (.istore 6, 2) := by decide +kernel
theorem dL_law_517 : decode cL_law 517 = .ok (.aload_n 2, 1) := by decide +kernel
theorem dL_law_518 : decode cL_law 518 = .ok (.aload_n 0, 1) := by decide +kernel
theorem dL_law_519 : decode cL_law 519 = .ok (.iload 5, 2) := by decide +kernel
theorem dL_law_521 : decode cL_law 521 = .ok (.iconst 1, 1) := by decide +kernel
theorem dL_law_522 : decode cL_law 522 = .ok (.iadd, 1) := by decide +kernel
theorem dL_law_523 : decode cL_law 523 = .ok (.iaload, 1) := by decide +kernel
theorem dL_law_524 : decode cL_law 524 = .ok (.aload_n 0, 1) := by decide +kernel
theorem dL_law_525 : decode cL_law 525 = .ok (.iload 5, 2) := by decide +kernel
theorem dL_law_527 : decode cL_law 527 = .ok (.iconst 2, 1) := by decide +kernel
theorem dL_law_528 : decode cL_law 528 = .ok (.iadd, 1) := by decide +kernel
theorem dL_law_529 : decode cL_law 529 = .ok (.iaload, 1) := by decide +kernel
theorem dL_law_530 : decode cL_law 530 = .ok (.aload_n 0, 1) := by decide +kernel
theorem dL_law_531 : decode cL_law 531 = .ok (.iload 5, 2) := by decide +kernel
theorem dL_law_533 : decode cL_law 533 = .ok (.iconst 3, 1) := by decide +kernel
theorem dL_law_534 : decode cL_law 534 = .ok (.iadd, 1) := by decide +kernel
theorem dL_law_535 : decode cL_law 535 = .ok (.iaload, 1) := by decide +kernel
theorem dL_law_536 : decode cL_law 536 = .ok (.aload_n 0, 1) := by decide +kernel
theorem dL_law_537 : decode cL_law 537 = .ok (.iload 5, 2) := by decide +kernel
theorem dL_law_539 : decode cL_law 539 = .ok (.iconst 4, 1) := by decide +kernel
theorem dL_law_540 : decode cL_law 540 = .ok (.iadd, 1) := by decide +kernel
theorem dL_law_541 : decode cL_law 541 = .ok (.iaload, 1) := by decide +kernel
theorem dL_law_542 : decode cL_law 542 = .ok (.invokevirtual 119, 3) := by decide +kernel
theorem dL_law_545 : decode cL_law 545 = .ok (.istore 7, 2) := by decide +kernel
theorem dL_law_547 : decode cL_law 547 = .ok (.aload_n 2, 1) := by decide +kernel
theorem dL_law_548 : decode cL_law 548 = .ok (.invokevirtual 98, 3) := by decide +kernel
end
section
theorem dL_law_551 : decode cL_law 551 = .ok (.iload 6, 2) := by decide +kernel
theorem dL_law_553 : decode cL_law 553 = .ok (.if_icmp .eq 5, 3) := by decide +kernel
theorem dL_law_556 : decode cL_law 556 = .ok (.iconst 0, 1) := by decide +kernel
theorem dL_law_557 : decode cL_law 557 = .ok (.ireturn, 1) := by decide +kernel
theorem dL_law_558 : decode cL_law 558 = .ok (.iload 6, 2) := by decide +kernel
theorem dL_law_560 : decode cL_law 560 = .ok (.ifCond .ne 15, 3) := by decide +kernel
theorem dL_law_563 : decode cL_law 563 = .ok (.aload_n 3, 1) := by decide +kernel
theorem dL_law_564 : decode cL_law 564 = .ok (.iconst 0, 1) := by decide +kernel
theorem dL_law_565 : decode cL_law 565 = .ok (.laload, 1) := by decide +kernel
theorem dL_law_566 : decode cL_law 566 = .ok (.iload 7, 2) := by decide +kernel
theorem dL_law_568 : decode cL_law 568 = .ok (.i2l, 1) := by decide +kernel
theorem dL_law_569 : decode cL_law 569 = .ok (.lcmp, 1) := by decide +kernel
theorem dL_law_570 : decode cL_law 570 = .ok (.ifCond .eq 5, 3) := by decide +kernel
theorem dL_law_573 : decode cL_law 573 = .ok (.iconst 0, 1) := by decide +kernel
theorem dL_law_574 : decode cL_law 574 = .ok (.ireturn, 1) := by decide +kernel
theorem dL_law_575 : decode cL_law 575 = .ok (.goto 979, 3) := by decide +kernel
theorem dL_law_578 : decode cL_law 578 = .ok (.aload_n 1, 1) := by decide +kernel
theorem dL_law_579 : decode cL_law 579 = .ok (.aload_n 0, 1) := by decide +kernel
theorem dL_law_580 : decode cL_law 580 = .ok (.iload 5, 2) := by decide +kernel
theorem dL_law_582 : decode cL_law 582 = .ok (.iconst 1, 1) := by decide +kernel
theorem dL_law_583 : decode cL_law 583 = .ok (.iadd, 1) := by decide +kernel
theorem dL_law_584 : decode cL_law 584 = .ok (.iaload, 1) := by decide +kernel
theorem dL_law_585 : decode cL_law 585 = .ok (.aload_n 0, 1) := by decide +kernel
theorem dL_law_586 : decode cL_law 586 = .ok (.iload 5, 2) := by decide +kernel
theorem dL_law_588 : decode cL_law 588 = .ok (.iconst 2, 1) := by decide +kernel
theorem dL_law_589 : decode cL_law 589 = .ok (.iadd, 1) := by decide +kernel
theorem dL_law_590 : decode cL_law 590 = .ok (.iaload, 1) := by decide +kernel
theorem dL_law_591 : decode cL_law 591 = .ok (.aload_n 0, 1) := by decide +kernel
theorem dL_law_592 : decode cL_law 592 = .ok (.iload 5, 2) := by decide +kernel
theorem dL_law_594 : decode cL_law 594 = .ok (.iconst 3, 1) := by decide +kernel
theorem dL_law_595 : decode cL_law 595 = .ok (.iadd, 1) := by decide +kernel
theorem dL_law_596 : decode cL_law 596 = .ok (.iaload, 1) := by decide +kernel
theorem dL_law_597 : decode cL_law 597 = .ok (.aload_n 3, 1) := by decide +kernel
theorem dL_law_598 : decode cL_law 598 = .ok (.invokestatic 120, 3) := by decide +kernel
theorem dL_law_601 : decode cL_law 601 = .ok (.istore 6, 2) := by decide +kernel
theorem dL_law_603 : decode cL_law 603 = .ok (.aload_n 2, 1) := by decide +kernel
theorem dL_law_604 : decode cL_law 604 = .ok (.aload_n 0, 1) := by decide +kernel
theorem dL_law_605 : decode cL_law 605 = .ok (.iload 5, 2) := by decide +kernel
theorem dL_law_607 : decode cL_law 607 = .ok (.iconst 1, 1) := by decide +kernel
theorem dL_law_608 : decode cL_law 608 = .ok (.iadd, 1) := by decide +kernel
theorem dL_law_609 : decode cL_law 609 = .ok (.iaload, 1) := by decide +kernel
theorem dL_law_610 : decode cL_law 610 = .ok (.aload_n 0, 1) := by decide +kernel
theorem dL_law_611 : decode cL_law 611 = .ok (.iload 5, 2) := by decide +kernel
theorem dL_law_613 : decode cL_law 613 = .ok (.iconst 2, 1) := by decide +kernel
theorem dL_law_614 : decode cL_law 614 = .ok (.iadd, 1) := by decide +kernel
theorem dL_law_615 : decode cL_law 615 = .ok (.iaload, 1) := by decide +kernel
theorem dL_law_616 : decode cL_law 616 = .ok (.aload_n 0, 1) := by decide +kernel
theorem dL_law_617 : decode cL_law 617 = .ok (.iload 5, 2) := by decide +kernel
theorem dL_law_619 : decode cL_law 619 = .ok (.iconst 3, 1) := by decide +kernel
theorem dL_law_620 : decode cL_law 620 = .ok (.iadd, 1) := by decide +kernel
theorem dL_law_621 : decode cL_law 621 = .ok (.iaload, 1) := by decide +kernel
theorem dL_law_622 : decode cL_law 622 = .ok (.invokevirtual 122, 3) := by decide +kernel
theorem dL_law_625 : decode cL_law 625 = .ok (.istore 7, 2) := by decide +kernel
theorem dL_law_627 : decode cL_law 627 = .ok (.aload_n 2, 1) := by decide +kernel
theorem dL_law_628 : decode cL_law 628 = .ok (.invokevirtual 98, 3) := by decide +kernel
theorem dL_law_631 : decode cL_law 631 = .ok (.iload 6, 2) := by decide +kernel
theorem dL_law_633 : decode cL_law 633 = .ok (.if_icmp .eq 5, 3) := by decide +kernel
theorem dL_law_636 : decode cL_law 636 = .ok (.iconst 0, 1) := by decide +kernel
theorem dL_law_637 : decode cL_law 637 = .ok (.ireturn, 1) := by decide +kernel
theorem dL_law_638 : decode cL_law 638 = .ok (.iload 6, 2) := by decide +kernel
theorem dL_law_640 : decode cL_law 640 = .ok (.ifCond .ne 15, 3) := by decide +kernel
theorem dL_law_643 : decode cL_law 643 = .ok (.aload_n 3, 1) := by decide +kernel
theorem dL_law_644 : decode cL_law 644 = .ok (.iconst 0, 1) := by decide +kernel
theorem dL_law_645 : decode cL_law 645 = .ok (.laload, 1) := by decide +kernel
theorem dL_law_646 : decode cL_law 646 = .ok (.iload 7, 2) := by decide +kernel
theorem dL_law_648 : decode cL_law 648 = .ok (.i2l, 1) := by decide +kernel
theorem dL_law_649 : decode cL_law 649 = .ok (.lcmp, 1) := by decide +kernel
theorem dL_law_650 : decode cL_law 650 = .ok (.ifCond .eq 5, 3) := by decide +kernel
theorem dL_law_653 : decode cL_law 653 = .ok (.iconst 0, 1) := by decide +kernel
theorem dL_law_654 : decode cL_law 654 = .ok (.ireturn, 1) := by decide +kernel
theorem dL_law_655 : decode cL_law 655 = .ok (.goto 899, 3) := by decide +kernel
theorem dL_law_658 : decode cL_law 658 = .ok (.aload_n 1, 1) := by decide +kernel
theorem dL_law_659 : decode cL_law 659 = .ok (.aload_n 0, 1) := by decide +kernel
theorem dL_law_660 : decode cL_law 660 = .ok (.iload 5, 2) := by decide +kernel
theorem dL_law_662 : decode cL_law 662 = .ok (.iconst 1, 1) := by decide +kernel
theorem dL_law_663 : decode cL_law 663 = .ok (.iadd, 1) := by decide +kernel
theorem dL_law_664 : decode cL_law 664 = .ok (.iaload, 1) := by decide +kernel
theorem dL_law_665 : decode cL_law 665 = .ok (.aload_n 0, 1) := by decide +kernel
theorem dL_law_666 : decode cL_law 666 = .ok (.iload 5, 2) := by decide +kernel
theorem dL_law_668 : decode cL_law 668 = .ok (.iconst 2, 1) := by decide +kernel
theorem dL_law_669 : decode cL_law 669 = .ok (.iadd, 1) := by decide +kernel
theorem dL_law_670 : decode cL_law 670 = .ok (.iaload, 1) := by decide +kernel
theorem dL_law_671 : decode cL_law 671 = .ok (.aload_n 0, 1) := by decide +kernel
theorem dL_law_672 : decode cL_law 672 = .ok (.iload 5, 2) := by decide +kernel
theorem dL_law_674 : decode cL_law 674 = .ok (.iconst 3, 1) := by decide +kernel
theorem dL_law_675 : decode cL_law 675 = .ok (.iadd, 1) := by decide +kernel
theorem dL_law_676 : decode cL_law 676 = .ok (.iaload, 1) := by decide +kernel
theorem dL_law_677 : decode cL_law 677 = .ok (.aload_n 3, 1) := by decide +kernel
theorem dL_law_678 : decode cL_law 678 = .ok (.invokestatic 123, 3) := by decide +kernel
theorem dL_law_681 : decode cL_law 681 = .ok (.istore 6, 2) := by decide +kernel
theorem dL_law_683 : decode cL_law 683 = .ok (.aload_n 2, 1) := by decide +kernel
theorem dL_law_684 : decode cL_law 684 = .ok (.aload_n 0, 1) := by decide +kernel
theorem dL_law_685 : decode cL_law 685 = .ok (.iload 5, 2) := by decide +kernel
theorem dL_law_687 : decode cL_law 687 = .ok (.iconst 1, 1) := by decide +kernel
theorem dL_law_688 : decode cL_law 688 = .ok (.iadd, 1) := by decide +kernel
theorem dL_law_689 : decode cL_law 689 = .ok (.iaload, 1) := by decide +kernel
theorem dL_law_690 : decode cL_law 690 = .ok (.aload_n 0, 1) := by decide +kernel
theorem dL_law_691 : decode cL_law 691 = .ok (.iload 5, 2) := by decide +kernel
theorem dL_law_693 : decode cL_law 693 = .ok (.iconst 2, 1) := by decide +kernel
theorem dL_law_694 : decode cL_law 694 = .ok (.iadd, 1) := by decide +kernel
theorem dL_law_695 : decode cL_law 695 = .ok (.iaload, 1) := by decide +kernel
theorem dL_law_696 : decode cL_law 696 = .ok (.aload_n 0, 1) := by decide +kernel
theorem dL_law_697 : decode cL_law 697 = .ok (.iload 5, 2) := by decide +kernel
theorem dL_law_699 : decode cL_law 699 = .ok (.iconst 3, 1) := by decide +kernel
theorem dL_law_700 : decode cL_law 700 = .ok (.iadd, 1) := by decide +kernel
theorem dL_law_701 : decode cL_law 701 = .ok (.iaload, 1) := by decide +kernel
theorem dL_law_702 : decode cL_law 702 = .ok (.invokevirtual 125, 3) := by decide +kernel
theorem dL_law_705 : decode cL_law 705 = .ok (.istore 7, 2) := by decide +kernel
theorem dL_law_707 : decode cL_law 707 = .ok (.aload_n 2, 1) := by decide +kernel
theorem dL_law_708 : decode cL_law 708 = .ok (.invokevirtual 98, 3) := by decide +kernel
theorem dL_law_711 : decode cL_law 711 = .ok (.iload 6, 2) := by decide +kernel
theorem dL_law_713 : decode cL_law 713 = .ok (.if_icmp .eq 5, 3) := by decide +kernel
theorem dL_law_716 : decode cL_law 716 = .ok (.iconst 0, 1) := by decide +kernel
theorem dL_law_717 : decode cL_law 717 = .ok (.ireturn, 1) := by decide +kernel
theorem dL_law_718 : decode cL_law 718 = .ok (.iload 6, 2) := by decide +kernel
theorem dL_law_720 : decode cL_law 720 = .ok (.ifCond .ne 15, 3) := by decide +kernel
theorem dL_law_723 : decode cL_law 723 = .ok (.aload_n 3, 1) := by decide +kernel
theorem dL_law_724 : decode cL_law 724 = .ok (.iconst 0, 1) := by decide +kernel
theorem dL_law_725 : decode cL_law 725 = .ok (.laload, 1) := by decide +kernel
theorem dL_law_726 : decode cL_law 726 = .ok (.iload 7, 2) := by decide +kernel
theorem dL_law_728 : decode cL_law 728 = .ok (.i2l, 1) := by decide +kernel
theorem dL_law_729 : decode cL_law 729 = .ok (.lcmp, 1) := by decide +kernel
theorem dL_law_730 : decode cL_law 730 = .ok (.ifCond .eq 5, 3) := by decide +kernel
theorem dL_law_733 : decode cL_law 733 = .ok (.iconst 0, 1) := by decide +kernel
theorem dL_law_734 : decode cL_law 734 = .ok (.ireturn, 1) := by decide +kernel
theorem dL_law_735 : decode cL_law 735 = .ok (.goto 819, 3) := by decide +kernel
theorem dL_law_738 : decode cL_law 738 = .ok (.aload_n 1, 1) := by decide +kernel
theorem dL_law_739 : decode cL_law 739 = .ok (.aload_n 0, 1) := by decide +kernel
theorem dL_law_740 : decode cL_law 740 = .ok (.iload 5, 2) := by decide +kernel
theorem dL_law_742 : decode cL_law 742 = .ok (.iconst 1, 1) := by decide +kernel
theorem dL_law_743 : decode cL_law 743 = .ok (.iadd, 1) := by decide +kernel
theorem dL_law_744 : decode cL_law 744 = .ok (.iaload, 1) := by decide +kernel
theorem dL_law_745 : decode cL_law 745 = .ok (.aload_n 0, 1) := by decide +kernel
theorem dL_law_746 : decode cL_law 746 = .ok (.iload 5, 2) := by decide +kernel
theorem dL_law_748 : decode cL_law 748 = .ok (.iconst 2, 1) := by decide +kernel
theorem dL_law_749 : decode cL_law 749 = .ok (.iadd, 1) := by decide +kernel
theorem dL_law_750 : decode cL_law 750 = .ok (.iaload, 1) := by decide +kernel
theorem dL_law_751 : decode cL_law 751 = .ok (.aload_n 3, 1) := by decide +kernel
theorem dL_law_752 : decode cL_law 752 = .ok (.invokestatic 126, 3) := by decide +kernel
theorem dL_law_755 : decode cL_law 755 = .ok (.istore 6, 2) := by decide +kernel
theorem dL_law_757 : decode cL_law 757 = .ok (.aload_n 2, 1) := by decide +kernel
theorem dL_law_758 : decode cL_law 758 = .ok (.aload_n 0, 1) := by decide +kernel
theorem dL_law_759 : decode cL_law 759 = .ok (.iload 5, 2) := by decide +kernel
theorem dL_law_761 : decode cL_law 761 = .ok (.iconst 1, 1) := by decide +kernel
theorem dL_law_762 : decode cL_law 762 = .ok (.iadd, 1) := by decide +kernel
theorem dL_law_763 : decode cL_law 763 = .ok (.iaload, 1) := by decide +kernel
theorem dL_law_764 : decode cL_law 764 = .ok (.aload_n 0, 1) := by decide +kernel
theorem dL_law_765 : decode cL_law 765 = .ok (.iload 5, 2) := by decide +kernel
theorem dL_law_767 : decode cL_law 767 = .ok (.iconst 2, 1) := by decide +kernel
theorem dL_law_768 : decode cL_law 768 = .ok (.iadd, 1) := by decide +kernel
theorem dL_law_769 : decode cL_law 769 = .ok (.iaload, 1) := by decide +kernel
theorem dL_law_770 : decode cL_law 770 = .ok (.invokevirtual 128, 3) := by decide +kernel
theorem dL_law_773 : decode cL_law 773 = .ok (.lstore 7, 2) := by decide +kernel
theorem dL_law_775 : decode cL_law 775 = .ok (.aload_n 2, 1) := by decide +kernel
theorem dL_law_776 : decode cL_law 776 = .ok (.invokevirtual 98, 3) := by decide +kernel
theorem dL_law_779 : decode cL_law 779 = .ok (.iload 6, 2) := by decide +kernel
theorem dL_law_781 : decode cL_law 781 = .ok (.if_icmp .eq 5, 3) := by decide +kernel
theorem dL_law_784 : decode cL_law 784 = .ok (.iconst 0, 1) := by decide +kernel
theorem dL_law_785 : decode cL_law 785 = .ok (.ireturn, 1) := by decide +kernel
theorem dL_law_786 : decode cL_law 786 = .ok (.iload 6, 2) := by decide +kernel
theorem dL_law_788 : decode cL_law 788 = .ok (.ifCond .ne 14, 3) := by decide +kernel
theorem dL_law_791 : decode cL_law 791 = .ok (.aload_n 3, 1) := by decide +kernel
theorem dL_law_792 : decode cL_law 792 = .ok (.iconst 0, 1) := by decide +kernel
theorem dL_law_793 : decode cL_law 793 = .ok (.laload, 1) := by decide +kernel
theorem dL_law_794 : decode cL_law 794 = .ok (.lload 7, 2) := by decide +kernel
theorem dL_law_796 : decode cL_law 796 = .ok (.lcmp, 1) := by decide +kernel
theorem dL_law_797 : decode cL_law 797 = .ok (.ifCond .eq 5, 3) := by decide +kernel
theorem dL_law_800 : decode cL_law 800 = .ok (.iconst 0, 1) := by decide +kernel
theorem dL_law_801 : decode cL_law 801 = .ok (.ireturn, 1) := by decide +kernel
theorem dL_law_802 : decode cL_law 802 = .ok (.goto 752, 3) := by decide +kernel
theorem dL_law_805 : decode cL_law 805 = .ok (.aload_n 1, 1) := by decide +kernel
theorem dL_law_806 : decode cL_law 806 = .ok (.aload_n 0, 1) := by decide +kernel
theorem dL_law_807 : decode cL_law 807 = .ok (.iload 5, 2) := by decide +kernel
theorem dL_law_809 : decode cL_law 809 = .ok (.iconst 1, 1) := by decide +kernel
theorem dL_law_810 : decode cL_law 810 = .ok (.iadd, 1) := by decide +kernel
theorem dL_law_811 : decode cL_law 811 = .ok (.iaload, 1) := by decide +kernel
theorem dL_law_812 : decode cL_law 812 = .ok (.aload_n 0, 1) := by decide +kernel
theorem dL_law_813 : decode cL_law 813 = .ok (.iload 5, 2) := by decide +kernel
theorem dL_law_815 : decode cL_law 815 = .ok (.iconst 2, 1) := by decide +kernel
theorem dL_law_816 : decode cL_law 816 = .ok (.iadd, 1) := by decide +kernel
theorem dL_law_817 : decode cL_law 817 = .ok (.iaload, 1) := by decide +kernel
theorem dL_law_818 : decode cL_law 818 = .ok (.aload_n 0, 1) := by decide +kernel
theorem dL_law_819 : decode cL_law 819 = .ok (.iload 5, 2) := by decide +kernel
theorem dL_law_821 : decode cL_law 821 = .ok (.iconst 3, 1) := by decide +kernel
theorem dL_law_822 : decode cL_law 822 = .ok (.iadd, 1) := by decide +kernel
theorem dL_law_823 : decode cL_law 823 = .ok (.iaload, 1) := by decide +kernel
theorem dL_law_824 : decode cL_law 824 = .ok (.aload_n 0, 1) := by decide +kernel
theorem dL_law_825 : decode cL_law 825 = .ok (.iload 5, 2) := by decide +kernel
theorem dL_law_827 : decode cL_law 827 = .ok (.iconst 4, 1) := by decide +kernel
theorem dL_law_828 : decode cL_law 828 = .ok (.iadd, 1) := by decide +kernel
theorem dL_law_829 : decode cL_law 829 = .ok (.iaload, 1) := by decide +kernel
theorem dL_law_830 : decode cL_law 830 = .ok (.aload_n 3, 1) := by decide +kernel
theorem dL_law_831 : decode cL_law 831 = .ok (.invokestatic 129, 3) := by decide +kernel
theorem dL_law_834 : decode cL_law 834 = .ok (.istore 6, 2) := by decide +kernel
theorem dL_law_836 : decode cL_law 836 = .ok (.aload_n 2, 1) := by decide +kernel
theorem dL_law_837 : decode cL_law 837 = .ok (.aload_n 0, 1) := by decide +kernel
theorem dL_law_838 : decode cL_law 838 = .ok (.iload 5, 2) := by decide +kernel
theorem dL_law_840 : decode cL_law 840 = .ok (.iconst 1, 1) := by decide +kernel
theorem dL_law_841 : decode cL_law 841 = .ok (.iadd, 1) := by decide +kernel
theorem dL_law_842 : decode cL_law 842 = .ok (.iaload, 1) := by decide +kernel
theorem dL_law_843 : decode cL_law 843 = .ok (.aload_n 0, 1) := by decide +kernel
theorem dL_law_844 : decode cL_law 844 = .ok (.iload 5, 2) := by decide +kernel
theorem dL_law_846 : decode cL_law 846 = .ok (.iconst 2, 1) := by decide +kernel
theorem dL_law_847 : decode cL_law 847 = .ok (.iadd, 1) := by decide +kernel
theorem dL_law_848 : decode cL_law 848 = .ok (.iaload, 1) := by decide +kernel
theorem dL_law_849 : decode cL_law 849 = .ok (.aload_n 0, 1) := by decide +kernel
theorem dL_law_850 : decode cL_law 850 = .ok (.iload 5, 2) := by decide +kernel
theorem dL_law_852 : decode cL_law 852 = .ok (.iconst 3, 1) := by decide +kernel
theorem dL_law_853 : decode cL_law 853 = .ok (.iadd, 1) := by decide +kernel
theorem dL_law_854 : decode cL_law 854 = .ok (.iaload, 1) := by decide +kernel
theorem dL_law_855 : decode cL_law 855 = .ok (.aload_n 0, 1) := by decide +kernel
theorem dL_law_856 : decode cL_law 856 = .ok (.iload 5, 2) := by decide +kernel
theorem dL_law_858 : decode cL_law 858 = .ok (.iconst 4, 1) := by decide +kernel
theorem dL_law_859 : decode cL_law 859 = .ok (.iadd, 1) := by decide +kernel
theorem dL_law_860 : decode cL_law 860 = .ok (.iaload, 1) := by decide +kernel
theorem dL_law_861 : decode cL_law 861 = .ok (.invokevirtual 131, 3) := by decide +kernel
theorem dL_law_864 : decode cL_law 864 = .ok (.istore 7, 2) := by decide +kernel
theorem dL_law_866 : decode cL_law 866 = .ok (.aload_n 2, 1) := by decide +kernel
theorem dL_law_867 : decode cL_law 867 = .ok (.invokevirtual 98, 3) := by decide +kernel
theorem dL_law_870 : decode cL_law 870 = .ok (.iload 6, 2) := by decide +kernel
theorem dL_law_872 : decode cL_law 872 = .ok (.if_icmp .eq 5, 3) := by decide +kernel
theorem dL_law_875 : decode cL_law 875 = .ok (.iconst 0, 1) := by decide +kernel
theorem dL_law_876 : decode cL_law 876 = .ok (.ireturn, 1) := by decide +kernel
theorem dL_law_877 : decode cL_law 877 = .ok (.iload 6, 2) := by decide +kernel
theorem dL_law_879 : decode cL_law 879 = .ok (.ifCond .ne 15, 3) := by decide +kernel
theorem dL_law_882 : decode cL_law 882 = .ok (.aload_n 3, 1) := by decide +kernel
theorem dL_law_883 : decode cL_law 883 = .ok (.iconst 0, 1) := by decide +kernel
theorem dL_law_884 : decode cL_law 884 = .ok (.laload, 1) := by decide +kernel
theorem dL_law_885 : decode cL_law 885 = .ok (.iload 7, 2) := by decide +kernel
theorem dL_law_887 : decode cL_law 887 = .ok (.i2l, 1) := by decide +kernel
theorem dL_law_888 : decode cL_law 888 = .ok (.lcmp, 1) := by decide +kernel
theorem dL_law_889 : decode cL_law 889 = .ok (.ifCond .eq 5, 3) := by decide +kernel
theorem dL_law_892 : decode cL_law 892 = .ok (.iconst 0, 1) := by decide +kernel
theorem dL_law_893 : decode cL_law 893 = .ok (.ireturn, 1) := by decide +kernel
theorem dL_law_894 : decode cL_law 894 = .ok (.goto 660, 3) := by decide +kernel
theorem dL_law_897 : decode cL_law 897 = .ok (.aload_n 1, 1) := by decide +kernel
theorem dL_law_898 : decode cL_law 898 = .ok (.aload_n 0, 1) := by decide +kernel
theorem dL_law_899 : decode cL_law 899 = .ok (.iload 5, 2) := by decide +kernel
theorem dL_law_901 : decode cL_law 901 = .ok (.iconst 1, 1) := by decide +kernel
theorem dL_law_902 : decode cL_law 902 = .ok (.iadd, 1) := by decide +kernel
theorem dL_law_903 : decode cL_law 903 = .ok (.iaload, 1) := by decide +kernel
theorem dL_law_904 : decode cL_law 904 = .ok (.aload_n 0, 1) := by decide +kernel
theorem dL_law_905 : decode cL_law 905 = .ok (.iload 5, 2) := by decide +kernel
theorem dL_law_907 : decode cL_law 907 = .ok (.iconst 2, 1) := by decide +kernel
theorem dL_law_908 : decode cL_law 908 = .ok (.iadd, 1) := by decide +kernel
theorem dL_law_909 : decode cL_law 909 = .ok (.iaload, 1) := by decide +kernel
theorem dL_law_910 : decode cL_law 910 = .ok (.aload_n 0, 1) := by decide +kernel
theorem dL_law_911 : decode cL_law 911 = .ok (.iload 5, 2) := by decide +kernel
theorem dL_law_913 : decode cL_law 913 = .ok (.iconst 3, 1) := by decide +kernel
theorem dL_law_914 : decode cL_law 914 = .ok (.iadd, 1) := by decide +kernel
theorem dL_law_915 : decode cL_law 915 = .ok (.iaload, 1) := by decide +kernel
theorem dL_law_916 : decode cL_law 916 = .ok (.aload_n 0, 1) := by decide +kernel
theorem dL_law_917 : decode cL_law 917 = .ok (.iload 5, 2) := by decide +kernel
theorem dL_law_919 : decode cL_law 919 = .ok (.iconst 4, 1) := by decide +kernel
theorem dL_law_920 : decode cL_law 920 = .ok (.iadd, 1) := by decide +kernel
theorem dL_law_921 : decode cL_law 921 = .ok (.iaload, 1) := by decide +kernel
theorem dL_law_922 : decode cL_law 922 = .ok (.aload_n 3, 1) := by decide +kernel
theorem dL_law_923 : decode cL_law 923 = .ok (.invokestatic 132, 3) := by decide +kernel
theorem dL_law_926 : decode cL_law 926 = .ok (.istore 6, 2) := by decide +kernel
theorem dL_law_928 : decode cL_law 928 = .ok (.aload_n 2, 1) := by decide +kernel
theorem dL_law_929 : decode cL_law 929 = .ok (.aload_n 0, 1) := by decide +kernel
theorem dL_law_930 : decode cL_law 930 = .ok (.iload 5, 2) := by decide +kernel
theorem dL_law_932 : decode cL_law 932 = .ok (.iconst 1, 1) := by decide +kernel
theorem dL_law_933 : decode cL_law 933 = .ok (.iadd, 1) := by decide +kernel
theorem dL_law_934 : decode cL_law 934 = .ok (.iaload, 1) := by decide +kernel
theorem dL_law_935 : decode cL_law 935 = .ok (.aload_n 0, 1) := by decide +kernel
theorem dL_law_936 : decode cL_law 936 = .ok (.iload 5, 2) := by decide +kernel
theorem dL_law_938 : decode cL_law 938 = .ok (.iconst 2, 1) := by decide +kernel
theorem dL_law_939 : decode cL_law 939 = .ok (.iadd, 1) := by decide +kernel
theorem dL_law_940 : decode cL_law 940 = .ok (.iaload, 1) := by decide +kernel
theorem dL_law_941 : decode cL_law 941 = .ok (.aload_n 0, 1) := by decide +kernel
theorem dL_law_942 : decode cL_law 942 = .ok (.iload 5, 2) := by decide +kernel
theorem dL_law_944 : decode cL_law 944 = .ok (.iconst 3, 1) := by decide +kernel
theorem dL_law_945 : decode cL_law 945 = .ok (.iadd, 1) := by decide +kernel
theorem dL_law_946 : decode cL_law 946 = .ok (.iaload, 1) := by decide +kernel
theorem dL_law_947 : decode cL_law 947 = .ok (.aload_n 0, 1) := by decide +kernel
theorem dL_law_948 : decode cL_law 948 = .ok (.iload 5, 2) := by decide +kernel
theorem dL_law_950 : decode cL_law 950 = .ok (.iconst 4, 1) := by decide +kernel
theorem dL_law_951 : decode cL_law 951 = .ok (.iadd, 1) := by decide +kernel
theorem dL_law_952 : decode cL_law 952 = .ok (.iaload, 1) := by decide +kernel
theorem dL_law_953 : decode cL_law 953 = .ok (.invokevirtual 134, 3) := by decide +kernel
theorem dL_law_956 : decode cL_law 956 = .ok (.istore 7, 2) := by decide +kernel
theorem dL_law_958 : decode cL_law 958 = .ok (.aload_n 2, 1) := by decide +kernel
theorem dL_law_959 : decode cL_law 959 = .ok (.invokevirtual 98, 3) := by decide +kernel
theorem dL_law_962 : decode cL_law 962 = .ok (.iload 6, 2) := by decide +kernel
theorem dL_law_964 : decode cL_law 964 = .ok (.if_icmp .eq 5, 3) := by decide +kernel
theorem dL_law_967 : decode cL_law 967 = .ok (.iconst 0, 1) := by decide +kernel
theorem dL_law_968 : decode cL_law 968 = .ok (.ireturn, 1) := by decide +kernel
theorem dL_law_969 : decode cL_law 969 = .ok (.iload 6, 2) := by decide +kernel
theorem dL_law_971 : decode cL_law 971 = .ok (.ifCond .ne 15, 3) := by decide +kernel
theorem dL_law_974 : decode cL_law 974 = .ok (.aload_n 3, 1) := by decide +kernel
theorem dL_law_975 : decode cL_law 975 = .ok (.iconst 0, 1) := by decide +kernel
theorem dL_law_976 : decode cL_law 976 = .ok (.laload, 1) := by decide +kernel
theorem dL_law_977 : decode cL_law 977 = .ok (.iload 7, 2) := by decide +kernel
theorem dL_law_979 : decode cL_law 979 = .ok (.i2l, 1) := by decide +kernel
theorem dL_law_980 : decode cL_law 980 = .ok (.lcmp, 1) := by decide +kernel
theorem dL_law_981 : decode cL_law 981 = .ok (.ifCond .eq 5, 3) := by decide +kernel
theorem dL_law_984 : decode cL_law 984 = .ok (.iconst 0, 1) := by decide +kernel
theorem dL_law_985 : decode cL_law 985 = .ok (.ireturn, 1) := by decide +kernel
theorem dL_law_986 : decode cL_law 986 = .ok (.goto 568, 3) := by decide +kernel
theorem dL_law_989 : decode cL_law 989 = .ok (.aload_n 1, 1) := by decide +kernel
theorem dL_law_990 : decode cL_law 990 = .ok (.aload_n 0, 1) := by decide +kernel
theorem dL_law_991 : decode cL_law 991 = .ok (.iload 5, 2) := by decide +kernel
theorem dL_law_993 : decode cL_law 993 = .ok (.iconst 1, 1) := by decide +kernel
theorem dL_law_994 : decode cL_law 994 = .ok (.iadd, 1) := by decide +kernel
theorem dL_law_995 : decode cL_law 995 = .ok (.iaload, 1) := by decide +kernel
theorem dL_law_996 : decode cL_law 996 = .ok (.aload_n 0, 1) := by decide +kernel
theorem dL_law_997 : decode cL_law 997 = .ok (.iload 5, 2) := by decide +kernel
theorem dL_law_999 : decode cL_law 999 = .ok (.iconst 2, 1) := by decide +kernel
theorem dL_law_1000 : decode cL_law 1000 = .ok (.iadd, 1) := by decide +kernel
theorem dL_law_1001 : decode cL_law 1001 = .ok (.iaload, 1) := by decide +kernel
theorem dL_law_1002 : decode cL_law 1002 = .ok (.aload_n 0, 1) := by decide +kernel
theorem dL_law_1003 : decode cL_law 1003 = .ok (.iload 5, 2) := by decide +kernel
theorem dL_law_1005 : decode cL_law 1005 = .ok (.iconst 3, 1) := by decide +kernel
theorem dL_law_1006 : decode cL_law 1006 = .ok (.iadd, 1) := by decide +kernel
theorem dL_law_1007 : decode cL_law 1007 = .ok (.iaload, 1) := by decide +kernel
theorem dL_law_1008 : decode cL_law 1008 = .ok (.aload_n 3, 1) := by decide +kernel
theorem dL_law_1009 : decode cL_law 1009 = .ok (.invokestatic 135, 3) := by decide +kernel
theorem dL_law_1012 : decode cL_law 1012 = .ok (.istore 6, 2) := by decide +kernel
theorem dL_law_1014 : decode cL_law 1014 = .ok (.aload_n 2, 1) := by decide +kernel
theorem dL_law_1015 : decode cL_law 1015 = .ok (.aload_n 0, 1) := by decide +kernel
theorem dL_law_1016 : decode cL_law 1016 = .ok (.iload 5, 2) := by decide +kernel
theorem dL_law_1018 : decode cL_law 1018 = .ok (.iconst 1, 1) := by decide +kernel
theorem dL_law_1019 : decode cL_law 1019 = .ok (.iadd, 1) := by decide +kernel
theorem dL_law_1020 : decode cL_law 1020 = .ok (.iaload, 1) := by decide +kernel
theorem dL_law_1021 : decode cL_law 1021 = .ok (.aload_n 0, 1) := by decide +kernel
theorem dL_law_1022 : decode cL_law 1022 = .ok (.iload 5, 2) := by decide +kernel
theorem dL_law_1024 : decode cL_law 1024 = .ok (.iconst 2, 1) := by decide +kernel
theorem dL_law_1025 : decode cL_law 1025 = .ok (.iadd, 1) := by decide +kernel
theorem dL_law_1026 : decode cL_law 1026 = .ok (.iaload, 1) := by decide +kernel
theorem dL_law_1027 : decode cL_law 1027 = .ok (.aload_n 0, 1) := by decide +kernel
theorem dL_law_1028 : decode cL_law 1028 = .ok (.iload 5, 2) := by decide +kernel
theorem dL_law_1030 : decode cL_law 1030 = .ok (.iconst 3, 1) := by decide +kernel
theorem dL_law_1031 : decode cL_law 1031 = .ok (.iadd, 1) := by decide +kernel
theorem dL_law_1032 : decode cL_law 1032 = .ok (.iaload, 1) := by decide +kernel
theorem dL_law_1033 : decode cL_law 1033 = .ok (.invokevirtual 137, 3) := by decide +kernel
theorem dL_law_1036 : decode cL_law 1036 = .ok (.istore 7, 2) := by decide +kernel
theorem dL_law_1038 : decode cL_law 1038 = .ok (.aload_n 2, 1) := by decide +kernel
theorem dL_law_1039 : decode cL_law 1039 = .ok (.invokevirtual 98, 3) := by decide +kernel
theorem dL_law_1042 : decode cL_law 1042 = .ok (.iload 6, 2) := by decide +kernel
theorem dL_law_1044 : decode cL_law 1044 = .ok (.if_icmp .eq 5, 3) := by decide +kernel
theorem dL_law_1047 : decode cL_law 1047 = .ok (.iconst 0, 1) := by decide +kernel
theorem dL_law_1048 : decode cL_law 1048 = .ok (.ireturn, 1) := by decide +kernel
theorem dL_law_1049 : decode cL_law 1049 = .ok (.iload 6, 2) := by decide +kernel
theorem dL_law_1051 : decode cL_law 1051 = .ok (.ifCond .ne 15, 3) := by decide +kernel
theorem dL_law_1054 : decode cL_law 1054 = .ok (.aload_n 3, 1) := by decide +kernel
theorem dL_law_1055 : decode cL_law 1055 = .ok (.iconst 0, 1) := by decide +kernel
theorem dL_law_1056 : decode cL_law 1056 = .ok (.laload, 1) := by decide +kernel
theorem dL_law_1057 : decode cL_law 1057 = .ok (.iload 7, 2) := by decide +kernel
theorem dL_law_1059 : decode cL_law 1059 = .ok (.i2l, 1) := by decide +kernel
theorem dL_law_1060 : decode cL_law 1060 = .ok (.lcmp, 1) := by decide +kernel
theorem dL_law_1061 : decode cL_law 1061 = .ok (.ifCond .eq 5, 3) := by decide +kernel
theorem dL_law_1064 : decode cL_law 1064 = .ok (.iconst 0, 1) := by decide +kernel
theorem dL_law_1065 : decode cL_law 1065 = .ok (.ireturn, 1) := by decide +kernel
theorem dL_law_1066 : decode cL_law 1066 = .ok (.goto 488, 3) := by decide +kernel
theorem dL_law_1069 : decode cL_law 1069 = .ok (.aload_n 1, 1) := by decide +kernel
theorem dL_law_1070 : decode cL_law 1070 = .ok (.aload_n 0, 1) := by decide +kernel
theorem dL_law_1071 : decode cL_law 1071 = .ok (.iload 5, 2) := by decide +kernel
theorem dL_law_1073 : decode cL_law 1073 = .ok (.iconst 1, 1) := by decide +kernel
theorem dL_law_1074 : decode cL_law 1074 = .ok (.iadd, 1) := by decide +kernel
theorem dL_law_1075 : decode cL_law 1075 = .ok (.iaload, 1) := by decide +kernel
theorem dL_law_1076 : decode cL_law 1076 = .ok (.aload_n 0, 1) := by decide +kernel
theorem dL_law_1077 : decode cL_law 1077 = .ok (.iload 5, 2) := by decide +kernel
theorem dL_law_1079 : decode cL_law 1079 = .ok (.iconst 2, 1) := by decide +kernel
theorem dL_law_1080 : decode cL_law 1080 = .ok (.iadd, 1) := by decide +kernel
theorem dL_law_1081 : decode cL_law 1081 = .ok (.iaload, 1) := by decide +kernel
theorem dL_law_1082 : decode cL_law 1082 = .ok (.aload_n 3, 1) := by decide +kernel
theorem dL_law_1083 : decode cL_law 1083 = .ok (.invokestatic 138, 3) := by decide +kernel
theorem dL_law_1086 : decode cL_law 1086 = .ok (.istore 6, 2) := by decide +kernel
theorem dL_law_1088 : decode cL_law 1088 = .ok (.aload_n 2, 1) := by decide +kernel
theorem dL_law_1089 : decode cL_law 1089 = .ok (.aload_n 0, 1) := by decide +kernel
theorem dL_law_1090 : decode cL_law 1090 = .ok (.iload 5, 2) := by decide +kernel
theorem dL_law_1092 : decode cL_law 1092 = .ok (.iconst 1, 1) := by decide +kernel
theorem dL_law_1093 : decode cL_law 1093 = .ok (.iadd, 1) := by decide +kernel
theorem dL_law_1094 : decode cL_law 1094 = .ok (.iaload, 1) := by decide +kernel
theorem dL_law_1095 : decode cL_law 1095 = .ok (.aload_n 0, 1) := by decide +kernel
theorem dL_law_1096 : decode cL_law 1096 = .ok (.iload 5, 2) := by decide +kernel
theorem dL_law_1098 : decode cL_law 1098 = .ok (.iconst 2, 1) := by decide +kernel
theorem dL_law_1099 : decode cL_law 1099 = .ok (.iadd, 1) := by decide +kernel
theorem dL_law_1100 : decode cL_law 1100 = .ok (.iaload, 1) := by decide +kernel
theorem dL_law_1101 : decode cL_law 1101 = .ok (.invokevirtual 140, 3) := by decide +kernel
theorem dL_law_1104 : decode cL_law 1104 = .ok (.istore 7, 2) := by decide +kernel
theorem dL_law_1106 : decode cL_law 1106 = .ok (.aload_n 2, 1) := by decide +kernel
theorem dL_law_1107 : decode cL_law 1107 = .ok (.invokevirtual 98, 3) := by decide +kernel
theorem dL_law_1110 : decode cL_law 1110 = .ok (.iload 6, 2) := by decide +kernel
theorem dL_law_1112 : decode cL_law 1112 = .ok (.if_icmp .eq 5, 3) := by decide +kernel
theorem dL_law_1115 : decode cL_law 1115 = .ok (.iconst 0, 1) := by decide +kernel
theorem dL_law_1116 : decode cL_law 1116 = .ok (.ireturn, 1) := by decide +kernel
theorem dL_law_1117 : decode cL_law 1117 = .ok (.iload 6, 2) := by decide +kernel
theorem dL_law_1119 : decode cL_law 1119 = .ok (.ifCond .ne 15, 3) := by decide +kernel
theorem dL_law_1122 : decode cL_law 1122 = .ok (.aload_n 3, 1) := by decide +kernel
theorem dL_law_1123 : decode cL_law 1123 = .ok (.iconst 0, 1) := by decide +kernel
theorem dL_law_1124 : decode cL_law 1124 = .ok (.laload, 1) := by decide +kernel
theorem dL_law_1125 : decode cL_law 1125 = .ok (.iload 7, 2) := by decide +kernel
theorem dL_law_1127 : decode cL_law 1127 = .ok (.i2l, 1) := by decide +kernel
theorem dL_law_1128 : decode cL_law 1128 = .ok (.lcmp, 1) := by decide +kernel
theorem dL_law_1129 : decode cL_law 1129 = .ok (.ifCond .eq 5, 3) := by decide +kernel
theorem dL_law_1132 : decode cL_law 1132 = .ok (.iconst 0, 1) := by decide +kernel
theorem dL_law_1133 : decode cL_law 1133 = .ok (.ireturn, 1) := by decide +kernel
theorem dL_law_1134 : decode cL_law 1134 = .ok (.goto 420, 3) := by decide +kernel
theorem dL_law_1137 : decode cL_law 1137 = .ok (.aload_n 1, 1) := by decide +kernel
theorem dL_law_1138 : decode cL_law 1138 = .ok (.aload_n 3, 1) := by decide +kernel
theorem dL_law_1139 : decode cL_law 1139 = .ok (.invokestatic 141, 3) := by decide +kernel
theorem dL_law_1142 : decode cL_law 1142 = .ok (.istore 6, 2) := by decide +kernel
theorem dL_law_1144 : decode cL_law 1144 = .ok (.aload_n 2, 1) := by decide +kernel
theorem dL_law_1145 : decode cL_law 1145 = .ok (.invokevirtual 144, 3) := by decide +kernel
theorem dL_law_1148 : decode cL_law 1148 = .ok (.istore 7, 2) := by decide +kernel
theorem dL_law_1150 : decode cL_law 1150 = .ok (.aload_n 2, 1) := by decide +kernel
theorem dL_law_1151 : decode cL_law 1151 = .ok (.invokevirtual 98, 3) := by decide +kernel
theorem dL_law_1154 : decode cL_law 1154 = .ok (.iload 6, 2) := by decide +kernel
theorem dL_law_1156 : decode cL_law 1156 = .ok (.if_icmp .eq 5, 3) := by decide +kernel
theorem dL_law_1159 : decode cL_law 1159 = .ok (.iconst 0, 1) := by decide +kernel
theorem dL_law_1160 : decode cL_law 1160 = .ok (.ireturn, 1) := by decide +kernel
theorem dL_law_1161 : decode cL_law 1161 = .ok (.iload 6, 2) := by decide +kernel
theorem dL_law_1163 : decode cL_law 1163 = .ok (.ifCond .ne 15, 3) := by decide +kernel
theorem dL_law_1166 : decode cL_law 1166 = .ok (.aload_n 3, 1) := by decide +kernel
theorem dL_law_1167 : decode cL_law 1167 = .ok (.iconst 0, 1) := by decide +kernel
theorem dL_law_1168 : decode cL_law 1168 = .ok (.laload, 1) := by decide +kernel
theorem dL_law_1169 : decode cL_law 1169 = .ok (.iload 7, 2) := by decide +kernel
theorem dL_law_1171 : decode cL_law 1171 = .ok (.i2l, 1) := by decide +kernel
theorem dL_law_1172 : decode cL_law 1172 = .ok (.lcmp, 1) := by decide +kernel
theorem dL_law_1173 : decode cL_law 1173 = .ok (.ifCond .eq 5, 3) := by decide +kernel
theorem dL_law_1176 : decode cL_law 1176 = .ok (.iconst 0, 1) := by decide +kernel
theorem dL_law_1177 : decode cL_law 1177 = .ok (.ireturn, 1) := by decide +kernel
theorem dL_law_1178 : decode cL_law 1178 = .ok (.goto 376, 3) := by decide +kernel
theorem dL_law_1181 : decode cL_law 1181 = .ok (.aload_n 1, 1) := by decide +kernel
theorem dL_law_1182 : decode cL_law 1182 = .ok (.invokevirtual 145, 3) := by decide +kernel
theorem dL_law_1185 : decode cL_law 1185 = .ok (.aload_n 2, 1) := by decide +kernel
theorem dL_law_1186 : decode cL_law 1186 = .ok (.invokevirtual 148, 3) := by decide +kernel
theorem dL_law_1189 : decode cL_law 1189 = .ok (.if_icmp .eq 365, 3) := by decide +kernel
theorem dL_law_1192 : decode cL_law 1192 = .ok (.iconst 0, 1) := by decide +kernel
theorem dL_law_1193 : decode cL_law 1193 = .ok (.ireturn, 1) := by decide +kernel
theorem dL_law_1194 : decode cL_law 1194 = .ok (.aload_n 1, 1) := by decide +kernel
theorem dL_law_1195 : decode cL_law 1195 = .ok (.aload_n 0, 1) := by decide +kernel
theorem dL_law_1196 : decode cL_law 1196 = .ok (.iload 5, 2) := by decide +kernel
theorem dL_law_1198 : decode cL_law 1198 = .ok (.iconst 1, 1) := by decide +kernel
theorem dL_law_1199 : decode cL_law 1199 = .ok (.iadd, 1) := by decide +kernel
theorem dL_law_1200 : decode cL_law 1200 = .ok (.iaload, 1) := by decide +kernel
theorem dL_law_1201 : decode cL_law 1201 = .ok (.aload_n 0, 1) := by decide +kernel
theorem dL_law_1202 : decode cL_law 1202 = .ok (.iload 5, 2) := by decide +kernel
theorem dL_law_1204 : decode cL_law 1204 = .ok (.iconst 2, 1) := by decide +kernel
theorem dL_law_1205 : decode cL_law 1205 = .ok (.iadd, 1) := by decide +kernel
theorem dL_law_1206 : decode cL_law 1206 = .ok (.iaload, 1) := by decide +kernel
theorem dL_law_1207 : decode cL_law 1207 = .ok (.aload_n 0, 1) := by decide +kernel
theorem dL_law_1208 : decode cL_law 1208 = .ok (.iload 5, 2) := by decide +kernel
theorem dL_law_1210 : decode cL_law 1210 = .ok (.iconst 3, 1) := by decide +kernel
theorem dL_law_1211 : decode cL_law 1211 = .ok (.iadd, 1) := by decide +kernel
theorem dL_law_1212 : decode cL_law 1212 = .ok (.iaload, 1) := by decide +kernel
theorem dL_law_1213 : decode cL_law 1213 = .ok (.aload_n 3, 1) := by decide +kernel
theorem dL_law_1214 : decode cL_law 1214 = .ok (.invokestatic 149, 3) := by decide +kernel
theorem dL_law_1217 : decode cL_law 1217 = .ok (.istore 6, 2) := by decide +kernel
theorem dL_law_1219 : decode cL_law 1219 = .ok (.aload_n 2, 1) := by decide +kernel
theorem dL_law_1220 : decode cL_law 1220 = .ok (.aload_n 0, 1) := by decide +kernel
theorem dL_law_1221 : decode cL_law 1221 = .ok (.iload 5, 2) := by decide +kernel
theorem dL_law_1223 : decode cL_law 1223 = .ok (.iconst 1, 1) := by decide +kernel
theorem dL_law_1224 : decode cL_law 1224 = .ok (.iadd, 1) := by decide +kernel
theorem dL_law_1225 : decode cL_law 1225 = .ok (.iaload, 1) := by decide +kernel
theorem dL_law_1226 : decode cL_law 1226 = .ok (.aload_n 0, 1) := by decide +kernel
theorem dL_law_1227 : decode cL_law 1227 = .ok (.iload 5, 2) := by decide +kernel
theorem dL_law_1229 : decode cL_law 1229 = .ok (.iconst 2, 1) := by decide +kernel
theorem dL_law_1230 : decode cL_law 1230 = .ok (.iadd, 1) := by decide +kernel
theorem dL_law_1231 : decode cL_law 1231 = .ok (.iaload, 1) := by decide +kernel
theorem dL_law_1232 : decode cL_law 1232 = .ok (.aload_n 0, 1) := by decide +kernel
theorem dL_law_1233 : decode cL_law 1233 = .ok (.iload 5, 2) := by decide +kernel
theorem dL_law_1235 : decode cL_law 1235 = .ok (.iconst 3, 1) := by decide +kernel
theorem dL_law_1236 : decode cL_law 1236 = .ok (.iadd, 1) := by decide +kernel
theorem dL_law_1237 : decode cL_law 1237 = .ok (.iaload, 1) := by decide +kernel
theorem dL_law_1238 : decode cL_law 1238 = .ok (.invokevirtual 151, 3) := by decide +kernel
theorem dL_law_1241 : decode cL_law 1241 = .ok (.istore 7, 2) := by decide +kernel
theorem dL_law_1243 : decode cL_law 1243 = .ok (.aload_n 2, 1) := by decide +kernel
theorem dL_law_1244 : decode cL_law 1244 = .ok (.invokevirtual 98, 3) := by decide +kernel
theorem dL_law_1247 : decode cL_law 1247 = .ok (.iload 6, 2) := by decide +kernel
theorem dL_law_1249 : decode cL_law 1249 = .ok (.if_icmp .eq 5, 3) := by decide +kernel
theorem dL_law_1252 : decode cL_law 1252 = .ok (.iconst 0, 1) := by decide +kernel
theorem dL_law_1253 : decode cL_law 1253 = .ok (.ireturn, 1) := by decide +kernel
theorem dL_law_1254 : decode cL_law 1254 = .ok (.iload 6, 2) := by decide +kernel
theorem dL_law_1256 : decode cL_law 1256 = .ok (.ifCond .ne 15, 3) := by decide +kernel
theorem dL_law_1259 : decode cL_law 1259 = .ok (.aload_n 3, 1) := by decide +kernel
theorem dL_law_1260 : decode cL_law 1260 = .ok (.iconst 0, 1) := by decide +kernel
theorem dL_law_1261 : decode cL_law 1261 = .ok (.laload, 1) := by decide +kernel
theorem dL_law_1262 : decode cL_law 1262 = .ok (.iload 7, 2) := by decide +kernel
theorem dL_law_1264 : decode cL_law 1264 = .ok (.i2l, 1) := by decide +kernel
theorem dL_law_1265 : decode cL_law 1265 = .ok (.lcmp, 1) := by decide +kernel
theorem dL_law_1266 : decode cL_law 1266 = .ok (.ifCond .eq 5, 3) := by decide +kernel
theorem dL_law_1269 : decode cL_law 1269 = .ok (.iconst 0, 1) := by decide +kernel
theorem dL_law_1270 : decode cL_law 1270 = .ok (.ireturn, 1) := by decide +kernel
theorem dL_law_1271 : decode cL_law 1271 = .ok (.goto 283, 3) := by decide +kernel
theorem dL_law_1274 : decode cL_law 1274 = .ok (.aload_n 1, 1) := by decide +kernel
theorem dL_law_1275 : decode cL_law 1275 = .ok (.aload_n 0, 1) := by decide +kernel
theorem dL_law_1276 : decode cL_law 1276 = .ok (.iload 5, 2) := by decide +kernel
theorem dL_law_1278 : decode cL_law 1278 = .ok (.iconst 1, 1) := by decide +kernel
theorem dL_law_1279 : decode cL_law 1279 = .ok (.iadd, 1) := by decide +kernel
theorem dL_law_1280 : decode cL_law 1280 = .ok (.iaload, 1) := by decide +kernel
theorem dL_law_1281 : decode cL_law 1281 = .ok (.aload_n 0, 1) := by decide +kernel
theorem dL_law_1282 : decode cL_law 1282 = .ok (.iload 5, 2) := by decide +kernel
theorem dL_law_1284 : decode cL_law 1284 = .ok (.iconst 2, 1) := by decide +kernel
theorem dL_law_1285 : decode cL_law 1285 = .ok (.iadd, 1) := by decide +kernel
theorem dL_law_1286 : decode cL_law 1286 = .ok (.iaload, 1) := by decide +kernel
theorem dL_law_1287 : decode cL_law 1287 = .ok (.aload_n 3, 1) := by decide +kernel
theorem dL_law_1288 : decode cL_law 1288 = .ok (.invokestatic 152, 3) := by decide +kernel
theorem dL_law_1291 : decode cL_law 1291 = .ok (.istore 6, 2) := by decide +kernel
theorem dL_law_1293 : decode cL_law 1293 = .ok (.aload_n 2, 1) := by decide +kernel
theorem dL_law_1294 : decode cL_law 1294 = .ok (.aload_n 0, 1) := by decide +kernel
theorem dL_law_1295 : decode cL_law 1295 = .ok (.iload 5, 2) := by decide +kernel
theorem dL_law_1297 : decode cL_law 1297 = .ok (.iconst 1, 1) := by decide +kernel
theorem dL_law_1298 : decode cL_law 1298 = .ok (.iadd, 1) := by decide +kernel
theorem dL_law_1299 : decode cL_law 1299 = .ok (.iaload, 1) := by decide +kernel
theorem dL_law_1300 : decode cL_law 1300 = .ok (.aload_n 0, 1) := by decide +kernel
theorem dL_law_1301 : decode cL_law 1301 = .ok (.iload 5, 2) := by decide +kernel
theorem dL_law_1303 : decode cL_law 1303 = .ok (.iconst 2, 1) := by decide +kernel
theorem dL_law_1304 : decode cL_law 1304 = .ok (.iadd, 1) := by decide +kernel
theorem dL_law_1305 : decode cL_law 1305 = .ok (.iaload, 1) := by decide +kernel
theorem dL_law_1306 : decode cL_law 1306 = .ok (.invokevirtual 154, 3) := by decide +kernel
theorem dL_law_1309 : decode cL_law 1309 = .ok (.istore 7, 2) := by decide +kernel
theorem dL_law_1311 : decode cL_law 1311 = .ok (.aload_n 2, 1) := by decide +kernel
theorem dL_law_1312 : decode cL_law 1312 = .ok (.invokevirtual 98, 3) := by decide +kernel
theorem dL_law_1315 : decode cL_law 1315 = .ok (.iload 6, 2) := by decide +kernel
theorem dL_law_1317 : decode cL_law 1317 = .ok (.if_icmp .eq 5, 3) := by decide +kernel
theorem dL_law_1320 : decode cL_law 1320 = .ok (.iconst 0, 1) := by decide +kernel
theorem dL_law_1321 : decode cL_law 1321 = .ok (.ireturn, 1) := by decide +kernel
theorem dL_law_1322 : decode cL_law 1322 = .ok (.iload 6, 2) := by decide +kernel
theorem dL_law_1324 : decode cL_law 1324 = .ok (.ifCond .ne 15, 3) := by decide +kernel
theorem dL_law_1327 : decode cL_law 1327 = .ok (.aload_n 3, 1) := by decide +kernel
theorem dL_law_1328 : decode cL_law 1328 = .ok (.iconst 0, 1) := by decide +kernel
theorem dL_law_1329 : decode cL_law 1329 = .ok (.laload, 1) := by decide +kernel
theorem dL_law_1330 : decode cL_law 1330 = .ok (.iload 7, 2) := by decide +kernel
theorem dL_law_1332 : decode cL_law 1332 = .ok (.i2l, 1) := by decide +kernel
theorem dL_law_1333 : decode cL_law 1333 = .ok (.lcmp, 1) := by decide +kernel
theorem dL_law_1334 : decode cL_law 1334 = .ok (.ifCond .eq 5, 3) := by decide +kernel
theorem dL_law_1337 : decode cL_law 1337 = .ok (.iconst 0, 1) := by decide +kernel
theorem dL_law_1338 : decode cL_law 1338 = .ok (.ireturn, 1) := by decide +kernel
theorem dL_law_1339 : decode cL_law 1339 = .ok (.goto 215, 3) := by decide +kernel
theorem dL_law_1342 : decode cL_law 1342 = .ok (.aload_n 1, 1) := by decide +kernel
theorem dL_law_1343 : decode cL_law 1343 = .ok (.aload_n 0, 1) := by decide +kernel
theorem dL_law_1344 : decode cL_law 1344 = .ok (.iload 5, 2) := by decide +kernel
theorem dL_law_1346 : decode cL_law 1346 = .ok (.iconst 1, 1) := by decide +kernel
theorem dL_law_1347 : decode cL_law 1347 = .ok (.iadd, 1) := by decide +kernel
theorem dL_law_1348 : decode cL_law 1348 = .ok (.iaload, 1) := by decide +kernel
theorem dL_law_1349 : decode cL_law 1349 = .ok (.aload_n 0, 1) := by decide +kernel
theorem dL_law_1350 : decode cL_law 1350 = .ok (.iload 5, 2) := by decide +kernel
theorem dL_law_1352 : decode cL_law 1352 = .ok (.iconst 2, 1) := by decide +kernel
theorem dL_law_1353 : decode cL_law 1353 = .ok (.iadd, 1) := by decide +kernel
theorem dL_law_1354 : decode cL_law 1354 = .ok (.iaload, 1) := by decide +kernel
theorem dL_law_1355 : decode cL_law 1355 = .ok (.aload_n 3, 1) := by decide +kernel
theorem dL_law_1356 : decode cL_law 1356 = .ok (.invokestatic 155, 3) := by decide +kernel
theorem dL_law_1359 : decode cL_law 1359 = .ok (.istore 6, 2) := by decide +kernel
theorem dL_law_1361 : decode cL_law 1361 = .ok (.aload_n 2, 1) := by decide +kernel
theorem dL_law_1362 : decode cL_law 1362 = .ok (.aload_n 0, 1) := by decide +kernel
theorem dL_law_1363 : decode cL_law 1363 = .ok (.iload 5, 2) := by decide +kernel
theorem dL_law_1365 : decode cL_law 1365 = .ok (.iconst 1, 1) := by decide +kernel
theorem dL_law_1366 : decode cL_law 1366 = .ok (.iadd, 1) := by decide +kernel
theorem dL_law_1367 : decode cL_law 1367 = .ok (.iaload, 1) := by decide +kernel
theorem dL_law_1368 : decode cL_law 1368 = .ok (.aload_n 0, 1) := by decide +kernel
theorem dL_law_1369 : decode cL_law 1369 = .ok (.iload 5, 2) := by decide +kernel
theorem dL_law_1371 : decode cL_law 1371 = .ok (.iconst 2, 1) := by decide +kernel
theorem dL_law_1372 : decode cL_law 1372 = .ok (.iadd, 1) := by decide +kernel
theorem dL_law_1373 : decode cL_law 1373 = .ok (.iaload, 1) := by decide +kernel
theorem dL_law_1374 : decode cL_law 1374 = .ok (.invokevirtual 157, 3) := by decide +kernel
theorem dL_law_1377 : decode cL_law 1377 = .ok (.istore 7, 2) := by decide +kernel
theorem dL_law_1379 : decode cL_law 1379 = .ok (.aload_n 2, 1) := by decide +kernel
theorem dL_law_1380 : decode cL_law 1380 = .ok (.invokevirtual 98, 3) := by decide +kernel
theorem dL_law_1383 : decode cL_law 1383 = .ok (.iload 6, 2) := by decide +kernel
theorem dL_law_1385 : decode cL_law 1385 = .ok (.if_icmp .eq 5, 3) := by decide +kernel
theorem dL_law_1388 : decode cL_law 1388 = .ok (.iconst 0, 1) := by decide +kernel
theorem dL_law_1389 : decode cL_law 1389 = .ok (.ireturn, 1) := by decide +kernel
theorem dL_law_1390 : decode cL_law 1390 = .ok (.iload 6, 2) := by decide +kernel
theorem dL_law_1392 : decode cL_law 1392 = .ok (.ifCond .ne 15, 3) := by decide +kernel
theorem dL_law_1395 : decode cL_law 1395 = .ok (.aload_n 3, 1) := by decide +kernel
theorem dL_law_1396 : decode cL_law 1396 = .ok (.iconst 0, 1) := by decide +kernel
theorem dL_law_1397 : decode cL_law 1397 = .ok (.laload, 1) := by decide +kernel
theorem dL_law_1398 : decode cL_law 1398 = .ok (.iload 7, 2) := by decide +kernel
theorem dL_law_1400 : decode cL_law 1400 = .ok (.i2l, 1) := by decide +kernel
theorem dL_law_1401 : decode cL_law 1401 = .ok (.lcmp, 1) := by decide +kernel
theorem dL_law_1402 : decode cL_law 1402 = .ok (.ifCond .eq 5, 3) := by decide +kernel
theorem dL_law_1405 : decode cL_law 1405 = .ok (.iconst 0, 1) := by decide +kernel
theorem dL_law_1406 : decode cL_law 1406 = .ok (.ireturn, 1) := by decide +kernel
theorem dL_law_1407 : decode cL_law 1407 = .ok (.goto 147, 3) := by decide +kernel
theorem dL_law_1410 : decode cL_law 1410 = .ok (.aload_n 1, 1) := by decide +kernel
theorem dL_law_1411 : decode cL_law 1411 = .ok (.invokevirtual 158, 3) := by decide +kernel
theorem dL_law_1414 : decode cL_law 1414 = .ok (.aload_n 2, 1) := by decide +kernel
theorem dL_law_1415 : decode cL_law 1415 = .ok (.invokevirtual 161, 3) := by decide +kernel
theorem dL_law_1418 : decode cL_law 1418 = .ok (.if_icmp .eq 136, 3) := by decide +kernel
theorem dL_law_1421 : decode cL_law 1421 = .ok (.iconst 0, 1) := by decide +kernel
theorem dL_law_1422 : decode cL_law 1422 = .ok (.ireturn, 1) := by decide +kernel
theorem dL_law_1423 : decode cL_law 1423 = .ok (.aload_n 1, 1) := by decide +kernel
theorem dL_law_1424 : decode cL_law 1424 = .ok (.aload 4, 2) := by decide +kernel
theorem dL_law_1426 : decode cL_law 1426 = .ok (.invokestatic 162, 3) := by decide +kernel
theorem dL_law_1429 : decode cL_law 1429 = .ok (.istore 6, 2) := by decide +kernel
theorem dL_law_1431 : decode cL_law 1431 = .ok (.aload_n 2, 1) := by decide +kernel
theorem dL_law_1432 : decode cL_law 1432 = .ok (.invokevirtual 165, 3) := by decide +kernel
theorem dL_law_1435 : decode cL_law 1435 = .ok (.fstore 7, 2) := by decide +kernel
theorem dL_law_1437 : decode cL_law 1437 = .ok (.aload_n 2, 1) := by decide +kernel
theorem dL_law_1438 : decode cL_law 1438 = .ok (.invokevirtual 98, 3) := by decide +kernel
theorem dL_law_1441 : decode cL_law 1441 = .ok (.iload 6, 2) := by decide +kernel
theorem dL_law_1443 : decode cL_law 1443 = .ok (.if_icmp .eq 5, 3) := by decide +kernel
theorem dL_law_1446 : decode cL_law 1446 = .ok (.iconst 0, 1) := by decide +kernel
theorem dL_law_1447 : decode cL_law 1447 = .ok (.ireturn, 1) := by decide +kernel
theorem dL_law_1448 : decode cL_law 1448 = .ok (.iload 6, 2) := by decide +kernel
theorem dL_law_1450 : decode cL_law 1450 = .ok (.ifCond .ne 36, 3) := by decide +kernel
theorem dL_law_1453 : decode cL_law 1453 = .ok (.aload 4, 2) := by decide +kernel
theorem dL_law_1455 : decode cL_law 1455 = .ok (.iconst 0, 1) := by decide +kernel
theorem dL_law_1456 : decode cL_law 1456 = .ok (.daload, 1) := by decide +kernel
theorem dL_law_1457 : decode cL_law 1457 = .ok (.fload 7, 2) := by decide +kernel
theorem dL_law_1459 : decode cL_law 1459 = .ok (.f2d, 1) := by decide +kernel
theorem dL_law_1460 : decode cL_law 1460 = .ok (.dcmp .l, 1) := by decide +kernel
theorem dL_law_1461 : decode cL_law 1461 = .ok (.ifCond .eq 25, 3) := by decide +kernel
theorem dL_law_1464 : decode cL_law 1464 = .ok (.aload 4, 2) := by decide +kernel
theorem dL_law_1466 : decode cL_law 1466 = .ok (.iconst 0, 1) := by decide +kernel
theorem dL_law_1467 : decode cL_law 1467 = .ok (.daload, 1) := by decide +kernel
theorem dL_law_1468 : decode cL_law 1468 = .ok (.aload 4, 2) := by decide +kernel
theorem dL_law_1470 : decode cL_law 1470 = .ok (.iconst 0, 1) := by decide +kernel
theorem dL_law_1471 : decode cL_law 1471 = .ok (.daload, 1) := by decide +kernel
theorem dL_law_1472 : decode cL_law 1472 = .ok (.dcmp .l, 1) := by decide +kernel
theorem dL_law_1473 : decode cL_law 1473 = .ok (.ifCond .eq 11, 3) := by decide +kernel
theorem dL_law_1476 : decode cL_law 1476 = .ok (.fload 7, 2) := by decide +kernel
theorem dL_law_1478 : decode cL_law 1478 = .ok (.fload 7, 2) := by decide +kernel
theorem dL_law_1480 : decode cL_law 1480 = .ok (.fcmp .l, 1) := by decide +kernel
theorem dL_law_1481 : decode cL_law 1481 = .ok (.ifCond .ne 5, 3) := by decide +kernel
theorem dL_law_1484 : decode cL_law 1484 = .ok (.iconst 0, 1) := by decide +kernel
theorem dL_law_1485 : decode cL_law 1485 = .ok (.ireturn, 1) := by decide +kernel
theorem dL_law_1486 : decode cL_law 1486 = .ok (.goto 68, 3) := by decide +kernel
theorem dL_law_1489 : decode cL_law 1489 = .ok (.aload_n 1, 1) := by decide +kernel
theorem dL_law_1490 : decode cL_law 1490 = .ok (.aload 4, 2) := by decide +kernel
theorem dL_law_1492 : decode cL_law 1492 = .ok (.invokestatic 166, 3) := by decide +kernel
theorem dL_law_1495 : decode cL_law 1495 = .ok (.istore 6, 2) := by decide +kernel
theorem dL_law_1497 : decode cL_law 1497 = .ok (.aload_n 2, 1) := by decide +kernel
theorem dL_law_1498 : decode cL_law 1498 = .ok (.invokevirtual 168, 3) := by decide +kernel
theorem dL_law_1501 : decode cL_law 1501 = .ok (.dstore 7, 2) := by decide +kernel
theorem dL_law_1503 : decode cL_law 1503 = .ok (.aload_n 2, 1) := by decide +kernel
theorem dL_law_1504 : decode cL_law 1504 = .ok (.invokevirtual 98, 3) := by decide +kernel
theorem dL_law_1507 : decode cL_law 1507 = .ok (.iload 6, 2) := by decide +kernel
theorem dL_law_1509 : decode cL_law 1509 = .ok (.if_icmp .eq 5, 3) := by decide +kernel
theorem dL_law_1512 : decode cL_law 1512 = .ok (.iconst 0, 1) := by decide +kernel
theorem dL_law_1513 : decode cL_law 1513 = .ok (.ireturn, 1) := by decide +kernel
theorem dL_law_1514 : decode cL_law 1514 = .ok (.iload 6, 2) := by decide +kernel
theorem dL_law_1516 : decode cL_law 1516 = .ok (.ifCond .ne 35, 3) := by decide +kernel
theorem dL_law_1519 : decode cL_law 1519 = .ok (.aload 4, 2) := by decide +kernel
theorem dL_law_1521 : decode cL_law 1521 = .ok (.iconst 0, 1) := by decide +kernel
theorem dL_law_1522 : decode cL_law 1522 = .ok (.daload, 1) := by decide +kernel
theorem dL_law_1523 : decode cL_law 1523 = .ok (.dload 7, 2) := by decide +kernel
theorem dL_law_1525 : decode cL_law 1525 = .ok (.dcmp .l, 1) := by decide +kernel
theorem dL_law_1526 : decode cL_law 1526 = .ok (.ifCond .eq 25, 3) := by decide +kernel
theorem dL_law_1529 : decode cL_law 1529 = .ok (.aload 4, 2) := by decide +kernel
theorem dL_law_1531 : decode cL_law 1531 = .ok (.iconst 0, 1) := by decide +kernel
theorem dL_law_1532 : decode cL_law 1532 = .ok (.daload, 1) := by decide +kernel
theorem dL_law_1533 : decode cL_law 1533 = .ok (.aload 4, 2) := by decide +kernel
theorem dL_law_1535 : decode cL_law 1535 = .ok (.iconst 0, 1) := by decide +kernel
theorem dL_law_1536 : decode cL_law 1536 = .ok (.daload, 1) := by decide +kernel
theorem dL_law_1537 : decode cL_law 1537 = .ok (.dcmp .l, 1) := by decide +kernel
theorem dL_law_1538 : decode cL_law 1538 = .ok (.ifCond .eq 11, 3) := by decide +kernel
theorem dL_law_1541 : decode cL_law 1541 = .ok (.dload 7, 2) := by decide +kernel
theorem dL_law_1543 : decode cL_law 1543 = .ok (.dload 7, 2) := by decide +kernel
theorem dL_law_1545 : decode cL_law 1545 = .ok (.dcmp .l, 1) := by decide +kernel
theorem dL_law_1546 : decode cL_law 1546 = .ok (.ifCond .ne 5, 3) := by decide +kernel
theorem dL_law_1549 : decode cL_law 1549 = .ok (.iconst 0, 1) := by decide +kernel
theorem dL_law_1550 : decode cL_law 1550 = .ok (.ireturn, 1) := by decide +kernel
theorem dL_law_1551 : decode cL_law 1551 = .ok (.goto 3, 3) := by decide +kernel
theorem dL_law_1554 : decode cL_law 1554 = .ok (.iinc 5 5, 3) := by decide +kernel
theorem dL_law_1557 : decode cL_law 1557 = .ok (.goto (-1529), 3) := by decide +kernel
theorem dL_law_1560 : decode cL_law 1560 = .ok (.iconst 1, 1) := by decide +kernel
theorem dL_law_1561 : decode cL_law 1561 = .ok (.ireturn, 1) := by decide +kernel
abbrev vwCl : List vw_C := [(RJ0, TJ0, 2), (RJx00060, TJx00060, 6), (RX0, TX0, 3), (RX1, TX1, 7), (RX2, TX2, 5), (RX3, TX3, 7), (RX4, TX4, 22)]
end
