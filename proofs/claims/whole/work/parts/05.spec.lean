/-! worlds of the classes, loops, joins; the words of the proof over whole numbers -/
def uF (F : Nat → Nat → Int) (i : Nat) (f : Nat → Int) : Nat → Nat → Int := fun k => if k = i then f else F k
theorem uF_s (F : Nat → Nat → Int) (i : Nat) (f : Nat → Int) : uF F i f i = f := by simp [uF]
theorem uF_n {F : Nat → Nat → Int} {i k : Nat} {f : Nat → Int} (h : k ≠ i) : uF F i f k = F k := by simp [uF, h]
abbrev wA (G : jG) (h : Nat → Nat) (F : Nat → Nat → Int) : va_W := [(h 0, .inr (2, [.ref (h 1), .ref (h 2), .ref (h 3)])), (h 1, .inl (G.2 0, 120, .inl (jA (F 0)))), (h 2, .inl (G.2 1, 120, .inl (jA (F 1)))), (h 3, .inl (G.2 1, 120, .inl (jA (F 2))))]
abbrev wS (G : jG) (h : Nat → Nat) (F : Nat → Nat → Int) (V : Nat → Int) : va_W := [(h 0, .inr (4, [.ref (h 1), .ref (h 2), .ref (h 3), .int (iI (V 0)), .int (iI (V 1))])), (h 1, .inl (G.2 1, 4, .inl (jA (F 0)))), (h 2, .inl (G.2 1, 4, .inl (jA (F 1)))), (h 3, .inl (G.2 1, 288, .inl (jA (F 2))))]
abbrev wL (G : jG) (h : Nat → Nat) (F : Nat → Nat → Int) (V : Nat → Int) : va_W := [(h 0, .inr (3, [.ref (h 1), .ref (h 2), .ref (h 3), .ref (h 4), .ref (h 5), .ref (h 6), .int (iI (V 0))])), (h 1, .inl (G.2 0, 10, .inl (jA (F 0)))), (h 2, .inl (G.2 1, 10, .inl (jA (F 1)))), (h 3, .inl (G.2 1, 10, .inl (jA (F 2)))), (h 4, .inl (G.2 1, 120, .inl (jA (F 3)))), (h 5, .inl (G.2 3, 10, .inl (jA (F 4)))), (h 6, .inl (G.2 1, 10, .inl (jA (F 5))))]
abbrev wLI (G : jG) (h : Nat → Nat) (F : Nat → Nat → Int) (V : Nat → Int) : va_W := [(h 0, .inr (3, [.ref (h 1), .ref (h 2), .ref (h 3), .ref (h 4), .ref (h 5), .ref (h 6), .int (iI (V 0))])), (h 1, .inl (G.2 0, 10, .inl (jA (F 0)))), (h 2, .inl (G.2 1, 10, .inl (jA (F 1)))), (h 3, .inl (G.2 1, 10, .inl (jA (F 2)))), (h 4, .inl (G.2 1, 120, .inl (jA (F 3)))), (h 5, .inl (G.2 3, 10, .inl (jA (F 4)))), (h 6, .inl (G.2 1, 10, .inl (jA (F 5)))), (h 7, .inl (G.2 1, 6, .inl (jA (F 6))))]
abbrev wC (G : jG) (h : Nat → Nat) (F : Nat → Nat → Int) (V : Nat → Int) : va_W := [(h 0, .inr (5, [.ref (h 1), .ref (h 3), .ref (h 7), .ref (h 14), .ref (h 2), .int (iI (V 3)), .int (iI (V 4))])), (h 1, .inl (G.2 1, 6, .inl (jA (F 0)))), (h 2, .inl (G.2 1, 6, .inl (jA (F 1)))), (h 3, .inr (4, [.ref (h 4), .ref (h 5), .ref (h 6), .int (iI (V 0)), .int (iI (V 1))])), (h 4, .inl (G.2 1, 4, .inl (jA (F 2)))), (h 5, .inl (G.2 1, 4, .inl (jA (F 3)))), (h 6, .inl (G.2 1, 288, .inl (jA (F 4)))), (h 7, .inr (3, [.ref (h 8), .ref (h 9), .ref (h 10), .ref (h 11), .ref (h 12), .ref (h 13), .int (iI (V 2))])), (h 8, .inl (G.2 0, 10, .inl (jA (F 5)))), (h 9, .inl (G.2 1, 10, .inl (jA (F 6)))), (h 10, .inl (G.2 1, 10, .inl (jA (F 7)))), (h 11, .inl (G.2 1, 120, .inl (jA (F 8)))), (h 12, .inl (G.2 3, 10, .inl (jA (F 9)))), (h 13, .inl (G.2 1, 10, .inl (jA (F 10)))), (h 14, .inr (2, [.ref (h 15), .ref (h 16), .ref (h 17)])), (h 15, .inl (G.2 0, 120, .inl (jA (F 11)))), (h 16, .inl (G.2 1, 120, .inl (jA (F 12)))), (h 17, .inl (G.2 1, 120, .inl (jA (F 13))))]
abbrev wM (G : jG) (h : Nat → Nat) (F : Nat → Nat → Int) (V : Nat → Int) (fd : Nat → Int) : va_W := [(h 0, .inr (6, [.ref (h 1), .ref (h 2), .ref (h 3), .ref (h 4), .ref (h 5), .ref (h 6), .ref (h 7), .ref (h 8), .ref (h 9), .ref (h 10), .ref (h 11), .ref (h 12), .ref (h 13), .ref (h 14), .ref (h 15), .ref (h 16), .int (iI (V 0)), .int (iI (V 1)), .int (iI (V 2)), .int (iI (V 3)), .int (iI (V 4)), .int (iI (V 5))])), (h 1, .inl (G.2 1, 6, .inl (jA (F 0)))), (h 2, .inl (G.2 1, 10, .inl (jA (F 1)))), (h 3, .inl (G.2 1, 10, .inl (jA (F 2)))), (h 4, .inl (G.2 1, 10, .inl (jA (F 3)))), (h 5, .inl (G.2 1, 4, .inl (jA (F 4)))), (h 6, .inl (G.2 1, 12, .inl (jA (F 5)))), (h 7, .inl (G.2 1, 12, .inl (jA (F 6)))), (h 8, .inl (G.2 1, 12, .inl (jA (F 7)))), (h 9, .inl (G.2 1, 12, .inl (jA (F 8)))), (h 10, .inl (G.2 1, 120, .inl (jA (F 9)))), (h 11, .inl (G.2 1, 120, .inl (jA (F 10)))), (h 12, .inl (G.2 1, 120, .inl (jA (F 11)))), (h 13, .inl (G.2 3, 120, .inl (jA (F 12)))), (h 14, .inl (G.2 3, 10, .inl (jA (F 13)))), (h 15, .inl (G.2 0, 120, .inl (jA (F 14)))), (h 16, .inl (G.2 2, 10, .inr (.inl (jL fd))))]
section JLOOP
variable {p : Program} {l : Launch} {e : Env} {R : Room} {s : State} {m : MethodId} {args : Array Value} {below : List Frame} {meth : Method} {c : Code} {A : Nat → Prop} {G : jG} {nL cells slots : Nat} {Q : State → Prop} {ws ws' : va_W} {pc : Nat} {lv lv' : List (Nat × Value)} {st : List Value} {cc : ByteArray} {Ts : List Cond} {own : String}
theorem jr_loop {σ : Type} (inv : σ → Prop) (μ : σ → Nat) (wsf : σ → va_W) (lvf : σ → List (Nat × Value)) (stf : σ → List Value) (body : ∀ x, inv x → (∀ y, inv y → μ y < μ x → J p l e R s m args below meth c A G nL cells slots Q (wsf y) pc (lvf y) (stf y)) → J p l e R s m args below meth c A G nL cells slots Q (wsf x) pc (lvf x) (stf x)) (x0 : σ) (h0 : inv x0) : J p l e R s m args below meth c A G nL cells slots Q (wsf x0) pc (lvf x0) (stf x0) := by
  have key : ∀ (n : Nat) (x : σ), μ x < n → inv x → J p l e R s m args below meth c A G nL cells slots Q (wsf x) pc (lvf x) (stf x) := by
    intro n
    induction n with
    | zero => intro x h; exact absurd h (Nat.not_lt_zero _)
    | succ n ih => intro x h hi; exact body x hi (fun y hy hlt => ih y (Nat.lt_of_lt_of_le hlt (Nat.le_of_lt_succ h)) hy)
  exact key _ x0 (Nat.lt_succ_self _) h0
theorem jr_cut {σ : Type} (pcj : Nat) (P : σ → Prop) (wsf : σ → va_W) (lvf : σ → List (Nat × Value)) (stf : σ → List Value) (k : ∀ y, P y → J p l e R s m args below meth c A G nL cells slots Q (wsf y) pcj (lvf y) (stf y)) (k2 : (∀ y, P y → J p l e R s m args below meth c A G nL cells slots Q (wsf y) pcj (lvf y) (stf y)) → J p l e R s m args below meth c A G nL cells slots Q ws pc lv st) : J p l e R s m args below meth c A G nL cells slots Q ws pc lv st := k2 k
theorem jabs {a : Int} (ha : jR a) (h0 : a ≠ -2147483648) : (if 0 ≤ iI a then iI a else 0 - iI a) = iI (a.natAbs : Int) := by
  have e1 : (0 : Int32) = iI 0 := rfl
  by_cases h : 0 ≤ a
  · rw [if_pos (e1 ▸ (iI_le ⟨by decide, by decide⟩ ha).mpr h), Int.natAbs_of_nonneg h]
  · rw [if_neg (fun q => h ((iI_le ⟨by decide, by decide⟩ ha).mp (e1 ▸ q))), e1, iI_sub]
    exact congrArg iI (by omega)
theorem jr_abs (h : jOK p s m args meth c A G cc Ts own nL) {index : Nat} {a : Int} (hw1 : Cond.methodLink own index Lib.Math.abs.name ∈ Ts) (hw2 : Cond.static Lib.Math.abs.name ∈ Ts) (hw3 : Cond.initialized "java/lang/Math" ∈ Ts) (hw4 : Cond.code Lib.Math.abs.name Lib.Math.abs.code 1 (some .int) ∈ Ts) (hRm : 1 ≤ R.frames ∧ (st.map fun v => v.category).sum + 13 ≤ R.locals ∧ cells ≤ R.cells ∧ slots ≤ R.slots) (ha : jR a) (h0 : a ≠ -2147483648) (hd : decode cc pc = .ok (.invokestatic index, 3)) (k : J p l e R s m args below meth c A G nL cells slots Q ws (pc + 3) lv (.int (iI (a.natAbs : Int)) :: st)) : J p l e R s m args below meth c A G nL cells slots Q ws pc lv (.int (iI a) :: st) := by
  intro H locs ls hP hD hS hl
  exact va_mabs (jx h) (jb h) ((jml h).trans hl.1.symm) (jown h) (jts h _ hw1) (jts h _ hw2) (jts h _ hw3) (jts h _ hw4) hRm.1 hRm.2.1 hRm.2.2.1 hRm.2.2.2 hd (by rw [jabs ha h0]; exact k H locs ls hP hD hS hl)
theorem jr_lvset (q : Nat) {i : Nat} {a b : Int} (hk : lv[q]? = some (i, .int (iI a))) (e0 : a = b) (hset : lv.set q (i, .int (iI b)) = lv') (k : J p l e R s m args below meth c A G nL cells slots Q ws pc lv' st) : J p l e R s m args below meth c A G nL cells slots Q ws pc lv st := by
  subst e0
  have e1 : lv.set q (i, .int (iI a)) = lv := by
    apply List.ext_getElem?
    intro j
    rw [List.getElem?_set]
    by_cases hj : q = j
    · subst hj
      obtain ⟨h1, h2⟩ := List.getElem?_eq_some_iff.mp hk
      rw [if_pos rfl, if_pos h1, hk]
    · rw [if_neg hj]
  rw [e1] at hset
  subst hset
  exact k
theorem jr_lvsetl (q : Nat) {i : Nat} {a b : Int} (hk : lv[q]? = some (i, .long (lI a))) (e0 : a = b) (hset : lv.set q (i, .long (lI b)) = lv') (k : J p l e R s m args below meth c A G nL cells slots Q ws pc lv' st) : J p l e R s m args below meth c A G nL cells slots Q ws pc lv st := by
  subst e0
  have e1 : lv.set q (i, .long (lI a)) = lv := by
    apply List.ext_getElem?
    intro j
    rw [List.getElem?_set]
    by_cases hj : q = j
    · subst hj
      obtain ⟨h1, h2⟩ := List.getElem?_eq_some_iff.mp hk
      rw [if_pos rfl, if_pos h1, hk]
    · rw [if_neg hj]
  rw [e1] at hset
  subst hset
  exact k
end JLOOP
theorem jsi {a b : Int} (h : a = b) : (some (Value.int (iI a)) : Option Value) = some (.int (iI b)) := by rw [h]
theorem jsl {a b : Int} (h : a = b) : (some (Value.long (lI a)) : Option Value) = some (.long (lI b)) := by rw [h]
def sumTo (f : Nat → Int) : Nat → Int
  | 0 => 0
  | n + 1 => sumTo f n + f n
theorem sumTo_s (f : Nat → Int) (n : Nat) : sumTo f (n + 1) = sumTo f n + f n := rfl
theorem sumTo_0 (f : Nat → Int) : sumTo f 0 = 0 := rfl
theorem sumTo_congr {f g : Nat → Int} {n : Nat} (h : ∀ k, k < n → f k = g k) : sumTo f n = sumTo g n := by
  induction n with
  | zero => rfl
  | succ n ih => rw [sumTo_s, sumTo_s, ih (fun k hk => h k (by omega)), h n (by omega)]
theorem sumTo_bound {f : Nat → Int} {a b : Int} {n : Nat} (h : ∀ k, k < n → a ≤ f k ∧ f k ≤ b) : (n : Int) * a ≤ sumTo f n ∧ sumTo f n ≤ (n : Int) * b := by
  induction n with
  | zero => simp [sumTo_0]
  | succ n ih =>
    have h1 := ih (fun k hk => h k (by omega))
    have h2 := h n (by omega)
    rw [sumTo_s, Int.natCast_succ, Int.add_mul, Int.add_mul]
    omega
/-- how many places below n hold w -/
def cntTo (f : Nat → Int) (w : Int) (n : Nat) : Int := sumTo (fun k => if f k = w then 1 else 0) n
theorem cntTo_s (f : Nat → Int) (w : Int) (n : Nat) : cntTo f w (n + 1) = cntTo f w n + (if f n = w then 1 else 0) := rfl
theorem cntTo_bound (f : Nat → Int) (w : Int) (n : Nat) : 0 ≤ cntTo f w n ∧ cntTo f w n ≤ n := by
  have h := sumTo_bound (f := fun k => if f k = w then 1 else 0) (a := 0) (b := 1) (n := n) (fun k _ => by split <;> decide)
  unfold cntTo
  omega
