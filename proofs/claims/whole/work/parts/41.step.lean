/-! what a call does keeps the two alike -/
theorem okM_cong {F F' : Nat → Nat → Int} {V V' : Nat → Int} (h : okM F V) (hF : mSc F F') (hV : ∀ k : Nat, k ≠ 0 → V' k = V k) : okM F' V' := by
  unfold okM at h ⊢
  rw [hV 1 (by decide), hV 2 (by decide), hV 3 (by decide), hV 4 (by decide), hV 5 (by decide), hF 0 (by decide), hF 1 (by decide), hF 2 (by decide), hF 3 (by decide), hF 4 (by decide), hF 5 (by decide), hF 6 (by decide), hF 7 (by decide), hF 8 (by decide), hF 9 (by decide), hF 10 (by decide), hF 11 (by decide), hF 12 (by decide), hF 14 (by decide)]
  exact h
theorem Rel_cong {FC FC' : Nat → Nat → Int} {VC : Nat → Int} {FM FM' : Nat → Nat → Int} {VM VM' : Nat → Int} (h : Rel FC VC FM VM) (hC : scr FC FC') (hF : mSc FM FM') (hV : ∀ k : Nat, k ≠ 0 → VM' k = VM k) : Rel FC' VC FM' VM' := by
  obtain ⟨e, -⟩ := hC
  have ha : ∀ s d t : Nat, addM FM' s d t = addM FM s d t := fun s d t => by
    funext k
    unfold addM
    rw [hF 5 (by decide), hF 6 (by decide), hF 7 (by decide), hF 8 (by decide)]
  have hx : ∀ c : Nat, acX FM' c = acX FM c := fun c => by
    unfold acX
    rw [hF 9 (by decide), hF 12 (by decide)]
  unfold Rel at h ⊢
  rw [hV 1 (by decide), hV 2 (by decide), hV 3 (by decide), hV 4 (by decide), hV 5 (by decide), hF 0 (by decide), hF 1 (by decide), hF 2 (by decide), hF 3 (by decide), hF 4 (by decide), hF 5 (by decide), hF 10 (by decide), hF 11 (by decide), hF 14 (by decide),
    e 0 (by decide) (by decide) (by decide), e 2 (by decide) (by decide) (by decide), e 3 (by decide) (by decide) (by decide), e 4 (by decide) (by decide) (by decide), e 5 (by decide) (by decide) (by decide), e 6 (by decide) (by decide) (by decide), e 7 (by decide) (by decide) (by decide), e 8 (by decide) (by decide) (by decide), e 11 (by decide) (by decide) (by decide), e 12 (by decide) (by decide) (by decide), e 13 (by decide) (by decide) (by decide)]
  simp only [ha, hx]
  exact h
theorem Inv_cong {FC FC' : Nat → Nat → Int} {VC : Nat → Int} {FM FM' : Nat → Nat → Int} {VM VM' : Nat → Int} (h : Inv FC VC FM VM) (hC : scr FC FC') (hF : mSc FM FM') (hV : ∀ k : Nat, k ≠ 0 → VM' k = VM k) : Inv FC' VC FM' VM' :=
  ⟨okM_cong h.1 hF hV, Rel_cong h.2.1 hC hF hV, hC.2⟩
theorem scr_i {FC : Nat → Nat → Int} {VC : Nat → Int} {FM : Nat → Nat → Int} {VM : Nat → Int} (h : Inv FC VC FM VM) : scr FC FC := ⟨fun _ _ _ _ => rfl, h.2.2⟩
theorem jV0 {V V' : Nat → Int} {z : Int} (e : V' = jU V 0 z) : ∀ k : Nat, k ≠ 0 → V' k = V k := fun k hk => by rw [e, jU_n hk]
theorem Inv_0 : Inv FC0 VC0 FM0 VM0 := by
  refine ⟨⟨⟨by decide, by decide⟩, ⟨by decide, by decide⟩, ⟨by decide, by decide⟩, ⟨by decide, by decide⟩, ⟨by decide, by decide⟩, fun d _ => ⟨by show (0 : Int) ≤ 0; decide, by show (0 : Int) ≤ 9999; decide⟩, fun i hi => ?_, fun k hk => ?_, fun k hk => ?_, fun c hc => ?_⟩, ⟨⟨rfl, rfl, rfl, rfl, rfl⟩, rfl, fun k h1 h2 => ?_, fun _ => rfl, fun _ _ _ _ _ => rfl, ⟨rfl, rfl, fun i hi => ?_⟩, fun c hc => ?_, ⟨rfl, rfl, rfl, fun _ _ => rfl⟩⟩, fun d _ => ⟨by show (-99999999 : Int) ≤ 0; decide, by show (0 : Int) ≤ 99999999; decide⟩⟩
  · have hi2 : (i : Int) < 0 := hi
    omega
  · have hk2 : (k : Int) < 1 := hk
    have : k = 0 := by omega
    subst this
    exact ⟨by decide, by decide⟩
  · have hk2 : (k : Int) < 0 := hk
    omega
  · refine ⟨⟨by show (-9999999 : Int) ≤ 0; decide, by show (0 : Int) ≤ 9999999; decide⟩, ⟨by show (-99999999 : Int) ≤ 0; decide, by show (0 : Int) ≤ 99999999; decide⟩, ⟨by show (0 : Int) ≤ 0; decide, by show (0 : Int) ≤ 9999; decide⟩, Or.inl rfl, Or.inl ?_⟩
    show (if c < 120 then (45 : Int) else 0) = 45
    rw [if_pos hc]
  · have h3 : (k : Int) < 1 := h2
    omega
  · have hi2 : (i : Int) < 0 := hi
    omega
  · show (if c < 120 then (-1000000000 : Int) else 0) = _
    rw [if_pos hc]
    rfl
section STEPS
variable {FC : Nat → Nat → Int} {VC : Nat → Int} {FM : Nat → Nat → Int} {VM : Nat → Int}
theorem s_addDriver (h : Inv FC VC FM VM) {z : Int} (hz : 0 ≤ z ∧ z ≤ 9999) (hn : VC 3 < 6) : Inv (uF FC 0 (jU (FC 0) (VC 3).toNat z)) (jU VC 3 (VC 3 + 1)) (uF FM 0 (jU (FM 0) (VM 1).toNat z)) (jU (jU VM 0 0) 1 (VM 1 + 1)) := by
  obtain ⟨⟨m1, m2, m3, m4, m5, m6, m7, m8, m9, m10⟩, ⟨⟨v0, v1, v2, v3, v4⟩, e0, hr⟩, hin⟩ := h
  refine ⟨⟨⟨by show 0 ≤ VM 1 + 1; omega, by show VM 1 + 1 ≤ 6; omega⟩, m2, m3, m4, m5, fun d hd => ?_, fun i hi => ?_, m8, fun k hk => ?_, m10⟩, ⟨⟨v0, v1, v2, by show VC 3 + 1 = VM 1 + 1; omega, v4⟩, ?_, hr⟩, hin⟩
  · show 0 ≤ jU (FM 0) (VM 1).toNat z d ∧ jU (FM 0) (VM 1).toNat z d ≤ 9999
    have := m6 d hd
    unfold jU
    split <;> omega
  · have q := m7 i hi
    refine ⟨q.1, fun hd => ?_, q.2.2⟩
    have := q.2.1 hd
    refine ⟨this.1, ?_⟩
    show FM 2 i < VM 1 + 1
    omega
  · have q := m9 k hk
    refine ⟨q.1, ⟨q.2.1.1, ?_⟩, q.2.2⟩
    show FM 6 k < VM 1 + 1
    omega
  · show jU (FC 0) (VC 3).toNat z = jU (FM 0) (VM 1).toNat z
    rw [v3, e0]
theorem s_dv (h : Inv FC VC FM VM) (d : Nat) {z : Int} (hz : 0 ≤ z ∧ z ≤ 9999) : Inv (uF FC 0 (jU (FC 0) d z)) VC (uF FM 0 (jU (FM 0) d z)) VM := by
  obtain ⟨hM, ⟨hv, e0, hr⟩, hin⟩ := h
  refine ⟨okM_dv hM d hz, ⟨hv, ?_, hr⟩, hin⟩
  show jU (FC 0) d z = jU (FM 0) d z
  rw [e0]
theorem s_act (h : Inv FC VC FM VM) (c : Nat) {z : Int} (hz : -9999999 ≤ z ∧ z ≤ 9999999) : Inv (uF FC 8 (jU (FC 8) c z)) VC (uF (uF FM 9 (jU (FM 9) c z)) 12 (jU (FM 12) c 1)) VM := by
  obtain ⟨hM, ⟨hv, e0, hp, ho, had, hl, hac, hs⟩, hin⟩ := h
  refine ⟨okM_act hM c hz, ⟨hv, e0, hp, ho, had, hl, fun c2 hc => ?_, hs⟩, hin⟩
  show jU (FC 8) c z c2 = (if jU (FM 12) c 1 c2 = 1 then jU (FM 9) c z c2 else -1000000000)
  by_cases hq : c2 = c
  · subst hq; rw [jU_s, jU_s, jU_s, if_pos rfl]
  · rw [jU_n hq, jU_n hq, jU_n hq]; exact hac c2 hc
theorem s_tk (h : Inv FC VC FM VM) (c : Nat) : Inv (uF FC 8 (jU (FC 8) c (-1000000000))) VC (uF FM 12 (jU (FM 12) c 0)) VM := by
  obtain ⟨hM, ⟨hv, e0, hp, ho, had, hl, hac, hs⟩, hin⟩ := h
  refine ⟨okM_tk hM c, ⟨hv, e0, hp, ho, had, hl, fun c2 hc => ?_, hs⟩, hin⟩
  show jU (FC 8) c (-1000000000) c2 = (if jU (FM 12) c 0 c2 = 1 then FM 9 c2 else -1000000000)
  by_cases hq : c2 = c
  · subst hq; rw [jU_s, jU_s, if_neg (by decide)]
  · rw [jU_n hq, jU_n hq]; exact hac c2 hc
/-- the look at all approvals -/
theorem s_look (h : Inv FC VC FM VM) {FC' FM' : Nat → Nat → Int} {VM' : Nat → Int} (hC : scS FC FC' VC 12) (hF : mSc (uF FM 14 (stM FM VM)) FM') (hV : ∀ k : Nat, k ≠ 0 → VM' k = VM k) : Inv FC' VC FM' VM' := by
  have hst := st_eq h
  have h1 : Inv (uF FC 11 (stM FM VM)) VC (uF FM 14 (stM FM VM)) VM := by
    obtain ⟨⟨m1, m2, m3, m4, m5, m6, m7, m8, m9, m10⟩, ⟨hv, e0, hp, ho, had, hl, hac, e11, e12, e13, ht⟩, hin⟩ := h
    refine ⟨⟨m1, m2, m3, m4, m5, m6, m7, m8, m9, fun c hc => ?_⟩, ⟨hv, e0, hp, ho, had, hl, hac, rfl, e12, e13, fun c hc => ?_⟩, hin⟩
    · have q := m10 c hc
      refine ⟨q.1, q.2.1, q.2.2.1, q.2.2.2.1, ?_⟩
      show stM FM VM c = 45 ∨ stM FM VM c = 97 ∨ stM FM VM c = 111
      unfold stM
      split
      · exact Or.inr (Or.inr rfl)
      · exact q.2.2.2.2
    · have hc2 : stM FM VM c = 45 := hc
      refine ht c ?_
      unfold stM at hc2
      split at hc2
      · exact absurd hc2 (by decide)
      · exact hc2
  refine Inv_cong h1 ⟨fun k a b c => ?_, hC.2.1⟩ hF hV
  by_cases hk : k = 11
  · subst hk
    rw [uF_s]
    funext q
    rw [hC.2.2 q, if_pos (Nat.mod_lt _ (by decide)), hst]
  · rw [uF_n hk]
    exact hC.1 k a b c hk
theorem s_addLine (h : Inv FC VC FM VM) {kd on ot o : Int} (hkd : 0 ≤ kd ∧ kd ≤ 65535) (hcd : cdAddLine (VC 3) (VC 2) kd on ot = 0) (ho2 : kd ≠ 100 → o = ot) : Inv (uF (uF (uF FC 5 (jU (FC 5) (VC 2).toNat kd)) 6 (jU (FC 6) (VC 2).toNat on)) 7 (jU (FC 7) (VC 2).toNat ot)) (jU VC 2 (VC 2 + 1)) (uF (uF (uF FM 1 (jU (FM 1) (VM 2).toNat kd)) 2 (jU (FM 2) (VM 2).toNat on)) 3 (jU (FM 3) (VM 2).toNat o)) (jU (jU VM 0 0) 2 (VM 2 + 1)) := by
  obtain ⟨⟨m1, m2, m3, m4, m5, m6, m7, m8, m9, m10⟩, ⟨⟨v0, v1, v2, v3, v4⟩, e0, hp, ho, had, ⟨e5, e6, e7⟩, hr⟩, hin⟩ := h
  unfold cdAddLine at hcd
  have q100 : kd = 100 → 0 ≤ on ∧ on < VM 1 := fun q => by omega
  have qn : kd ≠ 100 → (0 ≤ on ∧ on < VM 2) ∧ (0 ≤ ot ∧ ot < VM 2) := fun q => by omega
  have hn : VM 2 < 10 := by omega
  refine ⟨⟨m1, ⟨by show 0 ≤ VM 2 + 1; omega, by show VM 2 + 1 ≤ 10; omega⟩, m3, m4, m5, m6, fun i hi => ?_, m8, m9, m10⟩, ⟨⟨v0, v1, by show VC 2 + 1 = VM 2 + 1; omega, v3, v4⟩, e0, hp, ho, had, ⟨?_, ?_, fun i hi => ?_⟩, hr⟩, hin⟩
  · have hi2 : (i : Int) < VM 2 + 1 := hi
    show (0 ≤ jU (FM 1) (VM 2).toNat kd i ∧ jU (FM 1) (VM 2).toNat kd i ≤ 65535) ∧ (jU (FM 1) (VM 2).toNat kd i = 100 → 0 ≤ jU (FM 2) (VM 2).toNat on i ∧ jU (FM 2) (VM 2).toNat on i < VM 1) ∧ (jU (FM 1) (VM 2).toNat kd i ≠ 100 → (0 ≤ jU (FM 2) (VM 2).toNat on i ∧ jU (FM 2) (VM 2).toNat on i < i) ∧ (0 ≤ jU (FM 3) (VM 2).toNat o i ∧ jU (FM 3) (VM 2).toNat o i < i))
    by_cases hq : i = (VM 2).toNat
    · subst hq
      rw [jU_s, jU_s, jU_s]
      refine ⟨hkd, q100, fun hk => ?_⟩
      have := qn hk
      have := ho2 hk
      omega
    · rw [jU_n hq, jU_n hq, jU_n hq]
      exact m7 i (by omega)
  · show jU (FC 5) (VC 2).toNat kd = jU (FM 1) (VM 2).toNat kd
    rw [v2, e5]
  · show jU (FC 6) (VC 2).toNat on = jU (FM 2) (VM 2).toNat on
    rw [v2, e6]
  · have hi2 : (i : Int) < VM 2 + 1 := hi
    show jU (FM 1) (VM 2).toNat kd i ≠ 100 → jU (FC 7) (VC 2).toNat ot i = jU (FM 3) (VM 2).toNat o i
    rw [v2]
    by_cases hq : i = (VM 2).toNat
    · subst hq
      rw [jU_s, jU_s, jU_s]
      exact fun hk => (ho2 hk).symm
    · rw [jU_n hq, jU_n hq, jU_n hq]
      exact e7 i (by omega)
theorem s_addScenario (h : Inv FC VC FM VM) {pr : Int} (hp0 : 0 ≤ pr ∧ pr < VC 0) (hn : VC 0 < 4) : Inv (uF FC 2 (jU (FC 2) (VC 0).toNat pr)) (jU VC 0 (VC 0 + 1)) (uF FM 4 (jU (FM 4) (VM 3).toNat pr)) (jU (jU VM 0 0) 3 (VM 3 + 1)) := by
  obtain ⟨⟨m1, m2, m3, m4, m5, m6, m7, m8, m9, m10⟩, ⟨⟨v0, v1, v2, v3, v4⟩, e0, hp, ho, had, hr⟩, hin⟩ := h
  refine ⟨⟨m1, m2, ⟨by show 1 ≤ VM 3 + 1; omega, by show VM 3 + 1 ≤ 4; omega⟩, m4, m5, m6, m7, fun k hk => ?_, fun k hk => ?_, m10⟩, ⟨⟨by show VC 0 + 1 = VM 3 + 1; omega, v1, v2, v3, v4⟩, e0, fun k h1 hk => ?_, ho, had, hr⟩, hin⟩
  · have hk2 : (k : Int) < VM 3 + 1 := hk
    show -1 ≤ jU (FM 4) (VM 3).toNat pr k ∧ jU (FM 4) (VM 3).toNat pr k < k
    by_cases hq : k = (VM 3).toNat
    · subst hq; rw [jU_s]; omega
    · rw [jU_n hq]; exact m8 k (by omega)
  · have q := m9 k hk
    refine ⟨⟨q.1.1, ?_⟩, q.2⟩
    show FM 5 k < VM 3 + 1
    omega
  · have hk2 : (k : Int) < VM 3 + 1 := hk
    show jU (FC 2) (VC 0).toNat pr k = jU (FM 4) (VM 3).toNat pr k ∧ 0 ≤ jU (FM 4) (VM 3).toNat pr k
    rw [v0]
    by_cases hq : k = (VM 3).toNat
    · subst hq; rw [jU_s, jU_s]; exact ⟨rfl, hp0.1⟩
    · rw [jU_n hq, jU_n hq]; exact hp k h1 (by omega)
theorem s_differ (h : Inv FC VC FM VM) {s d t : Nat} {x : Int} (hs : (s : Int) < VC 0) (hs0 : s ≠ 0) (hd : (d : Int) < VC 3) (ht : t < 12) (hx : -999 ≤ x ∧ x ≤ 999) (hn : VC 1 < 12) : Inv (uF (uF FC 3 (jU (FC 3) s (FC 3 s + 1))) 4 (adU (FC 4) (s * 6 + d) t 12 x)) (jU VC 1 (VC 1 + 1)) (uF (uF (uF (uF FM 5 (jU (FM 5) (VM 4).toNat s)) 6 (jU (FM 6) (VM 4).toNat d)) 7 (jU (FM 7) (VM 4).toNat t)) 8 (jU (FM 8) (VM 4).toNat x)) (jU (jU VM 0 0) 4 (VM 4 + 1)) := by
  obtain ⟨⟨m1, m2, m3, m4, m5, m6, m7, m8, m9, m10⟩, ⟨⟨v0, v1, v2, v3, v4⟩, e0, hp, ho, had, hr⟩, hin⟩ := h
  have e4 : (VM 4 + 1).toNat = (VM 4).toNat + 1 := by omega
  refine ⟨⟨m1, m2, m3, ⟨by show 0 ≤ VM 4 + 1; omega, by show VM 4 + 1 ≤ 12; omega⟩, m5, m6, m7, m8, fun k hk => ?_, m10⟩, ⟨⟨v0, by show VC 1 + 1 = VM 4 + 1; omega, v2, v3, v4⟩, e0, hp, fun s2 => ?_, fun s2 d2 t2 hd2 ht2 => ?_, hr⟩, hin⟩
  · have hk2 : (k : Int) < VM 4 + 1 := hk
    show (1 ≤ jU (FM 5) (VM 4).toNat s k ∧ jU (FM 5) (VM 4).toNat s k < VM 3) ∧ (0 ≤ jU (FM 6) (VM 4).toNat d k ∧ jU (FM 6) (VM 4).toNat d k < VM 1) ∧ (0 ≤ jU (FM 7) (VM 4).toNat t k ∧ jU (FM 7) (VM 4).toNat t k < 12) ∧ (-999 ≤ jU (FM 8) (VM 4).toNat x k ∧ jU (FM 8) (VM 4).toNat x k ≤ 999)
    by_cases hq : k = (VM 4).toNat
    · subst hq; rw [jU_s, jU_s, jU_s, jU_s]; omega
    · rw [jU_n hq, jU_n hq, jU_n hq, jU_n hq]; exact m9 k (by omega)
  · show jU (FC 3) s (FC 3 s + 1) s2 = cntTo (jU (FM 5) (VM 4).toNat s) s2 (VM 4 + 1).toNat
    rw [e4, cntTo_s, jU_s]
    have e9 : cntTo (jU (FM 5) (VM 4).toNat s) s2 (VM 4).toNat = cntTo (FM 5) s2 (VM 4).toNat := sumTo_congr fun k hk => by rw [jU_n (by omega)]
    rw [e9]
    by_cases hq : s2 = s
    · subst hq; rw [jU_s, ho, if_pos rfl]
    · rw [jU_n hq, ho, if_neg (by omega)]; omega
  · show adU (FC 4) (s * 6 + d) t 12 x ((s2 * 6 + d2) * 12 + t2) = sumTo (addM (uF (uF (uF (uF FM 5 (jU (FM 5) (VM 4).toNat s)) 6 (jU (FM 6) (VM 4).toNat d)) 7 (jU (FM 7) (VM 4).toNat t)) 8 (jU (FM 8) (VM 4).toNat x)) s2 d2 t2) (VM 4 + 1).toNat
    rw [e4, sumTo_s]
    have e9 : sumTo (addM (uF (uF (uF (uF FM 5 (jU (FM 5) (VM 4).toNat s)) 6 (jU (FM 6) (VM 4).toNat d)) 7 (jU (FM 7) (VM 4).toNat t)) 8 (jU (FM 8) (VM 4).toNat x)) s2 d2 t2) (VM 4).toNat = sumTo (addM FM s2 d2 t2) (VM 4).toNat := sumTo_congr fun k hk => by
      show (if jU (FM 5) (VM 4).toNat s k = s2 ∧ jU (FM 6) (VM 4).toNat d k = d2 ∧ jU (FM 7) (VM 4).toNat t k ≤ t2 then jU (FM 8) (VM 4).toNat x k else 0) = addM FM s2 d2 t2 k
      rw [jU_n (by omega), jU_n (by omega), jU_n (by omega), jU_n (by omega)]
      rfl
    have e8 : addM (uF (uF (uF (uF FM 5 (jU (FM 5) (VM 4).toNat s)) 6 (jU (FM 6) (VM 4).toNat d)) 7 (jU (FM 7) (VM 4).toNat t)) 8 (jU (FM 8) (VM 4).toNat x)) s2 d2 t2 (VM 4).toNat = if (s : Int) = s2 ∧ (d : Int) = d2 ∧ (t : Int) ≤ t2 then x else 0 := by
      show (if jU (FM 5) (VM 4).toNat s (VM 4).toNat = s2 ∧ jU (FM 6) (VM 4).toNat d (VM 4).toNat = d2 ∧ jU (FM 7) (VM 4).toNat t (VM 4).toNat ≤ t2 then jU (FM 8) (VM 4).toNat x (VM 4).toNat else 0) = _
      rw [jU_s, jU_s, jU_s, jU_s]
    rw [e9, e8, ← had s2 d2 t2 hd2 ht2]
    unfold adU
    by_cases hq : (s : Int) = s2 ∧ (d : Int) = d2 ∧ (t : Int) ≤ t2
    · rw [if_pos (by omega), if_pos hq]
    · rw [if_neg (by omega), if_neg hq]; omega
theorem s_pass (h : Inv FC VC FM VM) (hn : VC 4 < 11) : Inv FC (jU VC 4 (VC 4 + 1)) FM (jU (jU VM 0 0) 5 (VM 5 + 1)) := by
  obtain ⟨⟨m1, m2, m3, m4, m5, hm⟩, ⟨⟨v0, v1, v2, v3, v4⟩, hr⟩, hin⟩ := h
  exact ⟨⟨m1, m2, m3, m4, ⟨by show 0 ≤ VM 5 + 1; omega, by show VM 5 + 1 ≤ 11; omega⟩, hm⟩, ⟨⟨v0, v1, v2, v3, by show VC 4 + 1 = VM 5 + 1; omega⟩, hr⟩, hin⟩
theorem s_approve (h : Inv FC VC FM VM) {c : Nat} {x y tol : Int} (hc : c < 120) (hx : -99999999 ≤ y ∧ y ≤ 99999999) (hxy : x = y) (ht : 0 ≤ tol ∧ tol ≤ 9999) : Inv (uF (uF (uF FC 11 (jU (FC 11) c 97)) 12 (jU (FC 12) c x)) 13 (jU (FC 13) c tol)) VC (uF (uF (uF FM 14 (jU (FM 14) c 97)) 10 (jU (FM 10) c y)) 11 (jU (FM 11) c tol)) VM := by
  subst hxy
  obtain ⟨⟨m1, m2, m3, m4, m5, m6, m7, m8, m9, m10⟩, ⟨hv, e0, hp, ho, had, hl, hac, e11, e12, e13, ht9⟩, hin⟩ := h
  refine ⟨⟨m1, m2, m3, m4, m5, m6, m7, m8, m9, fun c2 hc2 => ?_⟩, ⟨hv, e0, hp, ho, had, hl, hac, ?_, ?_, ?_, fun c2 hc2 => ?_⟩, hin⟩
  · have q := m10 c2 hc2
    refine ⟨q.1, ?_, ?_, q.2.2.2.1, ?_⟩
    · show -99999999 ≤ jU (FM 10) c x c2 ∧ jU (FM 10) c x c2 ≤ 99999999
      have := q.2.1
      unfold jU
      split <;> omega
    · show 0 ≤ jU (FM 11) c tol c2 ∧ jU (FM 11) c tol c2 ≤ 9999
      have := q.2.2.1
      unfold jU
      split <;> omega
    · show jU (FM 14) c 97 c2 = 45 ∨ jU (FM 14) c 97 c2 = 97 ∨ jU (FM 14) c 97 c2 = 111
      have := q.2.2.2.2
      unfold jU
      split <;> omega
  · show jU (FC 11) c 97 = jU (FM 14) c 97
    rw [e11]
  · show jU (FC 12) c x = jU (FM 10) c x
    rw [e12]
  · show jU (FC 13) c tol = jU (FM 11) c tol
    rw [e13]
  · have hc3 : jU (FM 14) c 97 c2 = 45 := hc2
    show jU (FM 11) c tol c2 = 0
    by_cases hq : c2 = c
    · subst hq; rw [jU_s] at hc3; exact absurd hc3 (by decide)
    · rw [jU_n hq] at hc3 ⊢
      exact ht9 c2 hc3
end STEPS
