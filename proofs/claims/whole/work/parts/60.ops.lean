/-! one call on both sides -/
theorem op_fin {FC FC' : Nat → Nat → Int} {VC VC' : Nat → Int} {FM FM' : Nat → Nat → Int} {VM VM' : Nat → Int} {cdC cdM : Int} {P : Prop} (h : Inv FC VC FM VM) (he : cdC = cdM) (hr : 0 ≤ cdC ∧ cdC ≤ 4) (hc1 : cdC ≠ 0 → scr FC FC' ∧ VC' = VC) (hm1 : cdM ≠ 0 → mSc FM FM' ∧ VM' = jU VM 0 cdM) (h0 : cdC = 0 → VM' 0 = 0 ∧ P ∧ Inv FC' VC' FM' VM') : VM' 0 = cdC ∧ (0 ≤ cdC ∧ cdC ≤ 4) ∧ (cdC = 0 → P) ∧ Inv FC' VC' FM' VM' := by
  by_cases q : cdC = 0
  · obtain ⟨h1, h2, h3⟩ := h0 q
    exact ⟨h1.trans q.symm, hr, fun _ => h2, h3⟩
  · obtain ⟨c1, rfl⟩ := hc1 q
    obtain ⟨c2, rfl⟩ := hm1 (he ▸ q)
    refine ⟨(jU_s _ _ _).trans he.symm, hr, fun q2 => absurd q2 q, Inv_cong h c1 c2 (fun k hk => jU_n hk)⟩
theorem inv_own {FC : Nat → Nat → Int} {VC : Nat → Int} {FM : Nat → Nat → Int} {VM : Nat → Int} (h : Inv FC VC FM VM) (q : Nat) : 0 ≤ FC 3 q ∧ FC 3 q ≤ 12 := by
  rw [h.2.1.2.2.2.1 q]
  have h1 := cntTo_bound (FM 5) q (VM 4).toNat
  have h2 := h.1.2.2.2.1
  omega
theorem enc_jR {x : Option Int} (h : inB x) : jR (enc x) := by
  have := enc_range h
  exact ⟨by omega, by omega⟩
theorem op_addDriver {FC FC' : Nat → Nat → Int} {VC VC' : Nat → Int} {FM FM' : Nat → Nat → Int} {VM VM' : Nat → Int} {z : Int} {fo0 v : Int} (h : Inv FC VC FM VM) (hc1 : cdAddDriver (VC 3) z ≠ 0 → scr FC FC' ∧ VC' = VC) (hc2 : cdAddDriver (VC 3) z = 0 → fo0 = VC 3 ∧ FC' = uF FC 0 (jU (FC 0) (VC 3).toNat z) ∧ VC' = jU VC 3 (VC 3 + 1)) (hm1 : cdAddDriver (VM 1) z ≠ 0 → mSc FM FM' ∧ VM' = jU VM 0 (cdAddDriver (VM 1) z)) (hm2 : cdAddDriver (VM 1) z = 0 → v = VM 1 ∧ mSc (uF FM 0 (jU (FM 0) (VM 1).toNat z)) FM' ∧ VM' = jU (jU VM 0 0) 1 (VM 1 + 1)) : VM' 0 = cdAddDriver (VC 3) z ∧ (0 ≤ cdAddDriver (VC 3) z ∧ cdAddDriver (VC 3) z ≤ 4) ∧ (cdAddDriver (VC 3) z = 0 → fo0 = v ∧ jR v) ∧ Inv FC' VC' FM' VM' := by
  have hok := okC_of h
  obtain ⟨v0, v1, v2, v3, v4⟩ := id h.2.1.1
  obtain ⟨m1, m2, m3, m4, m5, -⟩ := id h.1
  have he : cdAddDriver (VC 3) z = cdAddDriver (VM 1) z := by
    rw [v3]
  refine op_fin h he (by unfold cdAddDriver; omega) hc1 hm1 (fun q => ?_)
  obtain ⟨c1, c2, c3⟩ := hc2 q
  have q9 := hm2 (he ▸ q)
  have q2 := q
  unfold cdAddDriver at q2
  obtain ⟨e4, e5, rfl⟩ := q9
  subst c2 c3
  exact ⟨rfl, ⟨by omega, by omega, by omega⟩, Inv_cong (s_addDriver h (by omega) (by omega)) ⟨fun _ _ _ _ => rfl, h.2.2⟩ e5 (fun _ _ => rfl)⟩
theorem op_setDriver {FC FC' : Nat → Nat → Int} {VC VC' : Nat → Int} {FM FM' : Nat → Nat → Int} {VM VM' : Nat → Int} {d z : Int} {fo0 v : Int} (h : Inv FC VC FM VM) (hc1 : cdSetDriver (VC 3) d z ≠ 0 → scr FC FC' ∧ VC' = VC) (hc2 : cdSetDriver (VC 3) d z = 0 → fo0 = cntC (uF FC 0 (jU (FC 0) d.toNat z)) VC ∧ scS (uF FC 0 (jU (FC 0) d.toNat z)) FC' VC 12 ∧ VC' = VC) (hm1 : cdSetDriver (VM 1) d z ≠ 0 → mSc FM FM' ∧ VM' = jU VM 0 (cdSetDriver (VM 1) d z)) (hm2 : cdSetDriver (VM 1) d z = 0 → v = cntM (uF FM 0 (jU (FM 0) d.toNat z)) VM ∧ mSc (uF (uF FM 0 (jU (FM 0) d.toNat z)) 14 (stM (uF FM 0 (jU (FM 0) d.toNat z)) VM)) FM' ∧ VM' = jU VM 0 0) : VM' 0 = cdSetDriver (VC 3) d z ∧ (0 ≤ cdSetDriver (VC 3) d z ∧ cdSetDriver (VC 3) d z ≤ 4) ∧ (cdSetDriver (VC 3) d z = 0 → fo0 = v ∧ jR v) ∧ Inv FC' VC' FM' VM' := by
  have hok := okC_of h
  obtain ⟨v0, v1, v2, v3, v4⟩ := id h.2.1.1
  obtain ⟨m1, m2, m3, m4, m5, -⟩ := id h.1
  have he : cdSetDriver (VC 3) d z = cdSetDriver (VM 1) d z := by
    rw [v3]
  refine op_fin h he (by unfold cdSetDriver; omega) hc1 hm1 (fun q => ?_)
  obtain ⟨c1, c2, c3⟩ := hc2 q
  have q9 := hm2 (he ▸ q)
  have q2 := q
  unfold cdSetDriver at q2
  obtain ⟨e4, e5, rfl⟩ := q9
  subst c3
  have h1 := s_dv h d.toNat (z := z) (by omega)
  have hB := cntM_B (uF FM 0 (jU (FM 0) d.toNat z)) VM (VM 2).toNat
  rw [show sumTo (rowM (uF FM 0 (jU (FM 0) d.toNat z)) VM) (VM 2).toNat = cntM (uF FM 0 (jU (FM 0) d.toNat z)) VM from rfl] at hB
  exact ⟨rfl, ⟨by rw [c1, e4]; exact cnt_eq h1, by rw [e4]; exact ⟨by omega, by omega⟩⟩, s_look h1 c2 e5 (fun k hk => jU_n hk)⟩
theorem op_driver {FC FC' : Nat → Nat → Int} {VC VC' : Nat → Int} {FM FM' : Nat → Nat → Int} {VM VM' : Nat → Int} {sc d t : Int} {fo0 v : Int} (h : Inv FC VC FM VM) (hc1 : cdDriver (VC 0) (VC 3) sc d t ≠ 0 → scr FC FC' ∧ VC' = VC) (hc2 : cdDriver (VC 0) (VC 3) sc d t = 0 → fo0 = valC FC sc.toNat d.toNat t.toNat ∧ FC' = FC ∧ VC' = VC) (hm1 : cdDriver (VM 3) (VM 1) sc d t ≠ 0 → mSc FM FM' ∧ VM' = jU VM 0 (cdDriver (VM 3) (VM 1) sc d t)) (hm2 : cdDriver (VM 3) (VM 1) sc d t = 0 → v = valM FM VM sc.toNat d.toNat t.toNat 6 ∧ mSc FM FM' ∧ VM' = jU VM 0 0) : VM' 0 = cdDriver (VC 0) (VC 3) sc d t ∧ (0 ≤ cdDriver (VC 0) (VC 3) sc d t ∧ cdDriver (VC 0) (VC 3) sc d t ≤ 4) ∧ (cdDriver (VC 0) (VC 3) sc d t = 0 → fo0 = v ∧ jR v) ∧ Inv FC' VC' FM' VM' := by
  have hok := okC_of h
  obtain ⟨v0, v1, v2, v3, v4⟩ := id h.2.1.1
  obtain ⟨m1, m2, m3, m4, m5, -⟩ := id h.1
  have he : cdDriver (VC 0) (VC 3) sc d t = cdDriver (VM 3) (VM 1) sc d t := by
    rw [v0, v3]
  refine op_fin h he (by unfold cdDriver; omega) hc1 hm1 (fun q => ?_)
  obtain ⟨c1, c2, c3⟩ := hc2 q
  have q9 := hm2 (he ▸ q)
  have q2 := q
  unfold cdDriver at q2
  obtain ⟨e4, e5, rfl⟩ := q9
  subst c2 c3
  have hB := valC_B hok (s := sc.toNat) (d := d.toNat) (m := t.toNat) (by omega) (by omega) (by omega)
  have hE := val_eq h (s := sc.toNat) (d := d.toNat) (t := t.toNat) (by omega) (by omega) (by omega)
  exact ⟨rfl, ⟨by omega, by omega, by omega⟩, Inv_cong h (scr_i h) e5 (fun k hk => jU_n hk)⟩
theorem op_addLine {FC FC' : Nat → Nat → Int} {VC VC' : Nat → Int} {FM FM' : Nat → Nat → Int} {VM VM' : Nat → Int} {kd on ot : Int} {fo0 v : Int} (h : Inv FC VC FM VM) (hkd : 0 ≤ kd ∧ kd ≤ 65535) (hc1 : cdAddLine (VC 3) (VC 2) kd on ot ≠ 0 → scr FC FC' ∧ VC' = VC) (hc2 : cdAddLine (VC 3) (VC 2) kd on ot = 0 → fo0 = VC 2 ∧ FC' = uF (uF (uF FC 5 (jU (FC 5) (VC 2).toNat kd)) 6 (jU (FC 6) (VC 2).toNat on)) 7 (jU (FC 7) (VC 2).toNat ot) ∧ VC' = jU VC 2 (VC 2 + 1)) (hm1 : cdAddLine (VM 1) (VM 2) kd on ot ≠ 0 → mSc FM FM' ∧ VM' = jU VM 0 (cdAddLine (VM 1) (VM 2) kd on ot)) (hm2 : cdAddLine (VM 1) (VM 2) kd on ot = 0 → v = VM 2 ∧ ∃ o : Int, (kd ≠ 100 → o = ot) ∧ mSc (uF (uF (uF FM 1 (jU (FM 1) (VM 2).toNat kd)) 2 (jU (FM 2) (VM 2).toNat on)) 3 (jU (FM 3) (VM 2).toNat o)) FM' ∧ VM' = jU (jU VM 0 0) 2 (VM 2 + 1)) : VM' 0 = cdAddLine (VC 3) (VC 2) kd on ot ∧ (0 ≤ cdAddLine (VC 3) (VC 2) kd on ot ∧ cdAddLine (VC 3) (VC 2) kd on ot ≤ 4) ∧ (cdAddLine (VC 3) (VC 2) kd on ot = 0 → fo0 = v ∧ jR v) ∧ Inv FC' VC' FM' VM' := by
  have hok := okC_of h
  obtain ⟨v0, v1, v2, v3, v4⟩ := id h.2.1.1
  obtain ⟨m1, m2, m3, m4, m5, -⟩ := id h.1
  have he : cdAddLine (VC 3) (VC 2) kd on ot = cdAddLine (VM 1) (VM 2) kd on ot := by
    rw [v2, v3]
  refine op_fin h he (by unfold cdAddLine; omega) hc1 hm1 (fun q => ?_)
  obtain ⟨c1, c2, c3⟩ := hc2 q
  have q9 := hm2 (he ▸ q)
  have q2 := q
  unfold cdAddLine at q2
  obtain ⟨e4, o, e7, e5, rfl⟩ := q9
  subst c2 c3
  exact ⟨rfl, ⟨by omega, by omega, by omega⟩, Inv_cong (s_addLine h hkd q e7) ⟨fun _ _ _ _ => rfl, h.2.2⟩ e5 (fun _ _ => rfl)⟩
theorem op_addScenario {FC FC' : Nat → Nat → Int} {VC VC' : Nat → Int} {FM FM' : Nat → Nat → Int} {VM VM' : Nat → Int} {pr : Int} {fo0 v : Int} (h : Inv FC VC FM VM) (hc1 : cdAddScenario (VC 0) pr ≠ 0 → scr FC FC' ∧ VC' = VC) (hc2 : cdAddScenario (VC 0) pr = 0 → fo0 = VC 0 ∧ FC' = uF FC 2 (jU (FC 2) (VC 0).toNat pr) ∧ VC' = jU VC 0 (VC 0 + 1)) (hm1 : cdAddScenario (VM 3) pr ≠ 0 → mSc FM FM' ∧ VM' = jU VM 0 (cdAddScenario (VM 3) pr)) (hm2 : cdAddScenario (VM 3) pr = 0 → v = VM 3 ∧ mSc (uF FM 4 (jU (FM 4) (VM 3).toNat pr)) FM' ∧ VM' = jU (jU VM 0 0) 3 (VM 3 + 1)) : VM' 0 = cdAddScenario (VC 0) pr ∧ (0 ≤ cdAddScenario (VC 0) pr ∧ cdAddScenario (VC 0) pr ≤ 4) ∧ (cdAddScenario (VC 0) pr = 0 → fo0 = v ∧ jR v) ∧ Inv FC' VC' FM' VM' := by
  have hok := okC_of h
  obtain ⟨v0, v1, v2, v3, v4⟩ := id h.2.1.1
  obtain ⟨m1, m2, m3, m4, m5, -⟩ := id h.1
  have he : cdAddScenario (VC 0) pr = cdAddScenario (VM 3) pr := by
    rw [v0]
  refine op_fin h he (by unfold cdAddScenario; omega) hc1 hm1 (fun q => ?_)
  obtain ⟨c1, c2, c3⟩ := hc2 q
  have q9 := hm2 (he ▸ q)
  have q2 := q
  unfold cdAddScenario at q2
  obtain ⟨e4, e5, rfl⟩ := q9
  subst c2 c3
  exact ⟨rfl, ⟨by omega, by omega, by omega⟩, Inv_cong (s_addScenario h (by omega) (by omega)) ⟨fun _ _ _ _ => rfl, h.2.2⟩ e5 (fun _ _ => rfl)⟩
theorem op_differ {FC FC' : Nat → Nat → Int} {VC VC' : Nat → Int} {FM FM' : Nat → Nat → Int} {VM VM' : Nat → Int} {sc d t x : Int} {fo0 v : Int} (h : Inv FC VC FM VM) (hc1 : cdDiffer (VC 0) (VC 3) (VC 1) sc d t x ≠ 0 → scr FC FC' ∧ VC' = VC) (hc2 : cdDiffer (VC 0) (VC 3) (VC 1) sc d t x = 0 → fo0 = FC 3 sc.toNat + 1 ∧ FC' = uF (uF FC 3 (jU (FC 3) sc.toNat (FC 3 sc.toNat + 1))) 4 (adU (FC 4) (sc.toNat * 6 + d.toNat) t.toNat 12 x) ∧ VC' = jU VC 1 (VC 1 + 1)) (hm1 : cdDiffer (VM 3) (VM 1) (VM 4) sc d t x ≠ 0 → mSc FM FM' ∧ VM' = jU VM 0 (cdDiffer (VM 3) (VM 1) (VM 4) sc d t x)) (hm2 : cdDiffer (VM 3) (VM 1) (VM 4) sc d t x = 0 → v = cntTo (jU (FM 5) (VM 4).toNat sc) sc ((VM 4).toNat + 1) ∧ mSc (uF (uF (uF (uF FM 5 (jU (FM 5) (VM 4).toNat sc)) 6 (jU (FM 6) (VM 4).toNat d)) 7 (jU (FM 7) (VM 4).toNat t)) 8 (jU (FM 8) (VM 4).toNat x)) FM' ∧ VM' = jU (jU VM 0 0) 4 (VM 4 + 1)) : VM' 0 = cdDiffer (VC 0) (VC 3) (VC 1) sc d t x ∧ (0 ≤ cdDiffer (VC 0) (VC 3) (VC 1) sc d t x ∧ cdDiffer (VC 0) (VC 3) (VC 1) sc d t x ≤ 4) ∧ (cdDiffer (VC 0) (VC 3) (VC 1) sc d t x = 0 → fo0 = v ∧ jR v) ∧ Inv FC' VC' FM' VM' := by
  have hok := okC_of h
  obtain ⟨v0, v1, v2, v3, v4⟩ := id h.2.1.1
  obtain ⟨m1, m2, m3, m4, m5, -⟩ := id h.1
  have he : cdDiffer (VC 0) (VC 3) (VC 1) sc d t x = cdDiffer (VM 3) (VM 1) (VM 4) sc d t x := by
    rw [v0, v1, v3]
  refine op_fin h he (by unfold cdDiffer; omega) hc1 hm1 (fun q => ?_)
  obtain ⟨c1, c2, c3⟩ := hc2 q
  have q9 := hm2 (he ▸ q)
  have q2 := q
  unfold cdDiffer at q2
  obtain ⟨e4, e5, rfl⟩ := q9
  subst c2 c3
  obtain ⟨sN, rfl⟩ : ∃ k : Nat, sc = (k : Int) := ⟨sc.toNat, by omega⟩
  obtain ⟨dN, rfl⟩ : ∃ k : Nat, d = (k : Int) := ⟨d.toNat, by omega⟩
  obtain ⟨tN, rfl⟩ : ∃ k : Nat, t = (k : Int) := ⟨t.toNat, by omega⟩
  have hw := inv_own h sN
  have ho : FC 3 sN = cntTo (FM 5) sN (VM 4).toNat := h.2.1.2.2.2.1 sN
  have e9 : cntTo (jU (FM 5) (VM 4).toNat (sN : Int)) sN (VM 4).toNat = cntTo (FM 5) sN (VM 4).toNat := sumTo_congr fun k hk => by rw [jU_n (by omega)]
  rw [cntTo_s, jU_s, if_pos rfl, e9, ← ho] at e4
  refine ⟨rfl, ⟨by rw [e4]; exact c1, by rw [e4]; exact ⟨by omega, by omega⟩⟩, Inv_cong (s_differ h (s := sN) (d := dN) (t := tN) (x := x) (by omega) (by omega) (by omega) (by omega) (by omega) (by omega)) ⟨fun _ _ _ _ => rfl, h.2.2⟩ e5 (fun _ _ => rfl)⟩
theorem op_number {FC FC' : Nat → Nat → Int} {VC VC' : Nat → Int} {FM FM' : Nat → Nat → Int} {VM VM' : Nat → Int} {sc i t : Int} {fo0 v : Int} (h : Inv FC VC FM VM) (hc1 : cdNumber (VC 0) (VC 2) sc i t (enc (nmC FC sc.toNat t.toNat 6 i.toNat)) ≠ 0 → scr FC FC' ∧ VC' = VC) (hc2 : cdNumber (VC 0) (VC 2) sc i t (enc (nmC FC sc.toNat t.toNat 6 i.toNat)) = 0 → fo0 = (enc (nmC FC sc.toNat t.toNat 6 i.toNat)) ∧ scr FC FC' ∧ VC' = VC) (hm1 : cdNumber (VM 3) (VM 2) sc i t (enc (nmM FM VM sc.toNat t.toNat 6 i.toNat)) ≠ 0 → mSc FM FM' ∧ VM' = jU VM 0 (cdNumber (VM 3) (VM 2) sc i t (enc (nmM FM VM sc.toNat t.toNat 6 i.toNat)))) (hm2 : cdNumber (VM 3) (VM 2) sc i t (enc (nmM FM VM sc.toNat t.toNat 6 i.toNat)) = 0 → v = (enc (nmM FM VM sc.toNat t.toNat 6 i.toNat)) ∧ mSc FM FM' ∧ VM' = jU VM 0 0) : VM' 0 = cdNumber (VC 0) (VC 2) sc i t (enc (nmC FC sc.toNat t.toNat 6 i.toNat)) ∧ (0 ≤ cdNumber (VC 0) (VC 2) sc i t (enc (nmC FC sc.toNat t.toNat 6 i.toNat)) ∧ cdNumber (VC 0) (VC 2) sc i t (enc (nmC FC sc.toNat t.toNat 6 i.toNat)) ≤ 4) ∧ (cdNumber (VC 0) (VC 2) sc i t (enc (nmC FC sc.toNat t.toNat 6 i.toNat)) = 0 → fo0 = v ∧ jR v) ∧ Inv FC' VC' FM' VM' := by
  have hok := okC_of h
  obtain ⟨v0, v1, v2, v3, v4⟩ := id h.2.1.1
  obtain ⟨m1, m2, m3, m4, m5, -⟩ := id h.1
  have he : cdNumber (VC 0) (VC 2) sc i t (enc (nmC FC sc.toNat t.toNat 6 i.toNat)) = cdNumber (VM 3) (VM 2) sc i t (enc (nmM FM VM sc.toNat t.toNat 6 i.toNat)) := by
    unfold cdNumber
    rw [v0, v2]
    by_cases r : ¬ ((0 ≤ sc ∧ sc < VM 3) ∧ (0 ≤ i ∧ i < VM 2) ∧ (0 ≤ t ∧ t < 12))
    · rw [if_pos r, if_pos r]
    · have r2 := Decidable.not_not.mp r
      rw [if_neg r, if_neg r, nm_eq h (by omega) (by omega) (by omega)]
  refine op_fin h he (by unfold cdNumber; omega) hc1 hm1 (fun q => ?_)
  obtain ⟨c1, c2, c3⟩ := hc2 q
  have q9 := hm2 (he ▸ q)
  have q2 := q
  unfold cdNumber at q2
  obtain ⟨e4, e5, rfl⟩ := q9
  subst c3
  have hE := congrArg enc (nm_eq h (s := sc.toNat) (t := t.toNat) (cd := 6) (i := i.toNat) (by omega) (by omega) (by omega))
  have hJ := enc_jR (nmC_B hok (s := sc.toNat) (i := i.toNat) (m := t.toNat) (cd := 6) (by omega) (by omega) (by omega))
  exact ⟨rfl, ⟨by rw [c1, e4, hE], by rw [e4, ← hE]; exact hJ⟩, Inv_cong h c2 e5 (fun k hk => jU_n hk)⟩
theorem op_numberByHand {FC FC' : Nat → Nat → Int} {VC VC' : Nat → Int} {FM FM' : Nat → Nat → Int} {VM VM' : Nat → Int} {sc i t : Int} {fo0 v : Int} (h : Inv FC VC FM VM) (hc1 : cdNumber (VC 0) (VC 2) sc i t (enc (nmC FC sc.toNat t.toNat 6 i.toNat)) ≠ 0 → scr FC FC' ∧ VC' = VC) (hc2 : cdNumber (VC 0) (VC 2) sc i t (enc (nmC FC sc.toNat t.toNat 6 i.toNat)) = 0 → fo0 = (enc (nmC FC sc.toNat t.toNat 6 i.toNat)) ∧ scr FC FC' ∧ VC' = VC) (hm1 : cdNumber (VM 3) (VM 2) sc i t (enc (nmM FM VM sc.toNat t.toNat 6 i.toNat)) ≠ 0 → mSc FM FM' ∧ VM' = jU VM 0 (cdNumber (VM 3) (VM 2) sc i t (enc (nmM FM VM sc.toNat t.toNat 6 i.toNat)))) (hm2 : cdNumber (VM 3) (VM 2) sc i t (enc (nmM FM VM sc.toNat t.toNat 6 i.toNat)) = 0 → v = (enc (nmM FM VM sc.toNat t.toNat 6 i.toNat)) ∧ mSc FM FM' ∧ VM' = jU VM 0 0) : VM' 0 = cdNumber (VC 0) (VC 2) sc i t (enc (nmC FC sc.toNat t.toNat 6 i.toNat)) ∧ (0 ≤ cdNumber (VC 0) (VC 2) sc i t (enc (nmC FC sc.toNat t.toNat 6 i.toNat)) ∧ cdNumber (VC 0) (VC 2) sc i t (enc (nmC FC sc.toNat t.toNat 6 i.toNat)) ≤ 4) ∧ (cdNumber (VC 0) (VC 2) sc i t (enc (nmC FC sc.toNat t.toNat 6 i.toNat)) = 0 → fo0 = v ∧ jR v) ∧ Inv FC' VC' FM' VM' := by
  have hok := okC_of h
  obtain ⟨v0, v1, v2, v3, v4⟩ := id h.2.1.1
  obtain ⟨m1, m2, m3, m4, m5, -⟩ := id h.1
  have he : cdNumber (VC 0) (VC 2) sc i t (enc (nmC FC sc.toNat t.toNat 6 i.toNat)) = cdNumber (VM 3) (VM 2) sc i t (enc (nmM FM VM sc.toNat t.toNat 6 i.toNat)) := by
    unfold cdNumber
    rw [v0, v2]
    by_cases r : ¬ ((0 ≤ sc ∧ sc < VM 3) ∧ (0 ≤ i ∧ i < VM 2) ∧ (0 ≤ t ∧ t < 12))
    · rw [if_pos r, if_pos r]
    · have r2 := Decidable.not_not.mp r
      rw [if_neg r, if_neg r, nm_eq h (by omega) (by omega) (by omega)]
  refine op_fin h he (by unfold cdNumber; omega) hc1 hm1 (fun q => ?_)
  obtain ⟨c1, c2, c3⟩ := hc2 q
  have q9 := hm2 (he ▸ q)
  have q2 := q
  unfold cdNumber at q2
  obtain ⟨e4, e5, rfl⟩ := q9
  subst c3
  have hE := congrArg enc (nm_eq h (s := sc.toNat) (t := t.toNat) (cd := 6) (i := i.toNat) (by omega) (by omega) (by omega))
  have hJ := enc_jR (nmC_B hok (s := sc.toNat) (i := i.toNat) (m := t.toNat) (cd := 6) (by omega) (by omega) (by omega))
  exact ⟨rfl, ⟨by rw [c1, e4, hE], by rw [e4, ← hE]; exact hJ⟩, Inv_cong h c2 e5 (fun k hk => jU_n hk)⟩
theorem op_year {FC FC' : Nat → Nat → Int} {VC VC' : Nat → Int} {FM FM' : Nat → Nat → Int} {VM VM' : Nat → Int} {sc i : Int} {fo0 v : Int} (h : Inv FC VC FM VM) (hc1 : cdYear (VC 0) (VC 2) sc i (cntTo (yrX FC sc.toNat i.toNat) (-1000000000) 12) ≠ 0 → scr FC FC' ∧ VC' = VC) (hc2 : cdYear (VC 0) (VC 2) sc i (cntTo (yrX FC sc.toNat i.toNat) (-1000000000) 12) = 0 → fo0 = sumTo (yrX FC sc.toNat i.toNat) 12 ∧ scr FC FC' ∧ VC' = VC) (hm1 : cdYear (VM 3) (VM 2) sc i (cntTo (yrM FM VM sc.toNat i.toNat) (-1000000000) 12) ≠ 0 → mSc FM FM' ∧ VM' = jU VM 0 (cdYear (VM 3) (VM 2) sc i (cntTo (yrM FM VM sc.toNat i.toNat) (-1000000000) 12))) (hm2 : cdYear (VM 3) (VM 2) sc i (cntTo (yrM FM VM sc.toNat i.toNat) (-1000000000) 12) = 0 → v = sumTo (yrM FM VM sc.toNat i.toNat) 12 ∧ mSc FM FM' ∧ VM' = jU VM 0 0) : VM' 0 = cdYear (VC 0) (VC 2) sc i (cntTo (yrX FC sc.toNat i.toNat) (-1000000000) 12) ∧ (0 ≤ cdYear (VC 0) (VC 2) sc i (cntTo (yrX FC sc.toNat i.toNat) (-1000000000) 12) ∧ cdYear (VC 0) (VC 2) sc i (cntTo (yrX FC sc.toNat i.toNat) (-1000000000) 12) ≤ 4) ∧ (cdYear (VC 0) (VC 2) sc i (cntTo (yrX FC sc.toNat i.toNat) (-1000000000) 12) = 0 → fo0 = v ∧ jRL v) ∧ Inv FC' VC' FM' VM' := by
  have hok := okC_of h
  obtain ⟨v0, v1, v2, v3, v4⟩ := id h.2.1.1
  obtain ⟨m1, m2, m3, m4, m5, -⟩ := id h.1
  have he : cdYear (VC 0) (VC 2) sc i (cntTo (yrX FC sc.toNat i.toNat) (-1000000000) 12) = cdYear (VM 3) (VM 2) sc i (cntTo (yrM FM VM sc.toNat i.toNat) (-1000000000) 12) := by
    unfold cdYear
    rw [v0, v2]
    by_cases r : ¬ ((0 ≤ sc ∧ sc < VM 3) ∧ (0 ≤ i ∧ i < VM 2))
    · rw [if_pos r, if_pos r]
    · have r2 := Decidable.not_not.mp r
      rw [if_neg r, if_neg r, show cntTo (yrX FC sc.toNat i.toNat) (-1000000000) 12 = cntTo (yrM FM VM sc.toNat i.toNat) (-1000000000) 12 from sumTo_congr fun u hu => by rw [yr_eq h (by omega) (by omega) hu]]
  refine op_fin h he (by unfold cdYear; omega) hc1 hm1 (fun q => ?_)
  obtain ⟨c1, c2, c3⟩ := hc2 q
  have q9 := hm2 (he ▸ q)
  have q2 := q
  unfold cdYear at q2
  obtain ⟨e4, e5, rfl⟩ := q9
  subst c3
  have hE : sumTo (yrX FC sc.toNat i.toNat) 12 = sumTo (yrM FM VM sc.toNat i.toNat) 12 := sumTo_congr fun u hu => yr_eq h (by omega) (by omega) hu
  have hB := sumTo_bound (f := yrX FC sc.toNat i.toNat) (a := -1000000000) (b := 99999999) (n := 12) (fun u hu => enc_range (nmC_B hok (s := sc.toNat) (i := i.toNat) (m := u) (cd := 6) (by omega) (by omega) hu))
  exact ⟨rfl, ⟨by rw [c1, e4, hE], by rw [e4, ← hE]; exact ⟨by omega, by omega⟩⟩, Inv_cong h c2 e5 (fun k hk => jU_n hk)⟩
theorem op_effect {FC FC' : Nat → Nat → Int} {VC VC' : Nat → Int} {FM FM' : Nat → Nat → Int} {VM VM' : Nat → Int} {sc d i t : Int} {fo0 v : Int} (h : Inv FC VC FM VM) (hc1 : cdEffect (VC 0) (VC 3) (VC 2) sc d i t (enc (nmC FC sc.toNat t.toNat (d.toNat + 1) i.toNat)) (enc (nmC FC sc.toNat t.toNat d.toNat i.toNat)) ≠ 0 → scr FC FC' ∧ VC' = VC) (hc2 : cdEffect (VC 0) (VC 3) (VC 2) sc d i t (enc (nmC FC sc.toNat t.toNat (d.toNat + 1) i.toNat)) (enc (nmC FC sc.toNat t.toNat d.toNat i.toNat)) = 0 → fo0 = (enc (nmC FC sc.toNat t.toNat (d.toNat + 1) i.toNat)) - (enc (nmC FC sc.toNat t.toNat d.toNat i.toNat)) ∧ scr FC FC' ∧ VC' = VC) (hm1 : cdEffect (VM 3) (VM 1) (VM 2) sc d i t (enc (nmM FM VM sc.toNat t.toNat (d.toNat + 1) i.toNat)) (enc (nmM FM VM sc.toNat t.toNat d.toNat i.toNat)) ≠ 0 → mSc FM FM' ∧ VM' = jU VM 0 (cdEffect (VM 3) (VM 1) (VM 2) sc d i t (enc (nmM FM VM sc.toNat t.toNat (d.toNat + 1) i.toNat)) (enc (nmM FM VM sc.toNat t.toNat d.toNat i.toNat)))) (hm2 : cdEffect (VM 3) (VM 1) (VM 2) sc d i t (enc (nmM FM VM sc.toNat t.toNat (d.toNat + 1) i.toNat)) (enc (nmM FM VM sc.toNat t.toNat d.toNat i.toNat)) = 0 → v = (enc (nmM FM VM sc.toNat t.toNat (d.toNat + 1) i.toNat)) - (enc (nmM FM VM sc.toNat t.toNat d.toNat i.toNat)) ∧ mSc FM FM' ∧ VM' = jU VM 0 0) : VM' 0 = cdEffect (VC 0) (VC 3) (VC 2) sc d i t (enc (nmC FC sc.toNat t.toNat (d.toNat + 1) i.toNat)) (enc (nmC FC sc.toNat t.toNat d.toNat i.toNat)) ∧ (0 ≤ cdEffect (VC 0) (VC 3) (VC 2) sc d i t (enc (nmC FC sc.toNat t.toNat (d.toNat + 1) i.toNat)) (enc (nmC FC sc.toNat t.toNat d.toNat i.toNat)) ∧ cdEffect (VC 0) (VC 3) (VC 2) sc d i t (enc (nmC FC sc.toNat t.toNat (d.toNat + 1) i.toNat)) (enc (nmC FC sc.toNat t.toNat d.toNat i.toNat)) ≤ 4) ∧ (cdEffect (VC 0) (VC 3) (VC 2) sc d i t (enc (nmC FC sc.toNat t.toNat (d.toNat + 1) i.toNat)) (enc (nmC FC sc.toNat t.toNat d.toNat i.toNat)) = 0 → fo0 = v ∧ jR v) ∧ Inv FC' VC' FM' VM' := by
  have hok := okC_of h
  obtain ⟨v0, v1, v2, v3, v4⟩ := id h.2.1.1
  obtain ⟨m1, m2, m3, m4, m5, -⟩ := id h.1
  have he : cdEffect (VC 0) (VC 3) (VC 2) sc d i t (enc (nmC FC sc.toNat t.toNat (d.toNat + 1) i.toNat)) (enc (nmC FC sc.toNat t.toNat d.toNat i.toNat)) = cdEffect (VM 3) (VM 1) (VM 2) sc d i t (enc (nmM FM VM sc.toNat t.toNat (d.toNat + 1) i.toNat)) (enc (nmM FM VM sc.toNat t.toNat d.toNat i.toNat)) := by
    unfold cdEffect
    rw [v0, v2, v3]
    by_cases r : ¬ ((0 ≤ sc ∧ sc < VM 3) ∧ (0 ≤ d ∧ d < VM 1) ∧ (0 ≤ i ∧ i < VM 2) ∧ (0 ≤ t ∧ t < 12))
    · rw [if_pos r, if_pos r]
    · have r2 := Decidable.not_not.mp r
      rw [if_neg r, if_neg r, (nm_eq h (s := sc.toNat) (t := t.toNat) (cd := d.toNat + 1) (i := i.toNat) (by omega) (by omega) (by omega)), (nm_eq h (s := sc.toNat) (t := t.toNat) (cd := d.toNat) (i := i.toNat) (by omega) (by omega) (by omega))]
  refine op_fin h he (by unfold cdEffect; omega) hc1 hm1 (fun q => ?_)
  obtain ⟨c1, c2, c3⟩ := hc2 q
  have q9 := hm2 (he ▸ q)
  have q2 := q
  unfold cdEffect at q2
  obtain ⟨e4, e5, rfl⟩ := q9
  subst c3
  have hE := congrArg enc (nm_eq h (s := sc.toNat) (t := t.toNat) (cd := d.toNat + 1) (i := i.toNat) (by omega) (by omega) (by omega))
  have hE2 := congrArg enc (nm_eq h (s := sc.toNat) (t := t.toNat) (cd := d.toNat) (i := i.toNat) (by omega) (by omega) (by omega))
  have hB := enc_range (nmC_B hok (s := sc.toNat) (i := i.toNat) (m := t.toNat) (cd := d.toNat + 1) (by omega) (by omega) (by omega))
  have hB2 := enc_range (nmC_B hok (s := sc.toNat) (i := i.toNat) (m := t.toNat) (cd := d.toNat) (by omega) (by omega) (by omega))
  exact ⟨rfl, ⟨by rw [c1, e4, hE, hE2], by rw [e4, ← hE, ← hE2]; exact ⟨by omega, by omega⟩⟩, Inv_cong h c2 e5 (fun k hk => jU_n hk)⟩
theorem op_seek {FC FC' : Nat → Nat → Int} {VC VC' : Nat → Int} {FM FM' : Nat → Nat → Int} {VM VM' : Nat → Int} {d i t goal : Int} {fo0 v : Int} (h : Inv FC VC FM VM) (hc1 : cdSeek (VC 3) (VC 2) d i t (fstP (skP FC d.toNat t.toNat i.toNat goal) 1000) ≠ 0 → scr FC FC' ∧ VC' = VC) (hc2 : cdSeek (VC 3) (VC 2) d i t (fstP (skP FC d.toNat t.toNat i.toNat goal) 1000) = 0 → fo0 = (fstP (skP FC d.toNat t.toNat i.toNat goal) 1000) ∧ scr FC FC' ∧ VC' = VC) (hm1 : cdSeek (VM 1) (VM 2) d i t (fstP (skQ FM VM d.toNat t.toNat i.toNat goal) 1000) ≠ 0 → mSc FM FM' ∧ VM' = jU VM 0 (cdSeek (VM 1) (VM 2) d i t (fstP (skQ FM VM d.toNat t.toNat i.toNat goal) 1000))) (hm2 : cdSeek (VM 1) (VM 2) d i t (fstP (skQ FM VM d.toNat t.toNat i.toNat goal) 1000) = 0 → v = (fstP (skQ FM VM d.toNat t.toNat i.toNat goal) 1000) ∧ mSc FM FM' ∧ VM' = jU VM 0 0) : VM' 0 = cdSeek (VC 3) (VC 2) d i t (fstP (skP FC d.toNat t.toNat i.toNat goal) 1000) ∧ (0 ≤ cdSeek (VC 3) (VC 2) d i t (fstP (skP FC d.toNat t.toNat i.toNat goal) 1000) ∧ cdSeek (VC 3) (VC 2) d i t (fstP (skP FC d.toNat t.toNat i.toNat goal) 1000) ≤ 4) ∧ (cdSeek (VC 3) (VC 2) d i t (fstP (skP FC d.toNat t.toNat i.toNat goal) 1000) = 0 → fo0 = v ∧ jR v) ∧ Inv FC' VC' FM' VM' := by
  have hok := okC_of h
  obtain ⟨v0, v1, v2, v3, v4⟩ := id h.2.1.1
  obtain ⟨m1, m2, m3, m4, m5, -⟩ := id h.1
  have he : cdSeek (VC 3) (VC 2) d i t (fstP (skP FC d.toNat t.toNat i.toNat goal) 1000) = cdSeek (VM 1) (VM 2) d i t (fstP (skQ FM VM d.toNat t.toNat i.toNat goal) 1000) := by
    unfold cdSeek
    rw [v2, v3]
    by_cases r : ¬ ((0 ≤ d ∧ d < VM 1) ∧ (0 ≤ i ∧ i < VM 2) ∧ (0 ≤ t ∧ t < 12))
    · rw [if_pos r, if_pos r]
    · have r2 := Decidable.not_not.mp r
      rw [if_neg r, if_neg r, (skP_eq h (d := d.toNat) (t := t.toNat) (i := i.toNat) goal (by omega) (by omega) (by omega))]
  refine op_fin h he (by unfold cdSeek; omega) hc1 hm1 (fun q => ?_)
  obtain ⟨c1, c2, c3⟩ := hc2 q
  have q9 := hm2 (he ▸ q)
  have q2 := q
  unfold cdSeek at q2
  obtain ⟨e4, e5, rfl⟩ := q9
  subst c3
  have hE := (skP_eq h (d := d.toNat) (t := t.toNat) (i := i.toNat) goal (by omega) (by omega) (by omega))
  have hB := fstP_B (skP FC d.toNat t.toNat i.toNat goal) 1000
  exact ⟨rfl, ⟨by rw [c1, e4, hE], by rw [e4, ← hE]; exact ⟨by omega, by omega⟩⟩, Inv_cong h c2 e5 (fun k hk => jU_n hk)⟩
theorem op_actual {FC FC' : Nat → Nat → Int} {VC VC' : Nat → Int} {FM FM' : Nat → Nat → Int} {VM VM' : Nat → Int} {i t x : Int} {fo0 v : Int} (h : Inv FC VC FM VM) (hc1 : cdActual (VC 2) (VC 4) i t x ≠ 0 → scr FC FC' ∧ VC' = VC) (hc2 : cdActual (VC 2) (VC 4) i t x = 0 → fo0 = cntC (uF FC 8 (jU (FC 8) (i.toNat * 12 + t.toNat) x)) VC ∧ scS (uF FC 8 (jU (FC 8) (i.toNat * 12 + t.toNat) x)) FC' VC 12 ∧ VC' = VC) (hm1 : cdActual (VM 2) (VM 5) i t x ≠ 0 → mSc FM FM' ∧ VM' = jU VM 0 (cdActual (VM 2) (VM 5) i t x)) (hm2 : cdActual (VM 2) (VM 5) i t x = 0 → v = cntM (uF (uF FM 9 (jU (FM 9) (i.toNat * 12 + t.toNat) x)) 12 (jU (FM 12) (i.toNat * 12 + t.toNat) 1)) VM ∧ mSc (uF (uF (uF FM 9 (jU (FM 9) (i.toNat * 12 + t.toNat) x)) 12 (jU (FM 12) (i.toNat * 12 + t.toNat) 1)) 14 (stM (uF (uF FM 9 (jU (FM 9) (i.toNat * 12 + t.toNat) x)) 12 (jU (FM 12) (i.toNat * 12 + t.toNat) 1)) VM)) FM' ∧ VM' = jU VM 0 0) : VM' 0 = cdActual (VC 2) (VC 4) i t x ∧ (0 ≤ cdActual (VC 2) (VC 4) i t x ∧ cdActual (VC 2) (VC 4) i t x ≤ 4) ∧ (cdActual (VC 2) (VC 4) i t x = 0 → fo0 = v ∧ jR v) ∧ Inv FC' VC' FM' VM' := by
  have hok := okC_of h
  obtain ⟨v0, v1, v2, v3, v4⟩ := id h.2.1.1
  obtain ⟨m1, m2, m3, m4, m5, -⟩ := id h.1
  have he : cdActual (VC 2) (VC 4) i t x = cdActual (VM 2) (VM 5) i t x := by
    rw [v2, v4]
  refine op_fin h he (by unfold cdActual; omega) hc1 hm1 (fun q => ?_)
  obtain ⟨c1, c2, c3⟩ := hc2 q
  have q9 := hm2 (he ▸ q)
  have q2 := q
  unfold cdActual at q2
  obtain ⟨e4, e5, rfl⟩ := q9
  subst c3
  have h1 := s_act h (i.toNat * 12 + t.toNat) (z := x) (by omega)
  have hB := cntM_B (uF (uF FM 9 (jU (FM 9) (i.toNat * 12 + t.toNat) x)) 12 (jU (FM 12) (i.toNat * 12 + t.toNat) 1)) VM (VM 2).toNat
  rw [show sumTo (rowM (uF (uF FM 9 (jU (FM 9) (i.toNat * 12 + t.toNat) x)) 12 (jU (FM 12) (i.toNat * 12 + t.toNat) 1)) VM) (VM 2).toNat = cntM (uF (uF FM 9 (jU (FM 9) (i.toNat * 12 + t.toNat) x)) 12 (jU (FM 12) (i.toNat * 12 + t.toNat) 1)) VM from rfl] at hB
  exact ⟨rfl, ⟨by rw [c1, e4]; exact cnt_eq h1, by rw [e4]; exact ⟨by omega, by omega⟩⟩, s_look h1 c2 e5 (fun k hk => jU_n hk)⟩
theorem op_takeActual {FC FC' : Nat → Nat → Int} {VC VC' : Nat → Int} {FM FM' : Nat → Nat → Int} {VM VM' : Nat → Int} {i t : Int} {fo0 v : Int} (h : Inv FC VC FM VM) (hc1 : cdTake (VC 2) i t (FC 8 (i.toNat * 12 + t.toNat)) ≠ 0 → scr FC FC' ∧ VC' = VC) (hc2 : cdTake (VC 2) i t (FC 8 (i.toNat * 12 + t.toNat)) = 0 → fo0 = cntC (uF FC 8 (jU (FC 8) (i.toNat * 12 + t.toNat) (-1000000000))) VC ∧ scS (uF FC 8 (jU (FC 8) (i.toNat * 12 + t.toNat) (-1000000000))) FC' VC 12 ∧ VC' = VC) (hm1 : cdTake (VM 2) i t (acX FM (i.toNat * 12 + t.toNat)) ≠ 0 → mSc FM FM' ∧ VM' = jU VM 0 (cdTake (VM 2) i t (acX FM (i.toNat * 12 + t.toNat)))) (hm2 : cdTake (VM 2) i t (acX FM (i.toNat * 12 + t.toNat)) = 0 → v = cntM (uF FM 12 (jU (FM 12) (i.toNat * 12 + t.toNat) 0)) VM ∧ mSc (uF (uF FM 12 (jU (FM 12) (i.toNat * 12 + t.toNat) 0)) 14 (stM (uF FM 12 (jU (FM 12) (i.toNat * 12 + t.toNat) 0)) VM)) FM' ∧ VM' = jU VM 0 0) : VM' 0 = cdTake (VC 2) i t (FC 8 (i.toNat * 12 + t.toNat)) ∧ (0 ≤ cdTake (VC 2) i t (FC 8 (i.toNat * 12 + t.toNat)) ∧ cdTake (VC 2) i t (FC 8 (i.toNat * 12 + t.toNat)) ≤ 4) ∧ (cdTake (VC 2) i t (FC 8 (i.toNat * 12 + t.toNat)) = 0 → fo0 = v ∧ jR v) ∧ Inv FC' VC' FM' VM' := by
  have hok := okC_of h
  obtain ⟨v0, v1, v2, v3, v4⟩ := id h.2.1.1
  obtain ⟨m1, m2, m3, m4, m5, -⟩ := id h.1
  have he : cdTake (VC 2) i t (FC 8 (i.toNat * 12 + t.toNat)) = cdTake (VM 2) i t (acX FM (i.toNat * 12 + t.toNat)) := by
    unfold cdTake
    rw [v2]
    by_cases r : ¬ ((0 ≤ i ∧ i < VM 2) ∧ (0 ≤ t ∧ t < 12))
    · rw [if_pos r, if_pos r]
    · have r2 := Decidable.not_not.mp r
      rw [if_neg r, if_neg r, h.2.1.2.2.2.2.2.2.1 (i.toNat * 12 + t.toNat) (by omega)]
  refine op_fin h he (by unfold cdTake; omega) hc1 hm1 (fun q => ?_)
  obtain ⟨c1, c2, c3⟩ := hc2 q
  have q9 := hm2 (he ▸ q)
  have q2 := q
  unfold cdTake at q2
  obtain ⟨e4, e5, rfl⟩ := q9
  subst c3
  have h1 := s_tk h (i.toNat * 12 + t.toNat)
  have hB := cntM_B (uF FM 12 (jU (FM 12) (i.toNat * 12 + t.toNat) 0)) VM (VM 2).toNat
  rw [show sumTo (rowM (uF FM 12 (jU (FM 12) (i.toNat * 12 + t.toNat) 0)) VM) (VM 2).toNat = cntM (uF FM 12 (jU (FM 12) (i.toNat * 12 + t.toNat) 0)) VM from rfl] at hB
  exact ⟨rfl, ⟨by rw [c1, e4]; exact cnt_eq h1, by rw [e4]; exact ⟨by omega, by omega⟩⟩, s_look h1 c2 e5 (fun k hk => jU_n hk)⟩
theorem op_pass {FC FC' : Nat → Nat → Int} {VC VC' : Nat → Int} {FM FM' : Nat → Nat → Int} {VM VM' : Nat → Int} {fo0 v : Int} (h : Inv FC VC FM VM) (hc1 : cdPass (VC 4) ≠ 0 → scr FC FC' ∧ VC' = VC) (hc2 : cdPass (VC 4) = 0 → fo0 = VC 4 + 1 ∧ FC' = FC ∧ VC' = jU VC 4 (VC 4 + 1)) (hm1 : cdPass (VM 5) ≠ 0 → mSc FM FM' ∧ VM' = jU VM 0 (cdPass (VM 5))) (hm2 : cdPass (VM 5) = 0 → v = VM 5 + 1 ∧ mSc FM FM' ∧ VM' = jU (jU VM 0 0) 5 (VM 5 + 1)) : VM' 0 = cdPass (VC 4) ∧ (0 ≤ cdPass (VC 4) ∧ cdPass (VC 4) ≤ 4) ∧ (cdPass (VC 4) = 0 → fo0 = v ∧ jR v) ∧ Inv FC' VC' FM' VM' := by
  have hok := okC_of h
  obtain ⟨v0, v1, v2, v3, v4⟩ := id h.2.1.1
  obtain ⟨m1, m2, m3, m4, m5, -⟩ := id h.1
  have he : cdPass (VC 4) = cdPass (VM 5) := by
    rw [v4]
  refine op_fin h he (by unfold cdPass; omega) hc1 hm1 (fun q => ?_)
  obtain ⟨c1, c2, c3⟩ := hc2 q
  have q9 := hm2 (he ▸ q)
  have q2 := q
  unfold cdPass at q2
  obtain ⟨e4, e5, rfl⟩ := q9
  subst c2 c3
  exact ⟨rfl, ⟨by omega, by omega, by omega⟩, Inv_cong (s_pass h (by omega)) (scr_i h) e5 (fun _ _ => rfl)⟩
theorem op_approve {FC FC' : Nat → Nat → Int} {VC VC' : Nat → Int} {FM FM' : Nat → Nat → Int} {VM VM' : Nat → Int} {i t tol : Int} {fo0 v : Int} (h : Inv FC VC FM VM) (hc1 : cdApprove (VC 2) i t tol (enc (nmC FC 0 t.toNat 6 i.toNat)) ≠ 0 → scr FC FC' ∧ VC' = VC) (hc2 : cdApprove (VC 2) i t tol (enc (nmC FC 0 t.toNat 6 i.toNat)) = 0 → fo0 = (enc (nmC FC 0 t.toNat 6 i.toNat)) ∧ (∃ F1 : Nat → Nat → Int, scr FC F1 ∧ FC' = uF (uF (uF F1 11 (jU (F1 11) (i.toNat * 12 + t.toNat) 97)) 12 (jU (F1 12) (i.toNat * 12 + t.toNat) (enc (nmC FC 0 t.toNat 6 i.toNat)))) 13 (jU (F1 13) (i.toNat * 12 + t.toNat) tol)) ∧ VC' = VC) (hm1 : cdApprove (VM 2) i t tol (enc (nmM FM VM 0 t.toNat 6 i.toNat)) ≠ 0 → mSc FM FM' ∧ VM' = jU VM 0 (cdApprove (VM 2) i t tol (enc (nmM FM VM 0 t.toNat 6 i.toNat)))) (hm2 : cdApprove (VM 2) i t tol (enc (nmM FM VM 0 t.toNat 6 i.toNat)) = 0 → v = (enc (nmM FM VM 0 t.toNat 6 i.toNat)) ∧ mSc (uF (uF (uF FM 14 (jU (FM 14) (i.toNat * 12 + t.toNat) 97)) 10 (jU (FM 10) (i.toNat * 12 + t.toNat) (enc (nmM FM VM 0 t.toNat 6 i.toNat)))) 11 (jU (FM 11) (i.toNat * 12 + t.toNat) tol)) FM' ∧ VM' = jU VM 0 0) : VM' 0 = cdApprove (VC 2) i t tol (enc (nmC FC 0 t.toNat 6 i.toNat)) ∧ (0 ≤ cdApprove (VC 2) i t tol (enc (nmC FC 0 t.toNat 6 i.toNat)) ∧ cdApprove (VC 2) i t tol (enc (nmC FC 0 t.toNat 6 i.toNat)) ≤ 4) ∧ (cdApprove (VC 2) i t tol (enc (nmC FC 0 t.toNat 6 i.toNat)) = 0 → fo0 = v ∧ jR v) ∧ Inv FC' VC' FM' VM' := by
  have hok := okC_of h
  obtain ⟨v0, v1, v2, v3, v4⟩ := id h.2.1.1
  obtain ⟨m1, m2, m3, m4, m5, -⟩ := id h.1
  have he : cdApprove (VC 2) i t tol (enc (nmC FC 0 t.toNat 6 i.toNat)) = cdApprove (VM 2) i t tol (enc (nmM FM VM 0 t.toNat 6 i.toNat)) := by
    unfold cdApprove
    rw [v2]
    by_cases r : ¬ ((0 ≤ i ∧ i < VM 2) ∧ (0 ≤ t ∧ t < 12))
    · rw [if_pos r, if_pos r]
    · have r2 := Decidable.not_not.mp r
      rw [if_neg r, if_neg r, (nm_eq h (s := 0) (t := t.toNat) (cd := 6) (i := i.toNat) (by omega) (by omega) (by omega))]
  refine op_fin h he (by unfold cdApprove; omega) hc1 hm1 (fun q => ?_)
  obtain ⟨c1, c2, c3⟩ := hc2 q
  have q9 := hm2 (he ▸ q)
  have q2 := q
  unfold cdApprove at q2
  obtain ⟨e4, e5, rfl⟩ := q9
  obtain ⟨F1, hF1, rfl⟩ := c2
  subst c3
  have hE := congrArg enc (nm_eq h (s := 0) (t := t.toNat) (cd := 6) (i := i.toNat) (by omega) (by omega) (by omega))
  have hB := enc_or (nmC_B hok (s := 0) (i := i.toNat) (m := t.toNat) (cd := 6) (by omega) (by omega) (by omega))
  have h1 := Inv_cong h hF1 (mSc_rf FM) (fun _ _ => rfl : ∀ k : Nat, k ≠ 0 → VM k = VM k)
  exact ⟨rfl, ⟨by rw [c1, e4, hE], by rw [e4, ← hE]; exact ⟨by omega, by omega⟩⟩, Inv_cong (s_approve h1 (c := (i.toNat * 12 + t.toNat)) (tol := tol) (by omega) (y := (enc (nmM FM VM 0 t.toNat 6 i.toNat))) (by rw [← hE]; omega) hE (by omega)) ⟨fun _ _ _ _ => rfl, h1.2.2⟩ e5 (fun k hk => jU_n hk)⟩
theorem op_state {FC FC' : Nat → Nat → Int} {VC VC' : Nat → Int} {FM FM' : Nat → Nat → Int} {VM VM' : Nat → Int} {i t : Int} {fo0 v : Int} (h : Inv FC VC FM VM) (hc1 : cdState (VC 2) i t ≠ 0 → scr FC FC' ∧ VC' = VC) (hc2 : cdState (VC 2) i t = 0 → fo0 = FC 11 (i.toNat * 12 + t.toNat) ∧ FC' = FC ∧ VC' = VC) (hm1 : cdState (VM 2) i t ≠ 0 → mSc FM FM' ∧ VM' = jU VM 0 (cdState (VM 2) i t)) (hm2 : cdState (VM 2) i t = 0 → v = FM 14 (i.toNat * 12 + t.toNat) ∧ mSc FM FM' ∧ VM' = jU VM 0 0) : VM' 0 = cdState (VC 2) i t ∧ (0 ≤ cdState (VC 2) i t ∧ cdState (VC 2) i t ≤ 4) ∧ (cdState (VC 2) i t = 0 → fo0 = v ∧ jR v) ∧ Inv FC' VC' FM' VM' := by
  have hok := okC_of h
  obtain ⟨v0, v1, v2, v3, v4⟩ := id h.2.1.1
  obtain ⟨m1, m2, m3, m4, m5, -⟩ := id h.1
  have he : cdState (VC 2) i t = cdState (VM 2) i t := by
    rw [v2]
  refine op_fin h he (by unfold cdState; omega) hc1 hm1 (fun q => ?_)
  obtain ⟨c1, c2, c3⟩ := hc2 q
  have q9 := hm2 (he ▸ q)
  have q2 := q
  unfold cdState at q2
  obtain ⟨e4, e5, rfl⟩ := q9
  subst c2 c3
  have hE := congrFun h.2.1.2.2.2.2.2.2.2.1 (i.toNat * 12 + t.toNat)
  have hB := (hok.2.2.2.2.2.2.2.2.2.2.2 (i.toNat * 12 + t.toNat) (by omega)).1
  exact ⟨rfl, ⟨by omega, by omega, by omega⟩, Inv_cong h (scr_i h) e5 (fun k hk => jU_n hk)⟩
theorem op_drift {FC FC' : Nat → Nat → Int} {VC VC' : Nat → Int} {FM FM' : Nat → Nat → Int} {VM VM' : Nat → Int} {i t : Int} {fo0 v : Int} (h : Inv FC VC FM VM) (hc1 : cdDrift (VC 2) i t (FC 11 (i.toNat * 12 + t.toNat)) (enc (nmC FC 0 t.toNat 6 i.toNat)) ≠ 0 → scr FC FC' ∧ VC' = VC) (hc2 : cdDrift (VC 2) i t (FC 11 (i.toNat * 12 + t.toNat)) (enc (nmC FC 0 t.toNat 6 i.toNat)) = 0 → fo0 = (enc (nmC FC 0 t.toNat 6 i.toNat)) - FC 12 (i.toNat * 12 + t.toNat) ∧ scr FC FC' ∧ VC' = VC) (hm1 : cdDrift (VM 2) i t (FM 14 (i.toNat * 12 + t.toNat)) (enc (nmM FM VM 0 t.toNat 6 i.toNat)) ≠ 0 → mSc FM FM' ∧ VM' = jU VM 0 (cdDrift (VM 2) i t (FM 14 (i.toNat * 12 + t.toNat)) (enc (nmM FM VM 0 t.toNat 6 i.toNat)))) (hm2 : cdDrift (VM 2) i t (FM 14 (i.toNat * 12 + t.toNat)) (enc (nmM FM VM 0 t.toNat 6 i.toNat)) = 0 → v = (enc (nmM FM VM 0 t.toNat 6 i.toNat)) - FM 10 (i.toNat * 12 + t.toNat) ∧ mSc FM FM' ∧ VM' = jU VM 0 0) : VM' 0 = cdDrift (VC 2) i t (FC 11 (i.toNat * 12 + t.toNat)) (enc (nmC FC 0 t.toNat 6 i.toNat)) ∧ (0 ≤ cdDrift (VC 2) i t (FC 11 (i.toNat * 12 + t.toNat)) (enc (nmC FC 0 t.toNat 6 i.toNat)) ∧ cdDrift (VC 2) i t (FC 11 (i.toNat * 12 + t.toNat)) (enc (nmC FC 0 t.toNat 6 i.toNat)) ≤ 4) ∧ (cdDrift (VC 2) i t (FC 11 (i.toNat * 12 + t.toNat)) (enc (nmC FC 0 t.toNat 6 i.toNat)) = 0 → fo0 = v ∧ jR v) ∧ Inv FC' VC' FM' VM' := by
  have hok := okC_of h
  obtain ⟨v0, v1, v2, v3, v4⟩ := id h.2.1.1
  obtain ⟨m1, m2, m3, m4, m5, -⟩ := id h.1
  have he : cdDrift (VC 2) i t (FC 11 (i.toNat * 12 + t.toNat)) (enc (nmC FC 0 t.toNat 6 i.toNat)) = cdDrift (VM 2) i t (FM 14 (i.toNat * 12 + t.toNat)) (enc (nmM FM VM 0 t.toNat 6 i.toNat)) := by
    unfold cdDrift
    rw [v2, h.2.1.2.2.2.2.2.2.2.1]
    by_cases r : ¬ ((0 ≤ i ∧ i < VM 2) ∧ (0 ≤ t ∧ t < 12))
    · rw [if_pos r, if_pos r]
    · have r2 := Decidable.not_not.mp r
      rw [if_neg r, if_neg r, (nm_eq h (s := 0) (t := t.toNat) (cd := 6) (i := i.toNat) (by omega) (by omega) (by omega))]
  refine op_fin h he (by unfold cdDrift; omega) hc1 hm1 (fun q => ?_)
  obtain ⟨c1, c2, c3⟩ := hc2 q
  have q9 := hm2 (he ▸ q)
  have q2 := q
  unfold cdDrift at q2
  obtain ⟨e4, e5, rfl⟩ := q9
  subst c3
  have hE := congrArg enc (nm_eq h (s := 0) (t := t.toNat) (cd := 6) (i := i.toNat) (by omega) (by omega) (by omega))
  have hE2 := congrFun h.2.1.2.2.2.2.2.2.2.2.1 (i.toNat * 12 + t.toNat)
  have hB := enc_range (nmC_B hok (s := 0) (i := i.toNat) (m := t.toNat) (cd := 6) (by omega) (by omega) (by omega))
  have hB2 := (hok.2.2.2.2.2.2.2.2.2.2.2 (i.toNat * 12 + t.toNat) (by omega)).2.1
  exact ⟨rfl, ⟨by omega, by omega, by omega⟩, Inv_cong h c2 e5 (fun k hk => jU_n hk)⟩
theorem op_approvedShare {FC FC' : Nat → Nat → Int} {VC VC' : Nat → Int} {FM FM' : Nat → Nat → Int} {VM VM' : Nat → Int} {fo0 : UInt64} {v : UInt32} (h : Inv FC VC FM VM) (hc1 : cdShare (cntTo (FC 11) 97 120 + cntTo (FC 11) 111 120) ≠ 0 → scr FC FC' ∧ VC' = VC) (hc2 : cdShare (cntTo (FC 11) 97 120 + cntTo (FC 11) 111 120) = 0 → fo0 = FP.f2d (FP.fdiv (FP.i2f (iI (cntTo (FC 11) 97 120))) (FP.i2f (iI (cntTo (FC 11) 97 120 + cntTo (FC 11) 111 120)))) ∧ FC' = FC ∧ VC' = VC) (hm : cdShare (cntTo (FM 14) 97 120 + cntTo (FM 14) 111 120) = 0 → v = (FP.fdiv (FP.i2f (iI (cntTo (FM 14) 97 120))) (FP.i2f (iI (cntTo (FM 14) 97 120 + cntTo (FM 14) 111 120))))) : (jU VM 0 (cdShare (cntTo (FM 14) 97 120 + cntTo (FM 14) 111 120))) 0 = cdShare (cntTo (FC 11) 97 120 + cntTo (FC 11) 111 120) ∧ (0 ≤ cdShare (cntTo (FC 11) 97 120 + cntTo (FC 11) 111 120) ∧ cdShare (cntTo (FC 11) 97 120 + cntTo (FC 11) 111 120) ≤ 4) ∧ (cdShare (cntTo (FC 11) 97 120 + cntTo (FC 11) 111 120) = 0 → fo0 = FP.f2d v ∧ FP.Core.dIsNaN fo0 = false) ∧ Inv FC' VC' FM (jU VM 0 (cdShare (cntTo (FM 14) 97 120 + cntTo (FM 14) 111 120))) := by
  have he : cdShare (cntTo (FC 11) 97 120 + cntTo (FC 11) 111 120) = cdShare (cntTo (FM 14) 97 120 + cntTo (FM 14) 111 120) := by rw [h.2.1.2.2.2.2.2.2.2.1]
  refine op_fin h he (by unfold cdShare; omega) hc1 (fun _ => ⟨mSc_rf FM, rfl⟩) (fun q => ?_)
  obtain ⟨rfl, rfl, rfl⟩ := hc2 q
  have e4 := hm (he ▸ q)
  have q2 := q
  unfold cdShare at q2
  have hb1 := cntTo_bound (FC' 11) 97 120
  have hb2 := cntTo_bound (FC' 11) 111 120
  have hne : (cntTo (FC' 11) 97 120 + cntTo (FC' 11) 111 120) ≠ 0 := by omega
  have hnan := (fdiv_ok (a := cntTo (FC' 11) 97 120) ⟨by omega, by omega⟩ hne)
  have hE : v = (FP.fdiv (FP.i2f (iI (cntTo (FC' 11) 97 120))) (FP.i2f (iI (cntTo (FC' 11) 97 120 + cntTo (FC' 11) 111 120)))) := by rw [e4, h.2.1.2.2.2.2.2.2.2.1]
  exact ⟨(jU_s _ _ _).trans (he ▸ q), ⟨by rw [hE], (FP.f2d_nan _).trans hnan⟩, Inv_cong h (scr_i h) (mSc_rf FM) (fun k hk => jU_n hk)⟩
theorem op_meanTolerance {FC FC' : Nat → Nat → Int} {VC VC' : Nat → Int} {FM FM' : Nat → Nat → Int} {VM VM' : Nat → Int} {fo0 : UInt64} {v : UInt64} (h : Inv FC VC FM VM) (hc1 : cdShare (cntTo (FC 11) 97 120 + cntTo (FC 11) 111 120) ≠ 0 → scr FC FC' ∧ VC' = VC) (hc2 : cdShare (cntTo (FC 11) 97 120 + cntTo (FC 11) 111 120) = 0 → fo0 = (FP.ddiv (FP.i2d (iI (sumTo (FC 13) 120))) (FP.i2d (iI (cntTo (FC 11) 97 120 + cntTo (FC 11) 111 120)))) ∧ FC' = FC ∧ VC' = VC) (hm : cdShare (cntTo (FM 14) 97 120 + cntTo (FM 14) 111 120) = 0 → v = (FP.ddiv (FP.i2d (iI (sumTo (tolM FM) 120))) (FP.i2d (iI (cntTo (FM 14) 97 120 + cntTo (FM 14) 111 120))))) : (jU VM 0 (cdShare (cntTo (FM 14) 97 120 + cntTo (FM 14) 111 120))) 0 = cdShare (cntTo (FC 11) 97 120 + cntTo (FC 11) 111 120) ∧ (0 ≤ cdShare (cntTo (FC 11) 97 120 + cntTo (FC 11) 111 120) ∧ cdShare (cntTo (FC 11) 97 120 + cntTo (FC 11) 111 120) ≤ 4) ∧ (cdShare (cntTo (FC 11) 97 120 + cntTo (FC 11) 111 120) = 0 → fo0 = v ∧ FP.Core.dIsNaN fo0 = false) ∧ Inv FC' VC' FM (jU VM 0 (cdShare (cntTo (FM 14) 97 120 + cntTo (FM 14) 111 120))) := by
  have he : cdShare (cntTo (FC 11) 97 120 + cntTo (FC 11) 111 120) = cdShare (cntTo (FM 14) 97 120 + cntTo (FM 14) 111 120) := by rw [h.2.1.2.2.2.2.2.2.2.1]
  refine op_fin h he (by unfold cdShare; omega) hc1 (fun _ => ⟨mSc_rf FM, rfl⟩) (fun q => ?_)
  obtain ⟨rfl, rfl, rfl⟩ := hc2 q
  have e4 := hm (he ▸ q)
  have q2 := q
  unfold cdShare at q2
  have hb1 := cntTo_bound (FC' 11) 97 120
  have hb2 := cntTo_bound (FC' 11) 111 120
  have hne : (cntTo (FC' 11) 97 120 + cntTo (FC' 11) 111 120) ≠ 0 := by omega
  have hnan := (ddiv_ok (a := sumTo (FC' 13) 120) ⟨by omega, by omega⟩ hne)
  have hE : v = (FP.ddiv (FP.i2d (iI (sumTo (FC' 13) 120))) (FP.i2d (iI (cntTo (FC' 11) 97 120 + cntTo (FC' 11) 111 120)))) := by rw [e4, h.2.1.2.2.2.2.2.2.2.1, tol_eq h]
  exact ⟨(jU_s _ _ _).trans (he ▸ q), ⟨by rw [hE], hnan⟩, Inv_cong h (scr_i h) (mSc_rf FM) (fun k hk => jU_n hk)⟩
