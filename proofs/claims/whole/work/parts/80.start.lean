/-! THE CLAIM OUT OF ONE WALK OF THE LAW'S BODY: what the start gives -/
theorem st_nm : ∀ q ∈ jNM, Cond.methodLinkNest q.1 q.2.1 q.2.2 RX3 ∈ lw_tbl := by decide +kernel
theorem st_nf : ∀ q ∈ jNF, Cond.fieldLinkNest RX3 q.1 q.2.1 q.2.2.1 q.2.2.2 RX3 ∈ lw_tbl := by decide +kernel
theorem st_ex : ∀ E ∈ jEX, Cond.castable E E ∈ lw_tbl := by decide +kernel
theorem st_dc : ∀ x ∈ jDC, Cond.declares x ∈ lw_tbl := by decide +kernel
theorem st_nc : ∀ E ∈ jEX, ∀ nm ∈ jEX, E ≠ nm → Cond.not (.castable E nm) ∈ flatC (Jvm.Cond.and given_1 narrow_1) := by decide +kernel
theorem st_z1 : Cond.isRef (.static Bundle.tN "UNASSIGNED_STACK" Bundle.steD) ∈ flatC (Jvm.Cond.and given_1 narrow_1) := by decide +kernel
theorem st_z2 : Cond.isRef (.static Bundle.tN "SUPPRESSED_SENTINEL" Bundle.listD) ∈ flatC (Jvm.Cond.and given_1 narrow_1) := by decide +kernel
theorem st_l1 : Cond.laysStatic Bundle.tN "UNASSIGNED_STACK" Bundle.steD ∈ lw_tbl := by decide +kernel
theorem st_l2 : Cond.laysStatic Bundle.tN "SUPPRESSED_SENTINEL" Bundle.listD ∈ lw_tbl := by decide +kernel
theorem st_l3 : Cond.initialized Bundle.tN ∈ lw_tbl := by decide +kernel
theorem st_a0 : Cond.arrayClass .char ∈ lw_tbl := by decide +kernel
theorem st_a1 : Cond.arrayClass .int ∈ lw_tbl := by decide +kernel
theorem st_a2 : Cond.arrayClass .long ∈ lw_tbl := by decide +kernel
theorem st_a3 : Cond.arrayClass .boolean ∈ lw_tbl := by decide +kernel
theorem st_a4 : Cond.arrayClass .double ∈ lw_tbl := by decide +kernel
theorem st_i0 : Cond.instantiable RJ0 4 ∈ lw_tbl := by decide +kernel
theorem st_i1 : Cond.instantiable RJx00060 6 ∈ lw_tbl := by decide +kernel
theorem st_i2 : Cond.instantiable RX0 3 ∈ lw_tbl := by decide +kernel
theorem st_i3 : Cond.instantiable RX1 7 ∈ lw_tbl := by decide +kernel
theorem st_i4 : Cond.instantiable RX2 5 ∈ lw_tbl := by decide +kernel
theorem st_i5 : Cond.instantiable RX3 7 ∈ lw_tbl := by decide +kernel
theorem st_i6 : Cond.instantiable RX4 22 ∈ lw_tbl := by decide +kernel
theorem st_arr {args : Array Value} {s : State} {ty : FieldType} (h : (Cond.arrayClass ty).before args s = true) (hno : ∀ (U : State) (cA : ClassId), U.vm.findClass ("[" ++ ty.toString) = some cA → va_RA U cA ty) : ∃ cA : ClassId, ArrOfT s cA ty ∧ va_RA s cA ty := by
  obtain ⟨cA, kA, comp, h1, h2, h3⟩ := Cond.arrayClass_spec h
  exact ⟨cA, fun n z => ⟨fun k h => (by cases h), kA, h2, comp, h3⟩, hno s cA h1⟩
theorem st_K {args : Array Value} {s : State} (hts : ∀ w ∈ lw_tbl, w.before args s = true) : ∃ G : jG, va_K G.1 vwCl (jty G) s := by
  obtain ⟨c0, i0, k0⟩ := u_known (C := RJ0) (T := TJ0) (N := 2) hts inJ0 (hts _ st_i0)
  obtain ⟨c1, i1, k1⟩ := u_known (C := RJx00060) (T := TJx00060) (N := 6) hts inJx00060 (hts _ st_i1)
  obtain ⟨c2, i2, k2⟩ := u_known (C := RX0) (T := TX0) (N := 3) hts inX0 (hts _ st_i2)
  obtain ⟨c3, i3, k3⟩ := u_known (C := RX1) (T := TX1) (N := 7) hts inX1 (hts _ st_i3)
  obtain ⟨c4, i4, k4⟩ := u_known (C := RX2) (T := TX2) (N := 5) hts inX2 (hts _ st_i4)
  obtain ⟨c5, i5, k5⟩ := u_known (C := RX3) (T := TX3) (N := 7) hts inX3 (hts _ st_i5)
  obtain ⟨c6, i6, k6⟩ := u_known (C := RX4) (T := TX4) (N := 22) hts inX4 (hts _ st_i6)
  obtain ⟨a0, p0⟩ := st_arr (hts _ st_a0) (fun _ _ q => q)
  obtain ⟨a1, p1⟩ := st_arr (hts _ st_a1) (fun _ _ q => q)
  obtain ⟨a2, p2⟩ := st_arr (hts _ st_a2) (fun _ _ q => q)
  obtain ⟨a3, p3⟩ := st_arr (hts _ st_a3) (fun _ _ q => q)
  obtain ⟨a4, p4⟩ := st_arr (hts _ st_a4) (fun _ _ q => q)
  refine ⟨((fun k => match k with | 0 => c0 | 1 => c1 | 2 => c2 | 3 => c3 | 4 => c4 | 5 => c5 | _ => c6, fun k => match k with | 0 => i0 | 1 => i1 | 2 => i2 | 3 => i3 | 4 => i4 | 5 => i5 | _ => i6), fun k => match k with | 0 => a0 | 1 => a1 | 2 => a2 | 3 => a3 | _ => a4), ?_, ?_⟩
  · intro k q hq
    match k, hq with
    | 0, hq => cases hq; exact k0
    | 1, hq => cases hq; exact k1
    | 2, hq => cases hq; exact k2
    | 3, hq => cases hq; exact k3
    | 4, hq => cases hq; exact k4
    | 5, hq => cases hq; exact k5
    | 6, hq => cases hq; exact k6
    | k + 7, hq => cases hq
  · intro k q hq
    match k, hq with
    | 0, hq => cases hq; exact p0
    | 1, hq => cases hq; exact p1
    | 2, hq => cases hq; exact p2
    | 3, hq => cases hq; exact p3
    | 4, hq => cases hq; exact p4
    | k + 5, hq => cases hq
theorem st_N {args : Array Value} {s : State} {A : Nat → Prop} (hts : ∀ w ∈ lw_tbl, w.before args s = true) (hgv : (Jvm.Cond.and given_1 narrow_1).before args s = true) (hA : ∀ a : Nat, a < s.heap.size → ¬ A a) : jN A s := by
  have hs := flat_of_before _ hgv
  exact ⟨fun q hq => va_Nw.of rfl (hts _ (st_nm q hq)), fun q hq => va_Nw.of rfl (hts _ (st_nf q hq)), ⟨fun E hE => va_Nw.of rfl (hts _ (st_ex E hE)), fun x hx => va_Nw.of rfl (hts _ (st_dc x hx))⟩,
    vx_Zqof (hts _ st_l1) (hts _ st_l3) (hs _ st_z1) hA, vx_Zqof (hts _ st_l2) (hts _ st_l3) (hs _ st_z2) hA⟩
theorem st_C {args : Array Value} {s : State} (hgv : (Jvm.Cond.and given_1 narrow_1).before args s = true) : ∀ E ∈ jEX, ∀ nm ∈ jEX, E ≠ nm → va_Nc E nm s :=
  fun E hE nm hn hne => va_Nc.of (flat_of_before _ hgv _ (st_nc E hE nm hn hne))
