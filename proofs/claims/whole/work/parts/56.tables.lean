/-! WHAT THE TABLES GIVE -/
theorem arrK {args : Array Value} {s : State} {ty : FieldType} (h : (Cond.arrayClass ty).before args s = true) : ∃ cA : ClassId, ArrOfT s cA ty ∧ s.vm.findClass ("[" ++ ty.toString) = some cA := by
  obtain ⟨cA, kA, comp, hf, hk, hkd⟩ := Cond.arrayClass_spec h
  exact ⟨cA, fun n z => ⟨fun k h => (by cases h), kA, hk, comp, hkd⟩, hf⟩
set_option maxRecDepth 20000 in
theorem nest_in : ∀ q ∈ nestT, nestC q ∈ lw_tbl := by decide +kernel
set_option maxRecDepth 20000 in
theorem xBad_in : ∀ w ∈ xBad, w ∈ lw_tbl := by decide +kernel
set_option maxRecDepth 20000 in
theorem xT_in : ∀ q ∈ xT, Cond.stringRef RX3 q.1 q.2 ∈ lw_tbl := by decide +kernel
set_option maxRecDepth 20000 in
theorem law_K {args : Array Value} {s : State} (hts : ∀ w ∈ lw_tbl, w.before args s = true) : ∃ (g : va_G) (k : kT), gK g k s := by
  obtain ⟨c0, i0, h0⟩ := u_known (C := RX0) (T := TX0) (N := 2) (n := 2) hts inX0 (hts (.instantiable RX0 2) (by decide +kernel))
  obtain ⟨c1, i1, h1⟩ := u_known (C := RX1) (T := TX1) (N := 18) (n := 18) hts inX1 (hts (.instantiable RX1 18) (by decide +kernel))
  obtain ⟨c2, i2, h2⟩ := u_known (C := RX2) (T := TX2) (N := 16) (n := 16) hts inX2 (hts (.instantiable RX2 16) (by decide +kernel))
  obtain ⟨c3, i3, h3⟩ := u_known (C := RX3) (T := TX3) (N := 4) (n := 4) hts inX3 (hts (.instantiable RX3 4) (by decide +kernel))
  obtain ⟨c4, i4, h4⟩ := u_known (C := RX4) (T := TX4) (N := 28) (n := 28) hts inX4 (hts (.instantiable RX4 28) (by decide +kernel))
  obtain ⟨k1, a1, b1⟩ := arrK (hts (.arrayClass .int) (by decide +kernel))
  obtain ⟨k2, a2, b2⟩ := arrK (hts (.arrayClass .long) (by decide +kernel))
  obtain ⟨k3, a3, b3⟩ := arrK (hts (.arrayClass .double) (by decide +kernel))
  refine ⟨(fun j => match j with | 0 => c0 | 1 => c1 | 2 => c2 | 3 => c3 | _ => c4, fun j => match j with | 0 => i0 | 1 => i1 | 2 => i2 | 3 => i3 | _ => i4), (k1, k2, k3), ⟨fun j q hq => ?_, fun j q hq => ?_⟩, fun q hq => va_Nw.of (w := nestC q) rfl (hts _ (nest_in q hq))⟩
  · match j, hq with
    | 0, hq => cases hq; exact h0
    | 1, hq => cases hq; exact h1
    | 2, hq => cases hq; exact h2
    | 3, hq => cases hq; exact h3
    | 4, hq => cases hq; exact h4
    | j + 5, hq => simp [vwCl] at hq
  · match j, hq with
    | 0, hq => cases hq; exact ⟨a1, b1⟩
    | 1, hq => cases hq; exact ⟨a2, b2⟩
    | 2, hq => cases hq; exact ⟨a3, b3⟩
    | j + 3, hq => simp at hq
theorem law_E {args : Array Value} {s : State} (hts : ∀ w ∈ lw_tbl, w.before args s = true) : gE s := by
  refine ⟨fun w hw => ?_, fun q hq => ?_⟩
  · have h2 := xBad_k w hw
    exact va_Nw.of (by cases w <;> first | rfl | cases h2) (hts w (xBad_in w hw))
  · obtain ⟨c3, i3, h3⟩ := u_known (C := RX3) (T := TX3) (N := 4) (n := 4) hts inX3 (hts (.instantiable RX3 4) (by decide +kernel))
    have h := hts _ (xT_in q hq)
    obtain ⟨k, cf, i, a, hk, hcf, hcp, -, hr, hev⟩ := Cond.stringRef_spec h3.2.1 h
    exact ⟨a, vk_R.of h hev⟩
theorem law_G {args : Array Value} {s : State} (hts : ∀ w ∈ lw_tbl, w.before args s = true) (hgv : (Jvm.Cond.and given_1 narrow_1).before args s = true) : lG s :=
  ⟨va_Nw.of rfl (hts _ (by decide +kernel)), va_Nw.of rfl (hts _ (by decide +kernel)), va_Nc.of (flat_of_before _ hgv _ (by decide +kernel))⟩
theorem law_H {args : Array Value} {s : State} (hts : ∀ w ∈ lw_tbl, w.before args s = true) (hgv : (Jvm.Cond.and given_1 narrow_1).before args s = true) : gH (fun q : Nat => s.heap.size ≤ q) s s.heap :=
  ⟨vx_Zqof (hts (.laysStatic Bundle.tN "UNASSIGNED_STACK" Bundle.steD) (by decide +kernel)) (hts (.initialized Bundle.tN) (by decide +kernel)) (flat_of_before _ hgv _ (by decide +kernel)) (fun a h => Nat.not_le.mpr h), vx_Zqof (hts (.laysStatic Bundle.tN "SUPPRESSED_SENTINEL" Bundle.listD) (by decide +kernel)) (hts (.initialized Bundle.tN) (by decide +kernel)) (flat_of_before _ hgv _ (by decide +kernel)) (fun a h => Nat.not_le.mpr h)⟩
