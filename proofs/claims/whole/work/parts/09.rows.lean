/-! MORE ROWS: new arrays, copies -/
theorem arr_one {g : va_G} {cl : List vw_C} {t1 t2 : List (ClassId × FieldType)} {s : State} {c1 c2 : ClassId} {i j : Nat} {ty : FieldType} (h1 : va_K g cl t1 s) (h2 : va_K g cl t2 s) (hi : t1[i]? = some (c1, ty)) (hj : t2[j]? = some (c2, ty)) (ht : ∀ C, ty ≠ .object C) : c1 = c2 := by
  have a := (h1.2 i _ hi).2
  have b := (h2.2 j _ hj).2
  cases ty with
  | object C => exact absurd rfl (ht C)
  | _ => exact Option.some.inj (a.symm.trans b)
def cpI (F G : Int → Int) (sp dp n : Int) : Int → Int := fun j => if dp ≤ j ∧ j < dp + n then F (sp + (j - dp)) else G j
theorem n9_ng {N : Nat} (hN : N < 100000) : ¬ iI (N : Int) < 0 := fun h => by
  rw [iI_0, iI_lt (by omega) (by omega)] at h
  omega
theorem n9_cl {N : Nat} (hN : N < 100000) : (iI (N : Int)).toNatClampNeg = N := by rw [iI_cl (by omega), Int.toNat_natCast]
theorem n9_i (N : Nat) (cA : ClassId) : vp_cell cA (N, .inl (iF (fun _ => 0))) = arrV cA N (fun _ => defaultValue .int) := by rw [vp_cell_i]; rfl
theorem n9_l (N : Nat) (cA : ClassId) : vp_cell cA (N, .inr (.inl (fun _ => 0))) = arrV cA N (fun _ => defaultValue .long) := by rw [vp_cell_l]; rfl
theorem n9_bi {N : Nat} (hN : N < 100000) : N * componentBytes .int ≤ 536870912 := by
  rw [show componentBytes .int = 4 from rfl]
  omega
theorem n9_bl {N : Nat} (hN : N < 100000) : N * componentBytes .long ≤ 536870912 := by
  rw [show componentBytes .long = 8 from rfl]
  omega
section R9
variable {p : Program} {l : Launch} {e : Env} {R : Room} {s : State} {m : MethodId} {args : Array Value} {below : List Frame} {meth : Method} {c : Code} {H : Heap} {locs : List Loc} {cells slots : Nat} {Q : State → Prop}
variable {cc : ByteArray} {pc : Nat} {ls : Array Slot} {rest : List Value} {g : va_G} {k : kT} {A : Nat → Prop} {ws : va_W} {H0 : Heap} {a : Nat}
theorem ri_newaI (hexec : p.tables.exec = Jvm.exec) (hb : c.code = cc) (harr : (Cond.arrayClass .int).before args s = true) (hK : gK g k s) (hP : va_P g vwCl ws H) (hD : va_D A ws) (hS : va_S A H0 H locs) (hA : ∀ q, H0.size ≤ q → A q)
    {n : Int} (N : Nat) (hn : n = (N : Int) ∧ N < 100000) (hcells : cells + 1 ≤ R.cells) (hslots : slots + N ≤ R.slots) (hdg : decode cc pc = .ok (.newarray .int, 2))
    (kk : ∀ (q : Nat) (H1 : Heap), va_P g vwCl (ws ++ [(q, .inl (k.1, N, .inl (iF (fun _ => 0))))]) H1 → va_D A (ws ++ [(q, .inl (k.1, N, .inl (iF (fun _ => 0))))]) → va_S A H0 H1 locs →
      W p l e R s m args below meth c H1 locs (cells + 1) (slots + N) Q (F0 m (pc + 2) ls (.ref q :: rest))) : W p l e R s m args below meth c H locs cells slots Q (F0 m pc ls (.int (iI n) :: rest)) := by
  obtain ⟨rfl, hN⟩ := hn
  refine va_newa (atype := .int) (ty := .int) (n := iI (N : Int)) (N' := N) (a0 := (N, .inl (iF (fun _ => 0)))) hexec hb harr rfl hK.1 hP hD hS hA (n9_i N) (n9_ng hN) (n9_cl hN) (n9_bi hN) hcells hslots hdg (fun q cA H1 hK1 hP1 hD1 hS1 => ?_)
  · have e1 : cA = k.1 := arr_one (i := 3) (j := 0) hK1 hK.1 rfl rfl (fun _ h => by cases h)
    subst e1
    exact kk q H1 hP1 hD1 hS1
theorem ri_newaJ (hexec : p.tables.exec = Jvm.exec) (hb : c.code = cc) (harr : (Cond.arrayClass .long).before args s = true) (hK : gK g k s) (hP : va_P g vwCl ws H) (hD : va_D A ws) (hS : va_S A H0 H locs) (hA : ∀ q, H0.size ≤ q → A q)
    {n : Int} (N : Nat) (hn : n = (N : Int) ∧ N < 100000) (hcells : cells + 1 ≤ R.cells) (hslots : slots + N ≤ R.slots) (hdg : decode cc pc = .ok (.newarray .long, 2))
    (kk : ∀ (q : Nat) (H1 : Heap), va_P g vwCl (ws ++ [(q, .inl (k.2.1, N, .inr (.inl (fun _ => 0))))]) H1 → va_D A (ws ++ [(q, .inl (k.2.1, N, .inr (.inl (fun _ => 0))))]) → va_S A H0 H1 locs →
      W p l e R s m args below meth c H1 locs (cells + 1) (slots + N) Q (F0 m (pc + 2) ls (.ref q :: rest))) : W p l e R s m args below meth c H locs cells slots Q (F0 m pc ls (.int (iI n) :: rest)) := by
  obtain ⟨rfl, hN⟩ := hn
  refine va_newa (atype := .long) (ty := .long) (n := iI (N : Int)) (N' := N) (a0 := (N, .inr (.inl (fun _ => 0)))) hexec hb harr rfl hK.1 hP hD hS hA (n9_l N) (n9_ng hN) (n9_cl hN) (n9_bl hN) hcells hslots hdg (fun q cA H1 hK1 hP1 hD1 hS1 => ?_)
  · have e1 : cA = k.2.1 := arr_one (i := 3) (j := 1) hK1 hK.1 rfl rfl (fun _ h => by cases h)
    subst e1
    exact kk q H1 hP1 hD1 hS1
theorem ri_copyI (hexec : p.tables.exec = Jvm.exec) (hb : c.code = cc) (hml : c.maxLocals = ls.size) {own : String} {index : Nat} (hown : s.vm.findClass own = some m.cls) (hlink : (Cond.methodLink own index arraycopyName).before args s = true) (hnat : (Cond.native arraycopyName).before args s = true) (hstat : (Cond.static arraycopyName).before args s = true) (hini : (Cond.initialized "java/lang/System").before args s = true)
    (hK : gK g k s) (hP : va_P g vwCl ws H) (hD : va_D A ws) (hS : va_S A H0 H locs) (q0 q1 : Nat) {a0 : Nat} {n0 n1 : Nat} {F G : Int → Int} (ha0 : ws[q0]? = some (a0, .inl (k.1, n0, .inl (iF F)))) (ha1 : ws[q1]? = some (a, .inl (k.1, n1, .inl (iF G))))
    {sp dp n : Int} (h : 0 ≤ sp ∧ 0 ≤ dp ∧ 0 ≤ n ∧ sp + n ≤ n0 ∧ dp + n ≤ n1 ∧ n0 < 100000 ∧ n1 < 100000)
    (hframes : 1 ≤ R.frames) (hlocals : (rest.map fun v => v.category).sum + (nativeFrameWords "java/lang/System" "arraycopy" 5 + 11) ≤ R.locals) (hdg : decode cc pc = .ok (.invokestatic index, 3))
    (kk : ∀ (H1 : Heap) (locs1 : List Loc), va_P g vwCl (ws.set q1 (a, .inl (k.1, n1, .inl (iF (cpI F G sp dp n))))) H1 → va_D A (ws.set q1 (a, .inl (k.1, n1, .inl (iF (cpI F G sp dp n))))) → va_S A H0 H1 locs1 → W p l e R s m args below meth c H1 locs1 cells slots Q (F0 m (pc + 3) ls rest)) : W p l e R s m args below meth c H locs cells slots Q (F0 m pc ls (.int (iI n) :: .int (iI dp) :: .ref a :: .int (iI sp) :: .ref a0 :: rest)) := by
  obtain ⟨h1, h2, h3, h4, h5, h6, h7⟩ := h
  have ng : ∀ z : Int, 0 ≤ z → z < 200000 → ¬ iI z < 0 := fun z z1 z2 q => by rw [iI_0, iI_lt (by omega) (by omega)] at q; omega
  have c1 := iI_cl (a := sp) (by omega)
  have c2 := iI_cl (a := dp) (by omega)
  have c3 := iI_cl (a := n) (by omega)
  refine va_copyi (ty := .int) hexec hb hml hown hlink hnat hstat hini hK.1 hP hD hS q0 q1 0 0 ha0 ha1 rfl rfl rfl (ng sp h1 (by omega)) (ng dp h2 (by omega)) (ng n h3 (by omega)) (by rw [c1, c3]; omega) (by rw [c2, c3]; omega) (fun i _ => rfl) hframes hlocals hdg ?_
  have e1 : va_cpy (iF F) (iF G) (iI sp).toNatClampNeg (iI dp).toNatClampNeg (iI n).toNatClampNeg = iF (cpI F G sp dp n) := by
    rw [c1, c2, c3]
    funext j
    unfold va_cpy cpI iF
    by_cases q : dp.toNat ≤ j ∧ j < dp.toNat + n.toNat
    · rw [if_pos q]
      show _ = iI (if _ then _ else _)
      rw [if_pos (by omega)]
      congr 2
      omega
    · rw [if_neg q]
      show _ = iI (if _ then _ else _)
      rw [if_neg (by omega)]
  rw [e1]
  exact kk
theorem ri_copyJ (hexec : p.tables.exec = Jvm.exec) (hb : c.code = cc) (hml : c.maxLocals = ls.size) {own : String} {index : Nat} (hown : s.vm.findClass own = some m.cls) (hlink : (Cond.methodLink own index arraycopyName).before args s = true) (hnat : (Cond.native arraycopyName).before args s = true) (hstat : (Cond.static arraycopyName).before args s = true) (hini : (Cond.initialized "java/lang/System").before args s = true)
    (hK : gK g k s) (hP : va_P g vwCl ws H) (hD : va_D A ws) (hS : va_S A H0 H locs) (q0 q1 : Nat) {a0 : Nat} {n0 n1 : Nat} {F G : Nat → Int64} (ha0 : ws[q0]? = some (a0, .inl (k.2.1, n0, .inr (.inl F)))) (ha1 : ws[q1]? = some (a, .inl (k.2.1, n1, .inr (.inl G))))
    {sp dp n : Int} (h : 0 ≤ sp ∧ 0 ≤ dp ∧ 0 ≤ n ∧ sp + n ≤ n0 ∧ dp + n ≤ n1 ∧ n0 < 100000 ∧ n1 < 100000)
    (hframes : 1 ≤ R.frames) (hlocals : (rest.map fun v => v.category).sum + (nativeFrameWords "java/lang/System" "arraycopy" 5 + 11) ≤ R.locals) (hdg : decode cc pc = .ok (.invokestatic index, 3))
    (kk : ∀ (H1 : Heap) (locs1 : List Loc), va_P g vwCl (ws.set q1 (a, .inl (k.2.1, n1, .inr (.inl (va_cpy F G sp.toNat dp.toNat n.toNat))))) H1 → va_D A (ws.set q1 (a, .inl (k.2.1, n1, .inr (.inl (va_cpy F G sp.toNat dp.toNat n.toNat))))) → va_S A H0 H1 locs1 → W p l e R s m args below meth c H1 locs1 cells slots Q (F0 m (pc + 3) ls rest)) : W p l e R s m args below meth c H locs cells slots Q (F0 m pc ls (.int (iI n) :: .int (iI dp) :: .ref a :: .int (iI sp) :: .ref a0 :: rest)) := by
  obtain ⟨h1, h2, h3, h4, h5, h6, h7⟩ := h
  have ng : ∀ z : Int, 0 ≤ z → z < 200000 → ¬ iI z < 0 := fun z z1 z2 q => by rw [iI_0, iI_lt (by omega) (by omega)] at q; omega
  have c1 := iI_cl (a := sp) (by omega)
  have c2 := iI_cl (a := dp) (by omega)
  have c3 := iI_cl (a := n) (by omega)
  refine va_copyl (ty := .long) hexec hb hml hown hlink hnat hstat hini hK.1 hP hD hS q0 q1 1 1 ha0 ha1 rfl rfl rfl (ng sp h1 (by omega)) (ng dp h2 (by omega)) (ng n h3 (by omega)) (by rw [c1, c3]; omega) (by rw [c2, c3]; omega) (fun i _ => rfl) hframes hlocals hdg ?_
  rw [c1, c2, c3]
  exact kk
end R9
