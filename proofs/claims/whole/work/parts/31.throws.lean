/-! STARTS of methods that may throw: with a throw of their own (sx_), without (sn_); a call of one (rx_V) -/
section SXS
variable {l : Launch} {y : MethodName} {ws ws' : List Cond} {rm : Room} {g : va_G} {k : kT} {wc : va_W} {sz : Nat} {av : List Value} {cc : ByteArray} {maxL : Nat}
theorem sx_I {S : Type} {W1 : S → va_W} {post : Int32 → S → Prop} {PX : String → Prop} (hl : l.stackTraces = false) (hy : plainName y.cls = true) (hyc : y.cls = RX3) (hw : ws = Cond.code y cc maxL (some .int) :: ws') (hen : (lg_sl av).length ≤ maxL) {cls : String} {ik ic : Nat} (hcls : Bundle.fit cls = true) (hwx : ∀ w ∈ Cond.classLink RX3 ik cls :: Cond.initialized cls :: (vx_atS RX3 ic cls ["java/lang/RuntimeException", "java/lang/Exception"]).filter goodWord, w ∈ ws) (hbad : ∀ w ∈ (vx_atS RX3 ic cls ["java/lang/RuntimeException", "java/lang/Exception"]).filter (fun w => !goodWord w), w ∈ xBad) (hgood : ∀ w ∈ Cond.classLink RX3 ik cls :: Cond.initialized cls :: vx_atS RX3 ic cls ["java/lang/RuntimeException", "java/lang/Exception"], vx_ot w = true) (hrm : 5 < rm.frames ∧ 82 ≤ rm.locals ∧ 1 ≤ rm.cells ∧ 6 ≤ rm.slots) 
    (body : ∀ (p : Program) (e : Env) (s : State) (m : MethodId) (below : List Frame) (meth : Method) (c : Code) (Q : State → Prop) (A : Nat → Prop), p.tables.exec = Jvm.exec → c.code = cc → c.maxLocals = maxL → s.vm.findClass RX3 = some m.cls → (∀ w ∈ ws, w.before av.toArray s = true) → (∀ q, s.heap.size ≤ q → A q) → va_P g vwCl wc s.heap → va_D A wc → va_S A s.heap s.heap [] → gK g k s → gE s → gH A s s.heap →
      (∀ (v : Int32) (u : S) (H : Heap) (locs : List Loc) (pc c0 s0 : Nat) (ls : Array Slot), decode cc pc = .ok (.ireturn, 1) → c0 ≤ 1 ∧ s0 ≤ 6 → post v u → va_P g vwCl (W1 u) H → va_D A (W1 u) → va_S A s.heap H locs → W p l e rm s m av.toArray below meth c H locs c0 s0 Q (F0 m pc ls [.int v])) →
      (∀ (E : String) (ce : Cell) (q9 : Addr) (H : Heap) (locs : List Loc) (pc c0 s0 : Nat) (ls : Array Slot) (rest : List Value), H[q9]? = some ce → ce.vm = .none → s.vm.findClass E = some ce.cls → PX E → c0 ≤ 1 ∧ s0 ≤ 6 → va_P g vwCl wc H → va_D A wc → va_S A s.heap H locs → vx_W p l e rm s m av.toArray below meth c H locs c0 s0 Q (F0 m pc ls rest) q9) → (PX cls → xThr p l e rm s m av below meth c Q cc maxL ik ic) → 
      ∀ ls : Array Slot, lv_has ls maxL (lv_args 0 av) → W p l e rm s m av.toArray below meth c s.heap [] 0 0 Q (F0 m 0 ls [])) : cXI l y ws rm g k wc sz av W1 post PX := by
  refine vx_ofW (cc := cc) (maxL := maxL) (ret := (some .int)) hy hw ?_
  intro p e s m args below meth c s₁ B hml hnt hv
  obtain ⟨rfl, rfl, hP, hK, hD0, hE, hH⟩ := hv
  have hlocks := B.notSynchronized
  have hr := B.returns
  have hts := atoms_spec (ws := ws) B.pre
  have hown : s.vm.findClass RX3 = some m.cls := by rw [← hyc]; exact findClass_of_methodNamed B.named
  rw [lg_entry_eq]
  exact body p e s m below meth c _ (va_A wc s.heap.size) B.exec B.bytes hml hown hts (fun q h => Or.inr h) hP hD0.self va_S.rf hK hE hH
    (fun v u H locs pc c0 s0 ls d hcs hp hP hD hS => W.widen (k := 1) (n := 6) hcs.1 hcs.2 (vx_ret (W.iret (v := v) B.exec B.bytes hr (fun t ht hW => ⟨⟨v, u, rfl, hp, by rw [ht]; exact hP, hD⟩, hS.F ht⟩) hS.2.2 d)))
    (fun E ce q9 H locs pc c0 s0 ls rest h1 h2 h3 px hcs hP hD hS => vx_out (E := E) (ce := ce) (fun x hx => (hnt x hx).elim) hlocks h1 h2 h3 (fun t ht hW => ⟨(), trivial, ⟨px, by rw [ht]; exact hP, hD⟩, hS.F ht⟩) hS.2.2 hcs.1 hcs.2)
    (fun px => xThrow B.exec B.bytes hl hml hown hcls (hts _ (hwx _ (by simp))) (hts _ (hwx _ (by simp))) (vx_hat (fun w hw => hts w (hwx w (List.mem_cons_of_mem _ (List.mem_cons_of_mem _ hw)))) hbad (fun w hw => va_Nw.use (by have h2 := xBad_k w hw; cases w <;> first | rfl | cases h2) (hE.1 w hw))) hgood hE hH hnt hlocks hrm
      (fun t ht h1 h2 => ⟨(), trivial, ⟨px, hP.kept (fun i q hq => h2 q.1 (hP i q hq).lt), hD0.self⟩, h1, fun q hq _ => h2 q hq⟩)) _ (lv_entry av hen)
theorem sn_I {S : Type} {W1 : S → va_W} {post : Int32 → S → Prop} {PX : String → Prop} (hl : l.stackTraces = false) (hy : plainName y.cls = true) (hyc : y.cls = RX3) (hw : ws = Cond.code y cc maxL (some .int) :: ws') (hen : (lg_sl av).length ≤ maxL) 
    (body : ∀ (p : Program) (e : Env) (s : State) (m : MethodId) (below : List Frame) (meth : Method) (c : Code) (Q : State → Prop) (A : Nat → Prop), p.tables.exec = Jvm.exec → c.code = cc → c.maxLocals = maxL → s.vm.findClass RX3 = some m.cls → (∀ w ∈ ws, w.before av.toArray s = true) → (∀ q, s.heap.size ≤ q → A q) → va_P g vwCl wc s.heap → va_D A wc → va_S A s.heap s.heap [] → gK g k s → gE s → gH A s s.heap →
      (∀ (v : Int32) (u : S) (H : Heap) (locs : List Loc) (pc c0 s0 : Nat) (ls : Array Slot), decode cc pc = .ok (.ireturn, 1) → c0 ≤ 1 ∧ s0 ≤ 6 → post v u → va_P g vwCl (W1 u) H → va_D A (W1 u) → va_S A s.heap H locs → W p l e rm s m av.toArray below meth c H locs c0 s0 Q (F0 m pc ls [.int v])) →
      (∀ (E : String) (ce : Cell) (q9 : Addr) (H : Heap) (locs : List Loc) (pc c0 s0 : Nat) (ls : Array Slot) (rest : List Value), H[q9]? = some ce → ce.vm = .none → s.vm.findClass E = some ce.cls → PX E → c0 ≤ 1 ∧ s0 ≤ 6 → va_P g vwCl wc H → va_D A wc → va_S A s.heap H locs → vx_W p l e rm s m av.toArray below meth c H locs c0 s0 Q (F0 m pc ls rest) q9) → 
      ∀ ls : Array Slot, lv_has ls maxL (lv_args 0 av) → W p l e rm s m av.toArray below meth c s.heap [] 0 0 Q (F0 m 0 ls [])) : cXI l y ws rm g k wc sz av W1 post PX := by
  refine vx_ofW (cc := cc) (maxL := maxL) (ret := (some .int)) hy hw ?_
  intro p e s m args below meth c s₁ B hml hnt hv
  obtain ⟨rfl, rfl, hP, hK, hD0, hE, hH⟩ := hv
  have hlocks := B.notSynchronized
  have hr := B.returns
  have hts := atoms_spec (ws := ws) B.pre
  have hown : s.vm.findClass RX3 = some m.cls := by rw [← hyc]; exact findClass_of_methodNamed B.named
  rw [lg_entry_eq]
  exact body p e s m below meth c _ (va_A wc s.heap.size) B.exec B.bytes hml hown hts (fun q h => Or.inr h) hP hD0.self va_S.rf hK hE hH
    (fun v u H locs pc c0 s0 ls d hcs hp hP hD hS => W.widen (k := 1) (n := 6) hcs.1 hcs.2 (vx_ret (W.iret (v := v) B.exec B.bytes hr (fun t ht hW => ⟨⟨v, u, rfl, hp, by rw [ht]; exact hP, hD⟩, hS.F ht⟩) hS.2.2 d)))
    (fun E ce q9 H locs pc c0 s0 ls rest h1 h2 h3 px hcs hP hD hS => vx_out (E := E) (ce := ce) (fun x hx => (hnt x hx).elim) hlocks h1 h2 h3 (fun t ht hW => ⟨(), trivial, ⟨px, by rw [ht]; exact hP, hD⟩, hS.F ht⟩) hS.2.2 hcs.1 hcs.2)
    _ (lv_entry av hen)
theorem sx_F {S : Type} {W1 : S → va_W} {post : UInt32 → S → Prop} {PX : String → Prop} (hl : l.stackTraces = false) (hy : plainName y.cls = true) (hyc : y.cls = RX3) (hw : ws = Cond.code y cc maxL (some .float) :: ws') (hen : (lg_sl av).length ≤ maxL) {cls : String} {ik ic : Nat} (hcls : Bundle.fit cls = true) (hwx : ∀ w ∈ Cond.classLink RX3 ik cls :: Cond.initialized cls :: (vx_atS RX3 ic cls ["java/lang/RuntimeException", "java/lang/Exception"]).filter goodWord, w ∈ ws) (hbad : ∀ w ∈ (vx_atS RX3 ic cls ["java/lang/RuntimeException", "java/lang/Exception"]).filter (fun w => !goodWord w), w ∈ xBad) (hgood : ∀ w ∈ Cond.classLink RX3 ik cls :: Cond.initialized cls :: vx_atS RX3 ic cls ["java/lang/RuntimeException", "java/lang/Exception"], vx_ot w = true) (hrm : 5 < rm.frames ∧ 82 ≤ rm.locals ∧ 1 ≤ rm.cells ∧ 6 ≤ rm.slots) 
    (body : ∀ (p : Program) (e : Env) (s : State) (m : MethodId) (below : List Frame) (meth : Method) (c : Code) (Q : State → Prop) (A : Nat → Prop), p.tables.exec = Jvm.exec → c.code = cc → c.maxLocals = maxL → s.vm.findClass RX3 = some m.cls → (∀ w ∈ ws, w.before av.toArray s = true) → (∀ q, s.heap.size ≤ q → A q) → va_P g vwCl wc s.heap → va_D A wc → va_S A s.heap s.heap [] → gK g k s → gE s → gH A s s.heap →
      (∀ (v : UInt32) (u : S) (H : Heap) (locs : List Loc) (pc c0 s0 : Nat) (ls : Array Slot), decode cc pc = .ok (.freturn, 1) → c0 ≤ 1 ∧ s0 ≤ 6 → post v u → va_P g vwCl (W1 u) H → va_D A (W1 u) → va_S A s.heap H locs → W p l e rm s m av.toArray below meth c H locs c0 s0 Q (F0 m pc ls [.float v])) →
      (∀ (E : String) (ce : Cell) (q9 : Addr) (H : Heap) (locs : List Loc) (pc c0 s0 : Nat) (ls : Array Slot) (rest : List Value), H[q9]? = some ce → ce.vm = .none → s.vm.findClass E = some ce.cls → PX E → c0 ≤ 1 ∧ s0 ≤ 6 → va_P g vwCl wc H → va_D A wc → va_S A s.heap H locs → vx_W p l e rm s m av.toArray below meth c H locs c0 s0 Q (F0 m pc ls rest) q9) → (PX cls → xThr p l e rm s m av below meth c Q cc maxL ik ic) → 
      ∀ ls : Array Slot, lv_has ls maxL (lv_args 0 av) → W p l e rm s m av.toArray below meth c s.heap [] 0 0 Q (F0 m 0 ls [])) : cXF l y ws rm g k wc sz av W1 post PX := by
  refine vx_ofW (cc := cc) (maxL := maxL) (ret := (some .float)) hy hw ?_
  intro p e s m args below meth c s₁ B hml hnt hv
  obtain ⟨rfl, rfl, hP, hK, hD0, hE, hH⟩ := hv
  have hlocks := B.notSynchronized
  have hr := B.returns
  have hts := atoms_spec (ws := ws) B.pre
  have hown : s.vm.findClass RX3 = some m.cls := by rw [← hyc]; exact findClass_of_methodNamed B.named
  rw [lg_entry_eq]
  exact body p e s m below meth c _ (va_A wc s.heap.size) B.exec B.bytes hml hown hts (fun q h => Or.inr h) hP hD0.self va_S.rf hK hE hH
    (fun v u H locs pc c0 s0 ls d hcs hp hP hD hS => W.widen (k := 1) (n := 6) hcs.1 hcs.2 (vx_ret (W.fret (v := v) B.exec B.bytes hr (fun t ht hW => ⟨⟨v, u, rfl, hp, by rw [ht]; exact hP, hD⟩, hS.F ht⟩) hS.2.2 d)))
    (fun E ce q9 H locs pc c0 s0 ls rest h1 h2 h3 px hcs hP hD hS => vx_out (E := E) (ce := ce) (fun x hx => (hnt x hx).elim) hlocks h1 h2 h3 (fun t ht hW => ⟨(), trivial, ⟨px, by rw [ht]; exact hP, hD⟩, hS.F ht⟩) hS.2.2 hcs.1 hcs.2)
    (fun px => xThrow B.exec B.bytes hl hml hown hcls (hts _ (hwx _ (by simp))) (hts _ (hwx _ (by simp))) (vx_hat (fun w hw => hts w (hwx w (List.mem_cons_of_mem _ (List.mem_cons_of_mem _ hw)))) hbad (fun w hw => va_Nw.use (by have h2 := xBad_k w hw; cases w <;> first | rfl | cases h2) (hE.1 w hw))) hgood hE hH hnt hlocks hrm
      (fun t ht h1 h2 => ⟨(), trivial, ⟨px, hP.kept (fun i q hq => h2 q.1 (hP i q hq).lt), hD0.self⟩, h1, fun q hq _ => h2 q hq⟩)) _ (lv_entry av hen)
theorem sn_F {S : Type} {W1 : S → va_W} {post : UInt32 → S → Prop} {PX : String → Prop} (hl : l.stackTraces = false) (hy : plainName y.cls = true) (hyc : y.cls = RX3) (hw : ws = Cond.code y cc maxL (some .float) :: ws') (hen : (lg_sl av).length ≤ maxL) 
    (body : ∀ (p : Program) (e : Env) (s : State) (m : MethodId) (below : List Frame) (meth : Method) (c : Code) (Q : State → Prop) (A : Nat → Prop), p.tables.exec = Jvm.exec → c.code = cc → c.maxLocals = maxL → s.vm.findClass RX3 = some m.cls → (∀ w ∈ ws, w.before av.toArray s = true) → (∀ q, s.heap.size ≤ q → A q) → va_P g vwCl wc s.heap → va_D A wc → va_S A s.heap s.heap [] → gK g k s → gE s → gH A s s.heap →
      (∀ (v : UInt32) (u : S) (H : Heap) (locs : List Loc) (pc c0 s0 : Nat) (ls : Array Slot), decode cc pc = .ok (.freturn, 1) → c0 ≤ 1 ∧ s0 ≤ 6 → post v u → va_P g vwCl (W1 u) H → va_D A (W1 u) → va_S A s.heap H locs → W p l e rm s m av.toArray below meth c H locs c0 s0 Q (F0 m pc ls [.float v])) →
      (∀ (E : String) (ce : Cell) (q9 : Addr) (H : Heap) (locs : List Loc) (pc c0 s0 : Nat) (ls : Array Slot) (rest : List Value), H[q9]? = some ce → ce.vm = .none → s.vm.findClass E = some ce.cls → PX E → c0 ≤ 1 ∧ s0 ≤ 6 → va_P g vwCl wc H → va_D A wc → va_S A s.heap H locs → vx_W p l e rm s m av.toArray below meth c H locs c0 s0 Q (F0 m pc ls rest) q9) → 
      ∀ ls : Array Slot, lv_has ls maxL (lv_args 0 av) → W p l e rm s m av.toArray below meth c s.heap [] 0 0 Q (F0 m 0 ls [])) : cXF l y ws rm g k wc sz av W1 post PX := by
  refine vx_ofW (cc := cc) (maxL := maxL) (ret := (some .float)) hy hw ?_
  intro p e s m args below meth c s₁ B hml hnt hv
  obtain ⟨rfl, rfl, hP, hK, hD0, hE, hH⟩ := hv
  have hlocks := B.notSynchronized
  have hr := B.returns
  have hts := atoms_spec (ws := ws) B.pre
  have hown : s.vm.findClass RX3 = some m.cls := by rw [← hyc]; exact findClass_of_methodNamed B.named
  rw [lg_entry_eq]
  exact body p e s m below meth c _ (va_A wc s.heap.size) B.exec B.bytes hml hown hts (fun q h => Or.inr h) hP hD0.self va_S.rf hK hE hH
    (fun v u H locs pc c0 s0 ls d hcs hp hP hD hS => W.widen (k := 1) (n := 6) hcs.1 hcs.2 (vx_ret (W.fret (v := v) B.exec B.bytes hr (fun t ht hW => ⟨⟨v, u, rfl, hp, by rw [ht]; exact hP, hD⟩, hS.F ht⟩) hS.2.2 d)))
    (fun E ce q9 H locs pc c0 s0 ls rest h1 h2 h3 px hcs hP hD hS => vx_out (E := E) (ce := ce) (fun x hx => (hnt x hx).elim) hlocks h1 h2 h3 (fun t ht hW => ⟨(), trivial, ⟨px, by rw [ht]; exact hP, hD⟩, hS.F ht⟩) hS.2.2 hcs.1 hcs.2)
    _ (lv_entry av hen)
theorem sx_V {S : Type} {W1 : S → va_W} {post : S → Prop} {PX : String → Prop} (hl : l.stackTraces = false) (hy : plainName y.cls = true) (hyc : y.cls = RX3) (hw : ws = Cond.code y cc maxL none :: ws') (hen : (lg_sl av).length ≤ maxL) {cls : String} {ik ic : Nat} (hcls : Bundle.fit cls = true) (hwx : ∀ w ∈ Cond.classLink RX3 ik cls :: Cond.initialized cls :: (vx_atS RX3 ic cls ["java/lang/RuntimeException", "java/lang/Exception"]).filter goodWord, w ∈ ws) (hbad : ∀ w ∈ (vx_atS RX3 ic cls ["java/lang/RuntimeException", "java/lang/Exception"]).filter (fun w => !goodWord w), w ∈ xBad) (hgood : ∀ w ∈ Cond.classLink RX3 ik cls :: Cond.initialized cls :: vx_atS RX3 ic cls ["java/lang/RuntimeException", "java/lang/Exception"], vx_ot w = true) (hrm : 5 < rm.frames ∧ 82 ≤ rm.locals ∧ 1 ≤ rm.cells ∧ 6 ≤ rm.slots) 
    (body : ∀ (p : Program) (e : Env) (s : State) (m : MethodId) (below : List Frame) (meth : Method) (c : Code) (Q : State → Prop) (A : Nat → Prop), p.tables.exec = Jvm.exec → c.code = cc → c.maxLocals = maxL → s.vm.findClass RX3 = some m.cls → (∀ w ∈ ws, w.before av.toArray s = true) → (∀ q, s.heap.size ≤ q → A q) → va_P g vwCl wc s.heap → va_D A wc → va_S A s.heap s.heap [] → gK g k s → gE s → gH A s s.heap →
      (∀ (u : S) (H : Heap) (locs : List Loc) (pc c0 s0 : Nat) (ls : Array Slot), decode cc pc = .ok (.return_, 1) → c0 ≤ 1 ∧ s0 ≤ 6 → post u → va_P g vwCl (W1 u) H → va_D A (W1 u) → va_S A s.heap H locs → W p l e rm s m av.toArray below meth c H locs c0 s0 Q (F0 m pc ls [])) →
      (∀ (E : String) (ce : Cell) (q9 : Addr) (H : Heap) (locs : List Loc) (pc c0 s0 : Nat) (ls : Array Slot) (rest : List Value), H[q9]? = some ce → ce.vm = .none → s.vm.findClass E = some ce.cls → PX E → c0 ≤ 1 ∧ s0 ≤ 6 → va_P g vwCl wc H → va_D A wc → va_S A s.heap H locs → vx_W p l e rm s m av.toArray below meth c H locs c0 s0 Q (F0 m pc ls rest) q9) → (PX cls → xThr p l e rm s m av below meth c Q cc maxL ik ic) → 
      ∀ ls : Array Slot, lv_has ls maxL (lv_args 0 av) → W p l e rm s m av.toArray below meth c s.heap [] 0 0 Q (F0 m 0 ls [])) : cXV l y ws rm g k wc sz av W1 post PX := by
  refine vx_ofW (cc := cc) (maxL := maxL) (ret := none) hy hw ?_
  intro p e s m args below meth c s₁ B hml hnt hv
  obtain ⟨rfl, rfl, hP, hK, hD0, hE, hH⟩ := hv
  have hlocks := B.notSynchronized
  have hr := B.returns
  have hts := atoms_spec (ws := ws) B.pre
  have hown : s.vm.findClass RX3 = some m.cls := by rw [← hyc]; exact findClass_of_methodNamed B.named
  rw [lg_entry_eq]
  exact body p e s m below meth c _ (va_A wc s.heap.size) B.exec B.bytes hml hown hts (fun q h => Or.inr h) hP hD0.self va_S.rf hK hE hH
    (fun u H locs pc c0 s0 ls d hcs hp hP hD hS => W.widen (k := 1) (n := 6) hcs.1 hcs.2 (vx_ret (W.vret B.exec B.bytes hr (fun t ht hW => ⟨⟨u, rfl, hp, by rw [ht]; exact hP, hD⟩, hS.F ht⟩) hS.2.2 d)))
    (fun E ce q9 H locs pc c0 s0 ls rest h1 h2 h3 px hcs hP hD hS => vx_out (E := E) (ce := ce) (fun x hx => (hnt x hx).elim) hlocks h1 h2 h3 (fun t ht hW => ⟨(), trivial, ⟨px, by rw [ht]; exact hP, hD⟩, hS.F ht⟩) hS.2.2 hcs.1 hcs.2)
    (fun px => xThrow B.exec B.bytes hl hml hown hcls (hts _ (hwx _ (by simp))) (hts _ (hwx _ (by simp))) (vx_hat (fun w hw => hts w (hwx w (List.mem_cons_of_mem _ (List.mem_cons_of_mem _ hw)))) hbad (fun w hw => va_Nw.use (by have h2 := xBad_k w hw; cases w <;> first | rfl | cases h2) (hE.1 w hw))) hgood hE hH hnt hlocks hrm
      (fun t ht h1 h2 => ⟨(), trivial, ⟨px, hP.kept (fun i q hq => h2 q.1 (hP i q hq).lt), hD0.self⟩, h1, fun q hq _ => h2 q hq⟩)) _ (lv_entry av hen)
theorem sn_V {S : Type} {W1 : S → va_W} {post : S → Prop} {PX : String → Prop} (hl : l.stackTraces = false) (hy : plainName y.cls = true) (hyc : y.cls = RX3) (hw : ws = Cond.code y cc maxL none :: ws') (hen : (lg_sl av).length ≤ maxL) 
    (body : ∀ (p : Program) (e : Env) (s : State) (m : MethodId) (below : List Frame) (meth : Method) (c : Code) (Q : State → Prop) (A : Nat → Prop), p.tables.exec = Jvm.exec → c.code = cc → c.maxLocals = maxL → s.vm.findClass RX3 = some m.cls → (∀ w ∈ ws, w.before av.toArray s = true) → (∀ q, s.heap.size ≤ q → A q) → va_P g vwCl wc s.heap → va_D A wc → va_S A s.heap s.heap [] → gK g k s → gE s → gH A s s.heap →
      (∀ (u : S) (H : Heap) (locs : List Loc) (pc c0 s0 : Nat) (ls : Array Slot), decode cc pc = .ok (.return_, 1) → c0 ≤ 1 ∧ s0 ≤ 6 → post u → va_P g vwCl (W1 u) H → va_D A (W1 u) → va_S A s.heap H locs → W p l e rm s m av.toArray below meth c H locs c0 s0 Q (F0 m pc ls [])) →
      (∀ (E : String) (ce : Cell) (q9 : Addr) (H : Heap) (locs : List Loc) (pc c0 s0 : Nat) (ls : Array Slot) (rest : List Value), H[q9]? = some ce → ce.vm = .none → s.vm.findClass E = some ce.cls → PX E → c0 ≤ 1 ∧ s0 ≤ 6 → va_P g vwCl wc H → va_D A wc → va_S A s.heap H locs → vx_W p l e rm s m av.toArray below meth c H locs c0 s0 Q (F0 m pc ls rest) q9) → 
      ∀ ls : Array Slot, lv_has ls maxL (lv_args 0 av) → W p l e rm s m av.toArray below meth c s.heap [] 0 0 Q (F0 m 0 ls [])) : cXV l y ws rm g k wc sz av W1 post PX := by
  refine vx_ofW (cc := cc) (maxL := maxL) (ret := none) hy hw ?_
  intro p e s m args below meth c s₁ B hml hnt hv
  obtain ⟨rfl, rfl, hP, hK, hD0, hE, hH⟩ := hv
  have hlocks := B.notSynchronized
  have hr := B.returns
  have hts := atoms_spec (ws := ws) B.pre
  have hown : s.vm.findClass RX3 = some m.cls := by rw [← hyc]; exact findClass_of_methodNamed B.named
  rw [lg_entry_eq]
  exact body p e s m below meth c _ (va_A wc s.heap.size) B.exec B.bytes hml hown hts (fun q h => Or.inr h) hP hD0.self va_S.rf hK hE hH
    (fun u H locs pc c0 s0 ls d hcs hp hP hD hS => W.widen (k := 1) (n := 6) hcs.1 hcs.2 (vx_ret (W.vret B.exec B.bytes hr (fun t ht hW => ⟨⟨u, rfl, hp, by rw [ht]; exact hP, hD⟩, hS.F ht⟩) hS.2.2 d)))
    (fun E ce q9 H locs pc c0 s0 ls rest h1 h2 h3 px hcs hP hD hS => vx_out (E := E) (ce := ce) (fun x hx => (hnt x hx).elim) hlocks h1 h2 h3 (fun t ht hW => ⟨(), trivial, ⟨px, by rw [ht]; exact hP, hD⟩, hS.F ht⟩) hS.2.2 hcs.1 hcs.2)
    _ (lv_entry av hen)
end SXS
section RXV
variable {p : Program} {l : Launch} {e : Env} {R : Room} {s : State} {m : MethodId} {args : Array Value} {below : List Frame} {meth : Method} {c : Code} {H : Heap} {locs : List Loc} {cells slots : Nat} {Q : State → Prop}
variable {cc : ByteArray} {pc : Nat} {ls : Array Slot} {rest : List Value} {g : va_G} {k : kT} {y : MethodName} {bytes : ByteArray} {maxL nL n index : Nat} {ret : Option FieldType} {ws : List Cond} {rm : Room} {Ts : List Cond} {own : String} {b : Nat} {As st0 : List Value} {wa wc wr : va_W} {A0 : Nat → Prop} {H0 : Heap}
theorem P_of {g : va_G} {wa wc : va_W} {H : Heap} (hP : va_P g vwCl wa H) (isC : List Nat) (hC : isC.map (fun i => wa[i]?) = wc.map some) : va_P g vwCl wc H := fun i x hx => by
  have h1 : (isC.map (fun i => wa[i]?))[i]? = some (some x) := by rw [hC, List.getElem?_map, hx]; rfl
  rw [List.getElem?_map] at h1
  cases hi : isC[i]? with
  | none => rw [hi] at h1; cases h1
  | some j => rw [hi] at h1; exact hP j x (Option.some.inj h1)
theorem rx_V {S : Type} {W1 : S → va_W} {post : S → Prop} {PX : String → Prop} {ci q0 : Nat} {q : vw_C} {fs : List Value} (S0 : CallFix p m c cc nL s args Ts own) (hM : cXV l y ws rm g k wc H.size (.ref b :: As) W1 post PX) (cw : CallW R s args own q.1 index y bytes maxL ret ws rm 1 6 n)
    (hK : gK g k s) (hE : gE s) (hH : gH A0 s H0) (hs0 : H0.size ≤ H.size) (hP : va_P g vwCl wa H) (hD : va_D A0 wa) (hS : va_S A0 H0 H locs) (hA : ∀ q, H0.size ≤ q → A0 q) (isC isR : List Nat) (hC : isC.map (fun i => wa[i]?) = wc.map some) (hCn : va_nd isC = true) (hR : isR.map (fun i => wa[i]?) = wr.map some) (hRn : va_nd isR = true) (hdis : ∀ i ∈ isR, i ∉ isC)
    (hc : vwCl[ci]? = some q) (he : wc[q0]? = some (b, .inr (ci, fs))) (hst : st0 = As.reverse ++ .ref b :: rest) (hn : As.length = n) (hsz : ls.size = nL) (hw : (rest.map fun v => v.category).sum ≤ 8) (hf : cells + 1 ≤ R.cells ∧ slots + 6 ≤ R.slots) (hdg : decode cc pc = .ok (.invokevirtual index, 3))
    (kx : ∀ (E : String) (ce : Cell) (q9 : Addr) (H1 : Heap) (locs1 : List Loc), H1[q9]? = some ce → ce.vm = .none → s.vm.findClass E = some ce.cls → PX E → va_P g vwCl (wr ++ wc) H1 → va_D A0 (wr ++ wc) → va_S A0 H0 H1 locs1 → vx_W p l e R s m args below meth c H1 locs1 (cells + 1) (slots + 6) Q (F0 m pc ls rest) q9)
    (kk : ∀ (u : S) (H1 : Heap) (locs1 : List Loc), post u → va_P g vwCl (wr ++ W1 u) H1 → va_D A0 (wr ++ W1 u) → va_S A0 H0 H1 locs1 → W p l e R s m args below meth c H1 locs1 (cells + 1) (slots + 6) Q (F0 m (pc + 3) ls rest)) : W p l e R s m args below meth c H locs cells slots Q (F0 m pc ls st0) := by
  have hPc := P_of hP isC hC
  have hFc := va_free (wc := wc) hD hS hA isC hC
  refine vx_callv (vx_runV (As := As) (rest := rest) S0 hM cw ⟨xPre_blind, va_recv hK.1 hPc hc he, fun U hU hW => ⟨rfl, by rw [hU], by rw [hU]; exact hPc, hK.warm hW, (hD.sub isC hCn hC).weaken (fun _ _ _ _ => trivial), hE.warm hW, by rw [hU]; exact ((hH.moved hW.alike).kept hS.2.1).narrow hFc⟩⟩ rfl hn hsz hst (lv_room hw) hdg hf) hS (fun q _ h => hFc q h) hFc (fun q _ h => hFc q h) (fun E ce q9 u t H1 locs1 ht hvm _ hB hz1 hk1 hS1 h1 h2 h3 => ?_) (fun u t H1 locs1 ht hvm hp hB hz1 hk1 hS1 => ?_)
  · obtain ⟨px, hP1, hD1⟩ := hB
    rw [ht] at hP1
    obtain ⟨hP2, hD2⟩ := va_join (wr := wr) (w1 := wc) hP hD isC isR hC hR hRn hdis hk1 hFc hP1 hD1
    exact kx E ce q9 H1 locs1 h1 h2 h3 px hP2 hD2 hS1
  · obtain ⟨hP1, hD1⟩ := hB
    rw [ht] at hP1
    obtain ⟨hP2, hD2⟩ := va_join (wr := wr) (w1 := W1 u) hP hD isC isR hC hR hRn hdis hk1 hFc hP1 hD1
    exact kk u H1 locs1 hp hP2 hD2 hS1
theorem rx_I {S : Type} {W1 : S → va_W} {post : Int32 → S → Prop} {PX : String → Prop} {ci q0 : Nat} {q : vw_C} {fs : List Value} (S0 : CallFix p m c cc nL s args Ts own) (hM : cXI l y ws rm g k wc H.size (.ref b :: As) W1 post PX) (cw : CallW R s args own q.1 index y bytes maxL ret ws rm 1 6 n)
    (hK : gK g k s) (hE : gE s) (hH : gH A0 s H0) (hs0 : H0.size ≤ H.size) (hP : va_P g vwCl wa H) (hD : va_D A0 wa) (hS : va_S A0 H0 H locs) (hA : ∀ q, H0.size ≤ q → A0 q) (isC isR : List Nat) (hC : isC.map (fun i => wa[i]?) = wc.map some) (hCn : va_nd isC = true) (hR : isR.map (fun i => wa[i]?) = wr.map some) (hRn : va_nd isR = true) (hdis : ∀ i ∈ isR, i ∉ isC)
    (hc : vwCl[ci]? = some q) (he : wc[q0]? = some (b, .inr (ci, fs))) (hst : st0 = As.reverse ++ .ref b :: rest) (hn : As.length = n) (hsz : ls.size = nL) (hw : (rest.map fun v => v.category).sum ≤ 8) (hf : cells + 1 ≤ R.cells ∧ slots + 6 ≤ R.slots) (hdg : decode cc pc = .ok (.invokevirtual index, 3))
    (kx : ∀ (E : String) (ce : Cell) (q9 : Addr) (H1 : Heap) (locs1 : List Loc), H1[q9]? = some ce → ce.vm = .none → s.vm.findClass E = some ce.cls → PX E → va_P g vwCl (wr ++ wc) H1 → va_D A0 (wr ++ wc) → va_S A0 H0 H1 locs1 → vx_W p l e R s m args below meth c H1 locs1 (cells + 1) (slots + 6) Q (F0 m pc ls rest) q9)
    (kk : ∀ (r : Int32) (u : S) (H1 : Heap) (locs1 : List Loc), post r u → va_P g vwCl (wr ++ W1 u) H1 → va_D A0 (wr ++ W1 u) → va_S A0 H0 H1 locs1 → W p l e R s m args below meth c H1 locs1 (cells + 1) (slots + 6) Q (F0 m (pc + 3) ls (.int r :: rest))) : W p l e R s m args below meth c H locs cells slots Q (F0 m pc ls st0) := by
  have hPc := P_of hP isC hC
  have hFc := va_free (wc := wc) hD hS hA isC hC
  refine vx_calli (vx_runV (As := As) (rest := rest) S0 hM cw ⟨xPre_blind, va_recv hK.1 hPc hc he, fun U hU hW => ⟨rfl, by rw [hU], by rw [hU]; exact hPc, hK.warm hW, (hD.sub isC hCn hC).weaken (fun _ _ _ _ => trivial), hE.warm hW, by rw [hU]; exact ((hH.moved hW.alike).kept hS.2.1).narrow hFc⟩⟩ rfl hn hsz hst (lv_room hw) hdg hf) hS (fun q _ h => hFc q h) hFc (fun q _ h => hFc q h) (fun E ce q9 u t H1 locs1 ht hvm _ hB hz1 hk1 hS1 h1 h2 h3 => ?_) (fun r u t H1 locs1 ht hvm hp hB hz1 hk1 hS1 => ?_)
  · obtain ⟨px, hP1, hD1⟩ := hB
    rw [ht] at hP1
    obtain ⟨hP2, hD2⟩ := va_join (wr := wr) (w1 := wc) hP hD isC isR hC hR hRn hdis hk1 hFc hP1 hD1
    exact kx E ce q9 H1 locs1 h1 h2 h3 px hP2 hD2 hS1
  · obtain ⟨hP1, hD1⟩ := hB
    rw [ht] at hP1
    obtain ⟨hP2, hD2⟩ := va_join (wr := wr) (w1 := W1 u) hP hD isC isR hC hR hRn hdis hk1 hFc hP1 hD1
    exact kk r u H1 locs1 hp hP2 hD2 hS1
theorem rx_F {S : Type} {W1 : S → va_W} {post : UInt32 → S → Prop} {PX : String → Prop} {ci q0 : Nat} {q : vw_C} {fs : List Value} (S0 : CallFix p m c cc nL s args Ts own) (hM : cXF l y ws rm g k wc H.size (.ref b :: As) W1 post PX) (cw : CallW R s args own q.1 index y bytes maxL ret ws rm 1 6 n)
    (hK : gK g k s) (hE : gE s) (hH : gH A0 s H0) (hs0 : H0.size ≤ H.size) (hP : va_P g vwCl wa H) (hD : va_D A0 wa) (hS : va_S A0 H0 H locs) (hA : ∀ q, H0.size ≤ q → A0 q) (isC isR : List Nat) (hC : isC.map (fun i => wa[i]?) = wc.map some) (hCn : va_nd isC = true) (hR : isR.map (fun i => wa[i]?) = wr.map some) (hRn : va_nd isR = true) (hdis : ∀ i ∈ isR, i ∉ isC)
    (hc : vwCl[ci]? = some q) (he : wc[q0]? = some (b, .inr (ci, fs))) (hst : st0 = As.reverse ++ .ref b :: rest) (hn : As.length = n) (hsz : ls.size = nL) (hw : (rest.map fun v => v.category).sum ≤ 8) (hf : cells + 1 ≤ R.cells ∧ slots + 6 ≤ R.slots) (hdg : decode cc pc = .ok (.invokevirtual index, 3))
    (kx : ∀ (E : String) (ce : Cell) (q9 : Addr) (H1 : Heap) (locs1 : List Loc), H1[q9]? = some ce → ce.vm = .none → s.vm.findClass E = some ce.cls → PX E → va_P g vwCl (wr ++ wc) H1 → va_D A0 (wr ++ wc) → va_S A0 H0 H1 locs1 → vx_W p l e R s m args below meth c H1 locs1 (cells + 1) (slots + 6) Q (F0 m pc ls rest) q9)
    (kk : ∀ (r : UInt32) (u : S) (H1 : Heap) (locs1 : List Loc), post r u → va_P g vwCl (wr ++ W1 u) H1 → va_D A0 (wr ++ W1 u) → va_S A0 H0 H1 locs1 → W p l e R s m args below meth c H1 locs1 (cells + 1) (slots + 6) Q (F0 m (pc + 3) ls (.float r :: rest))) : W p l e R s m args below meth c H locs cells slots Q (F0 m pc ls st0) := by
  have hPc := P_of hP isC hC
  have hFc := va_free (wc := wc) hD hS hA isC hC
  refine vx_callf (vx_runV (As := As) (rest := rest) S0 hM cw ⟨xPre_blind, va_recv hK.1 hPc hc he, fun U hU hW => ⟨rfl, by rw [hU], by rw [hU]; exact hPc, hK.warm hW, (hD.sub isC hCn hC).weaken (fun _ _ _ _ => trivial), hE.warm hW, by rw [hU]; exact ((hH.moved hW.alike).kept hS.2.1).narrow hFc⟩⟩ rfl hn hsz hst (lv_room hw) hdg hf) hS (fun q _ h => hFc q h) hFc (fun q _ h => hFc q h) (fun E ce q9 u t H1 locs1 ht hvm _ hB hz1 hk1 hS1 h1 h2 h3 => ?_) (fun r u t H1 locs1 ht hvm hp hB hz1 hk1 hS1 => ?_)
  · obtain ⟨px, hP1, hD1⟩ := hB
    rw [ht] at hP1
    obtain ⟨hP2, hD2⟩ := va_join (wr := wr) (w1 := wc) hP hD isC isR hC hR hRn hdis hk1 hFc hP1 hD1
    exact kx E ce q9 H1 locs1 h1 h2 h3 px hP2 hD2 hS1
  · obtain ⟨hP1, hD1⟩ := hB
    rw [ht] at hP1
    obtain ⟨hP2, hD2⟩ := va_join (wr := wr) (w1 := W1 u) hP hD isC isR hC hR hRn hdis hk1 hFc hP1 hD1
    exact kk r u H1 locs1 hp hP2 hD2 hS1
end RXV
