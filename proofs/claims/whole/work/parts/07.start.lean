/-! HOW A CONTRACT IS BEGUN: the body gets its state Q as a name, and its ends as rows (hret). -/
theorem st_P {l : Launch} {y : MethodName} {ws ws' : List Cond} {rm : Room} {g : va_G} {k : kT} {wc : va_W} {av : List Value} {post : Int32 → Prop} {cc : ByteArray} {maxL : Nat}
    (hy : plainName y.cls = true) (hw : ws = Cond.code y cc maxL (some .int) :: ws') (hen : (lg_sl av).length ≤ maxL)
    (body : ∀ (p : Program) (e : Env) (s : State) (m : MethodId) (below : List Frame) (meth : Method) (c : Code) (Q : State → Prop), p.tables.exec = Jvm.exec → c.code = cc → c.maxLocals = maxL → s.vm.findClass y.cls = some m.cls → (∀ w ∈ ws, w.before av.toArray s = true) → va_P g vwCl wc s.heap → gK g k s →
      (∀ (v : Int32) (pc : Nat) (ls : Array Slot), decode cc pc = .ok (.ireturn, 1) → post v → W p l e rm s m av.toArray below meth c s.heap [] 0 0 Q (F0 m pc ls [.int v])) →
      ∀ ls : Array Slot, lv_has ls maxL (lv_args 0 av) → W p l e rm s m av.toArray below meth c s.heap [] 0 0 Q (F0 m 0 ls [])) : cP l y ws rm g k wc av post := by
  refine Met.ofW (cc := cc) (maxL := maxL) (ret := some .int) hy hw ?_
  intro p e s m args below meth c s₁ B hml hv
  obtain ⟨rfl, hP, hK⟩ := hv
  have hlocks := B.notSynchronized
  have hr := B.returns
  rw [lg_entry_eq]
  exact body p e s m below meth c _ B.exec B.bytes hml (findClass_of_methodNamed B.named) (atoms_spec (ws := ws) B.pre) hP hK (fun v pc ls d hp => W.iret (v := v) B.exec B.bytes hr (fun t ht hW => ⟨v, rfl, hp, ht⟩) (fun q hq => by cases hq) d) _ (lv_entry av hen)
theorem st_Z {l : Launch} {y : MethodName} {ws ws' : List Cond} {rm : Room} {g : va_G} {k : kT} {wc : va_W} {av : List Value} {post : Int32 → Prop} {cc : ByteArray} {maxL : Nat}
    (hy : plainName y.cls = true) (hw : ws = Cond.code y cc maxL (some .boolean) :: ws') (hen : (lg_sl av).length ≤ maxL)
    (body : ∀ (p : Program) (e : Env) (s : State) (m : MethodId) (below : List Frame) (meth : Method) (c : Code) (Q : State → Prop), p.tables.exec = Jvm.exec → c.code = cc → c.maxLocals = maxL → s.vm.findClass y.cls = some m.cls → (∀ w ∈ ws, w.before av.toArray s = true) → va_P g vwCl wc s.heap → gK g k s →
      (∀ (v : Int) (pc : Nat) (ls : Array Slot), decode cc pc = .ok (.ireturn, 1) → v = 0 ∨ v = 1 → post (iI v) → W p l e rm s m av.toArray below meth c s.heap [] 0 0 Q (F0 m pc ls [.int (iI v)])) →
      ∀ ls : Array Slot, lv_has ls maxL (lv_args 0 av) → W p l e rm s m av.toArray below meth c s.heap [] 0 0 Q (F0 m 0 ls [])) : cP l y ws rm g k wc av post := by
  refine Met.ofW (cc := cc) (maxL := maxL) (ret := some .boolean) hy hw ?_
  intro p e s m args below meth c s₁ B hml hv
  obtain ⟨rfl, hP, hK⟩ := hv
  have hlocks := B.notSynchronized
  have hr := B.returns
  rw [lg_entry_eq]
  exact body p e s m below meth c _ B.exec B.bytes hml (findClass_of_methodNamed B.named) (atoms_spec (ws := ws) B.pre) hP hK (fun v pc ls d h01 hp => W.zret (v := iI v) B.exec B.bytes hr (by rcases h01 with rfl | rfl <;> rfl) (fun t ht hW => ⟨iI v, rfl, hp, ht⟩) (fun q hq => by cases hq) d) _ (lv_entry av hen)
theorem st_V {S : Type} {l : Launch} {y : MethodName} {ws ws' : List Cond} {rm : Room} {g : va_G} {k : kT} {wc : va_W} {sz mc ms : Nat} {av : List Value} {W1 : S → va_W} {post : S → Prop} {cc : ByteArray} {maxL : Nat}
    (hy : plainName y.cls = true) (hw : ws = Cond.code y cc maxL none :: ws') (hen : (lg_sl av).length ≤ maxL)
    (body : ∀ (p : Program) (e : Env) (s : State) (m : MethodId) (below : List Frame) (meth : Method) (c : Code) (Q : State → Prop) (A : Nat → Prop), p.tables.exec = Jvm.exec → c.code = cc → c.maxLocals = maxL → s.vm.findClass y.cls = some m.cls → (∀ w ∈ ws, w.before av.toArray s = true) → meth.name = y.name → (∀ q, s.heap.size ≤ q → A q) → va_P g vwCl wc s.heap → va_D A wc → va_S A s.heap s.heap [] → gK g k s →
      (∀ (u : S) (H : Heap) (locs : List Loc) (pc : Nat) (ls : Array Slot), decode cc pc = .ok (.return_, 1) → post u → va_P g vwCl (W1 u) H → va_D A (W1 u) → va_S A s.heap H locs → W p l e rm s m av.toArray below meth c H locs mc ms Q (F0 m pc ls [])) →
      ∀ ls : Array Slot, lv_has ls maxL (lv_args 0 av) → W p l e rm s m av.toArray below meth c s.heap [] 0 0 Q (F0 m 0 ls [])) : cV l y ws rm g k wc sz av mc ms W1 post := by
  refine Met.ofW (cc := cc) (maxL := maxL) (ret := none) hy hw ?_
  intro p e s m args below meth c s₁ B hml hv
  obtain ⟨rfl, rfl, hP, hK, hD0⟩ := hv
  have hlocks := B.notSynchronized
  have hr := B.returns
  rw [lg_entry_eq]
  exact body p e s m below meth c _ (va_A wc s.heap.size) B.exec B.bytes hml (findClass_of_methodNamed B.named) (atoms_spec (ws := ws) B.pre) (name_of_methodNamed B.named B.method).1 (fun q h => Or.inr h) hP hD0.self va_S.rf hK
    (fun u H locs pc ls d hp hP hD hS => W.vret B.exec B.bytes hr (fun t ht hW => ⟨⟨u, rfl, hp, by rw [ht]; exact hP, hD⟩, hS.F ht⟩) hS.2.2 d) _ (lv_entry av hen)
theorem st_I {S : Type} {l : Launch} {y : MethodName} {ws ws' : List Cond} {rm : Room} {g : va_G} {k : kT} {wc : va_W} {sz mc ms : Nat} {av : List Value} {W1 : S → va_W} {post : Int32 → S → Prop} {cc : ByteArray} {maxL : Nat}
    (hy : plainName y.cls = true) (hw : ws = Cond.code y cc maxL (some .int) :: ws') (hen : (lg_sl av).length ≤ maxL)
    (body : ∀ (p : Program) (e : Env) (s : State) (m : MethodId) (below : List Frame) (meth : Method) (c : Code) (Q : State → Prop) (A : Nat → Prop), p.tables.exec = Jvm.exec → c.code = cc → c.maxLocals = maxL → s.vm.findClass y.cls = some m.cls → (∀ w ∈ ws, w.before av.toArray s = true) → (∀ q, s.heap.size ≤ q → A q) → va_P g vwCl wc s.heap → va_D A wc → va_S A s.heap s.heap [] → gK g k s →
      (∀ (v : Int32) (u : S) (H : Heap) (locs : List Loc) (pc : Nat) (ls : Array Slot), decode cc pc = .ok (.ireturn, 1) → post v u → va_P g vwCl (W1 u) H → va_D A (W1 u) → va_S A s.heap H locs → W p l e rm s m av.toArray below meth c H locs mc ms Q (F0 m pc ls [.int v])) →
      ∀ ls : Array Slot, lv_has ls maxL (lv_args 0 av) → W p l e rm s m av.toArray below meth c s.heap [] 0 0 Q (F0 m 0 ls [])) : cI l y ws rm g k wc sz av mc ms W1 post := by
  refine Met.ofW (cc := cc) (maxL := maxL) (ret := some .int) hy hw ?_
  intro p e s m args below meth c s₁ B hml hv
  obtain ⟨rfl, rfl, hP, hK, hD0⟩ := hv
  have hlocks := B.notSynchronized
  have hr := B.returns
  rw [lg_entry_eq]
  exact body p e s m below meth c _ (va_A wc s.heap.size) B.exec B.bytes hml (findClass_of_methodNamed B.named) (atoms_spec (ws := ws) B.pre) (fun q h => Or.inr h) hP hD0.self va_S.rf hK
    (fun v u H locs pc ls d hp hP hD hS => W.iret (v := v) B.exec B.bytes hr (fun t ht hW => ⟨⟨v, u, rfl, hp, by rw [ht]; exact hP, hD⟩, hS.F ht⟩) hS.2.2 d) _ (lv_entry av hen)
theorem st_ZI {S : Type} {l : Launch} {y : MethodName} {ws ws' : List Cond} {rm : Room} {g : va_G} {k : kT} {wc : va_W} {sz mc ms : Nat} {av : List Value} {W1 : S → va_W} {post : Int32 → S → Prop} {cc : ByteArray} {maxL : Nat}
    (hy : plainName y.cls = true) (hw : ws = Cond.code y cc maxL (some .boolean) :: ws') (hen : (lg_sl av).length ≤ maxL)
    (body : ∀ (p : Program) (e : Env) (s : State) (m : MethodId) (below : List Frame) (meth : Method) (c : Code) (Q : State → Prop) (A : Nat → Prop), p.tables.exec = Jvm.exec → c.code = cc → c.maxLocals = maxL → s.vm.findClass y.cls = some m.cls → (∀ w ∈ ws, w.before av.toArray s = true) → (∀ q, s.heap.size ≤ q → A q) → va_P g vwCl wc s.heap → va_D A wc → va_S A s.heap s.heap [] → gK g k s →
      (∀ (v : Int) (u : S) (H : Heap) (locs : List Loc) (pc : Nat) (ls : Array Slot), decode cc pc = .ok (.ireturn, 1) → v = 0 ∨ v = 1 → post (iI v) u → va_P g vwCl (W1 u) H → va_D A (W1 u) → va_S A s.heap H locs → W p l e rm s m av.toArray below meth c H locs mc ms Q (F0 m pc ls [.int (iI v)])) →
      ∀ ls : Array Slot, lv_has ls maxL (lv_args 0 av) → W p l e rm s m av.toArray below meth c s.heap [] 0 0 Q (F0 m 0 ls [])) : cI l y ws rm g k wc sz av mc ms W1 post := by
  refine Met.ofW (cc := cc) (maxL := maxL) (ret := some .boolean) hy hw ?_
  intro p e s m args below meth c s₁ B hml hv
  obtain ⟨rfl, rfl, hP, hK, hD0⟩ := hv
  have hlocks := B.notSynchronized
  have hr := B.returns
  rw [lg_entry_eq]
  exact body p e s m below meth c _ (va_A wc s.heap.size) B.exec B.bytes hml (findClass_of_methodNamed B.named) (atoms_spec (ws := ws) B.pre) (fun q h => Or.inr h) hP hD0.self va_S.rf hK
    (fun v u H locs pc ls d h01 hp hP hD hS => W.zret (v := iI v) B.exec B.bytes hr (by rcases h01 with rfl | rfl <;> rfl) (fun t ht hW => ⟨⟨iI v, u, rfl, hp, by rw [ht]; exact hP, hD⟩, hS.F ht⟩) hS.2.2 d) _ (lv_entry av hen)
