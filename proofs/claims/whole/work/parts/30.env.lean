/-! WHAT A THROW NEEDS of the machine -/
def xN : List String := ["java/lang/RuntimeException", "java/lang/Exception"]
abbrev xA : List Cond := vx_atS RX3 53 "java/lang/IllegalArgumentException" ["java/lang/RuntimeException", "java/lang/Exception"]
abbrev xS : List Cond := vx_atS RX3 148 "java/lang/IllegalStateException" ["java/lang/RuntimeException", "java/lang/Exception"]
def xKind : Cond → Bool
  | .declares _ => true
  | .castable _ _ => true
  | _ => false
theorem xA_k : (xA.filter (fun w => !goodWord w)).all xKind = true := by decide +kernel
theorem xS_k : (xS.filter (fun w => !goodWord w)).all xKind = true := by decide +kernel
theorem xA_o : ∀ w ∈ Cond.classLink RX3 49 "java/lang/IllegalArgumentException" :: Cond.initialized "java/lang/IllegalArgumentException" :: xA, vx_ot w = true := by decide +kernel
theorem xS_o : ∀ w ∈ Cond.classLink RX3 144 "java/lang/IllegalStateException" :: Cond.initialized "java/lang/IllegalStateException" :: xS, vx_ot w = true := by decide +kernel
/-- the texts of the exceptions: place, text -/
def xT : List (Nat × String) := [(51, "no such state or symbol"), (60, "no such code"), (69, "the limit is not 1 to 300"), (79, "no such figure"), (112, "not 1 to 40 machines"), (139, "no such count"), (146, "none halted"), (152, "not run since the machine was changed")]
def xBad : List Cond := xA.filter (fun w => !goodWord w) ++ xS.filter (fun w => !goodWord w)
theorem xBad_k : ∀ w ∈ xBad, xKind w = true := fun w h => (List.mem_append.mp h).elim (fun h => List.all_eq_true.mp xA_k w h) (fun h => List.all_eq_true.mp xS_k w h)
/-- of the tables -/
def gE (U : State) : Prop := (∀ w ∈ xBad, va_Nw w U) ∧ ∀ q ∈ xT, ∃ a, vk_R RX3 q.1 q.2 a U
/-- of the heap: two statics of Throwable, out of A -/
def gH (A : Nat → Prop) (U : State) (H : Heap) : Prop := vx_Zq Bundle.tN "UNASSIGNED_STACK" Bundle.steD A U H ∧ vx_Zq Bundle.tN "SUPPRESSED_SENTINEL" Bundle.listD A U H
theorem gE.warm {s U : State} (h : gE s) (hW : s.WarmedH U.vm) : gE U := by
  refine ⟨fun w hw => ?_, fun q hq => ?_⟩
  · have h1 := h.1 w hw
    have h2 := xBad_k w hw
    cases w with
    | declares x => exact va_Nw.warmD hW h1
    | castable C T => exact va_Nw.warmC hW h1
    | _ => cases h2
  · obtain ⟨a, ha⟩ := h.2 q hq
    exact ⟨a, vk_R.warm hW ha⟩
theorem gE.same {s U : State} (h : gE s) (hv : s.vm = U.vm) : gE U := by
  refine ⟨fun w hw => ?_, fun q hq => ?_⟩
  · have h2 := xBad_k w hw
    refine va_Nw.same ?_ hv (h.1 w hw)
    cases w <;> first | rfl | cases h2
  · obtain ⟨a, ha⟩ := h.2 q hq
    exact ⟨a, vk_R.same hv.symm ha⟩
theorem gH.moved {A : Nat → Prop} {u U : State} {H : Heap} (h : gH A u H) (hv : u.vm.Alike U.vm) : gH A U H := ⟨vx_Zq.moved hv h.1, vx_Zq.moved hv h.2⟩
theorem gH.kept {A : Nat → Prop} {U : State} {H H1 : Heap} (h : gH A U H) (hq : ∀ a : Nat, a < H.size → ¬ A a → H1[a]? = H[a]?) : gH A U H1 := ⟨vx_Zq.kept h.1 hq, vx_Zq.kept h.2 hq⟩
theorem gH.narrow {A B : Nat → Prop} {U : State} {H : Heap} (h : gH A U H) (hAB : ∀ q, B q → A q) : gH B U H := ⟨vx_Zq.narrow h.1 hAB, vx_Zq.narrow h.2 hAB⟩
/-- the start of a method that may throw -/
def xPre (g : va_G) (k : kT) (ws : va_W) (sz : Nat) (av : List Value) : Array Value → State → Prop := va_Pc av (fun U => U.heap.size = sz ∧ va_P g vwCl ws U.heap ∧ gK g k U ∧ va_D (fun _ => True) ws ∧ gE U ∧ gH (va_A ws sz) U U.heap)
theorem xPre_blind {g : va_G} {k : kT} {ws : va_W} {sz : Nat} {av : List Value} : FrameBlind (xPre g k ws sz av) := fun a U f mk h => ⟨h.1, h.2.1, h.2.2.1, gK.same (U := U.calling f mk a) h.2.2.2.1 rfl, h.2.2.2.2.1, gE.same (U := U.calling f mk a) h.2.2.2.2.2.1 rfl, gH.moved (U := U.calling f mk a) h.2.2.2.2.2.2 (Vm.Alike.refl U.vm)⟩
/-- what holds where it throws an E: its world is as it was -/
abbrev xC (g : va_G) (wc : va_W) (sz : Nat) (PX : String → Prop) : String → State → State → Prop := vx_X (fun _ : Unit => True) (fun E _ t => PX E ∧ va_P g vwCl wc t.heap ∧ va_D (va_A wc sz) wc) (va_A wc sz)
abbrev cXI {S : Type} (l : Launch) (y : MethodName) (ws : List Cond) (rm : Room) (g : va_G) (k : kT) (wc : va_W) (sz : Nat) (av : List Value) (W1 : S → va_W) (post : Int32 → S → Prop) (PX : String → Prop) : Prop := vx_Met l y ws rm (xPre g k wc sz av) (va_Qi post (mB g wc sz W1) (va_A wc sz)) (xC g wc sz PX) 1 6 (va_A wc sz)
abbrev cXF {S : Type} (l : Launch) (y : MethodName) (ws : List Cond) (rm : Room) (g : va_G) (k : kT) (wc : va_W) (sz : Nat) (av : List Value) (W1 : S → va_W) (post : UInt32 → S → Prop) (PX : String → Prop) : Prop := vx_Met l y ws rm (xPre g k wc sz av) (va_Qf post (mB g wc sz W1) (va_A wc sz)) (xC g wc sz PX) 1 6 (va_A wc sz)
abbrev cXV {S : Type} (l : Launch) (y : MethodName) (ws : List Cond) (rm : Room) (g : va_G) (k : kT) (wc : va_W) (sz : Nat) (av : List Value) (W1 : S → va_W) (post : S → Prop) (PX : String → Prop) : Prop := vx_Met l y ws rm (xPre g k wc sz av) (va_Qv post (mB g wc sz W1) (va_A wc sz)) (xC g wc sz PX) 1 6 (va_A wc sz)
/-- the row of 'throw new IllegalArgumentException(text)', 'throw new IllegalStateException(text)' at the start's heap -/
def xThr (p : Program) (l : Launch) (e : Env) (rm : Room) (s : State) (m : MethodId) (av : List Value) (below : List Frame) (meth : Method) (c : Code) (Q : State → Prop) (cc : ByteArray) (maxL ik ic : Nat) : Prop :=
  ∀ (is pc : Nat) (tx : String) (ls : Array Slot), (is, tx) ∈ xT → ls.size = maxL → decode cc pc = .ok (.new ik, 3) → decode cc (pc + 3) = .ok (.dup, 1) → decode cc (pc + 4) = .ok (.ldc is, 2) → decode cc (pc + 6) = .ok (.invokespecial ic, 3) → decode cc (pc + 9) = .ok (.athrow, 1) → W p l e rm s m av.toArray below meth c s.heap [] 0 0 Q (F0 m pc ls [])
section SX
variable {l : Launch} {y : MethodName} {ws ws' : List Cond} {rm : Room} {g : va_G} {k : kT} {wc : va_W} {sz : Nat} {av : List Value} {cc : ByteArray} {maxL : Nat}
theorem xThrow {p : Program} {e : Env} {s : State} {m : MethodId} {below : List Frame} {meth : Method} {c : Code} {A : Nat → Prop} {Qc : Array Value → State → Outcome → State → Prop} {XC : String → State → State → Prop} {free : Addr → Prop} (hexec : p.tables.exec = Jvm.exec) (hb : c.code = cc) (hl : l.stackTraces = false) (hml : c.maxLocals = maxL) (hown : s.vm.findClass RX3 = some m.cls)
    {cls : String} {ik ic : Nat} (hcls : Bundle.fit cls = true) (hk : (Cond.classLink RX3 ik cls).before av.toArray s = true) (hini : (Cond.initialized cls).before av.toArray s = true) (hat : ∀ w ∈ vx_atS RX3 ic cls ["java/lang/RuntimeException", "java/lang/Exception"], w.before av.toArray s = true)
    (hgood : ∀ w ∈ Cond.classLink RX3 ik cls :: Cond.initialized cls :: vx_atS RX3 ic cls ["java/lang/RuntimeException", "java/lang/Exception"], vx_ot w = true) (hE : gE s) (hH : gH A s s.heap) (hnt : ∀ x ∈ c.exceptionTable.toList, False) (hlocks : meth.locks = false) (hr : 5 < rm.frames ∧ 82 ≤ rm.locals ∧ 1 ≤ rm.cells ∧ 6 ≤ rm.slots)
    (hx : ∀ t : State, s.vm.Alike t.vm → s.heap.size ≤ t.heap.size → (∀ q : Nat, q < s.heap.size → t.heap[q]? = s.heap[q]?) → XC cls s t) : xThr p l e rm s m av below meth c (vx_MQ below Qc XC av.toArray s 1 6 free) cc maxL ik ic := by
  intro is pc tx ls hin hsz d0 d3 d4 d6 d9
  obtain ⟨sa, hstr⟩ := hE.2 _ hin
  exact vx_throwS (names := ["java/lang/RuntimeException", "java/lang/Exception"]) hexec hb hl hown hcls (by decide) hk hini hstr hat hgood hH.1 hH.2 (va_S.rf (A := A)) (by rw [hsz, hml]) d0 d3 d4 d6 d9 (fun x hx' => (hnt x hx').elim) hr.1 (by show 0 + (13 * 3 + 43) ≤ _; omega) (by omega) (by omega) hlocks hx (fun z hz => by cases hz) (Nat.le_refl _) (Nat.le_refl _)
end SX
