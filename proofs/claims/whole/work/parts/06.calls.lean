/-! THE FORMS OF OUR CONTRACTS, and rows of calls by them. k: the classes of int[], long[], double[]; g: the own classes' numbers and slots. -/
abbrev kT : Type := ClassId × ClassId × ClassId
abbrev tyL (k : kT) : List (ClassId × FieldType) := [(k.1, .int), (k.2.1, .long), (k.2.2, .double)]
/-- links to fields of nest mates: owner, place, class, field, descriptor -/
def nestT : List (String × Nat × String × String × String) := [
  ("MachineTree", 102, "MachineTree$Walk", "left", "I"), ("MachineTree", 105, "MachineTree$Walk", "right", "I"), ("MachineTree", 118, "MachineTree$Tree", "open", "I"), ("MachineTree", 121, "MachineTree$Tree", "halted", "I"),
  ("MachineTree", 124, "MachineTree$Tree", "cycling", "I"), ("MachineTree", 127, "MachineTree$Tree", "drifting", "I"), ("MachineTree", 130, "MachineTree$Tree", "bestSteps", "I"), ("MachineTree", 133, "MachineTree$Tree", "bestOnes", "I"),
  ("MachineTree", 136, "MachineTree$Tree", "mostOnes", "I"), ("MachineTree", 141, "MachineTree$Tree", "best", "LMachineTree$Machine;"), ("MachineTree", 149, "MachineTree$Tree", "haltedSteps", "I"), ("MachineTree", 75, "MachineTree$Walk", "outcome", "I"),
  ("MachineTree", 84, "MachineTree$Walk", "steps", "I"), ("MachineTree", 87, "MachineTree$Walk", "period", "I"), ("MachineTree", 90, "MachineTree$Walk", "drift", "I"), ("MachineTree", 93, "MachineTree$Walk", "state", "I"),
  ("MachineTree", 96, "MachineTree$Walk", "head", "I"), ("MachineTree", 99, "MachineTree$Walk", "ones", "I"), ("MachineTree$Tree", 121, "MachineTree$Walk", "head", "I"), ("MachineTree$Tree", 128, "MachineTree$Walk", "state", "I"),
  ("MachineTree$Tree", 52, "MachineTree$Walk", "outcome", "I"), ("MachineTree$Tree", 73, "MachineTree$Walk", "steps", "I"), ("MachineTree$Tree", 79, "MachineTree$Walk", "ones", "I")]
def nestC (q : String × Nat × String × String × String) : Cond := .fieldLinkNest q.1 q.2.1 q.2.2.1 q.2.2.2.1 q.2.2.2.2 "MachineTree"
/-- what every method of ours knows of the machine's tables -/
def gK (g : va_G) (k : kT) (U : State) : Prop := va_K g vwCl (tyL k) U ∧ ∀ q ∈ nestT, va_Nw (nestC q) U
theorem gK.warm {g : va_G} {k : kT} {s U : State} (h : gK g k s) (hW : s.WarmedH U.vm) : gK g k U := ⟨va_K.moved hW.alike h.1, fun q hq => va_Nw.warmF hW (h.2 q hq)⟩
theorem gK.same {g : va_G} {k : kT} {s U : State} (h : gK g k s) (hv : s.vm = U.vm) : gK g k U := ⟨va_K.moved (u := s) (by rw [← hv]; exact Vm.Alike.refl s.vm) h.1, fun q hq => va_Nw.same rfl hv (h.2 q hq)⟩
/-- the start of a method that writes nothing -/
def pPre (g : va_G) (k : kT) (ws : va_W) (av : List Value) : Array Value → State → Prop := va_Pc av (fun U => va_P g vwCl ws U.heap ∧ gK g k U)
/-- the start of a method that writes in its world, or makes cells -/
def mPre (g : va_G) (k : kT) (ws : va_W) (sz : Nat) (av : List Value) : Array Value → State → Prop := va_Pc av (fun U => U.heap.size = sz ∧ va_P g vwCl ws U.heap ∧ gK g k U ∧ va_D (fun _ => True) ws)
theorem pPre_blind {g : va_G} {k : kT} {ws : va_W} {av : List Value} : FrameBlind (pPre g k ws av) := fun a U f mk h => ⟨h.1, h.2.1, gK.same (U := U.calling f mk a) h.2.2 rfl⟩
theorem mPre_blind {g : va_G} {k : kT} {ws : va_W} {sz : Nat} {av : List Value} : FrameBlind (mPre g k ws sz av) := fun a U f mk h => ⟨h.1, h.2.1, h.2.2.1, gK.same (U := U.calling f mk a) h.2.2.2.1 rfl, h.2.2.2.2⟩
/-- the world behind it -/
abbrev mB {S : Type} (g : va_G) (wc : va_W) (sz : Nat) (W1 : S → va_W) (u : S) (t : State) : Prop := va_P g vwCl (W1 u) t.heap ∧ va_D (va_A wc sz) (W1 u)
/-- a contract: reads alone, an int or a boolean -/
abbrev cP (l : Launch) (y : MethodName) (ws : List Cond) (rm : Room) (g : va_G) (k : kT) (wc : va_W) (av : List Value) (post : Int32 → Prop) : Prop := Met l y ws rm (pPre g k wc av) (vp_Si post) 0 0 (fun _ => False)
/-- a contract: void, writes in its world -/
abbrev cV {S : Type} (l : Launch) (y : MethodName) (ws : List Cond) (rm : Room) (g : va_G) (k : kT) (wc : va_W) (sz : Nat) (av : List Value) (mc ms : Nat) (W1 : S → va_W) (post : S → Prop) : Prop := Met l y ws rm (mPre g k wc sz av) (va_Qv post (mB g wc sz W1) (va_A wc sz)) mc ms (va_A wc sz)
/-- a contract: an int or a boolean, writes in its world -/
abbrev cI {S : Type} (l : Launch) (y : MethodName) (ws : List Cond) (rm : Room) (g : va_G) (k : kT) (wc : va_W) (sz : Nat) (av : List Value) (mc ms : Nat) (W1 : S → va_W) (post : Int32 → S → Prop) : Prop := Met l y ws rm (mPre g k wc sz av) (va_Qi post (mB g wc sz W1) (va_A wc sz)) mc ms (va_A wc sz)
section RC
variable {p : Program} {l : Launch} {e : Env} {R : Room} {s : State} {m : MethodId} {args : Array Value} {below : List Frame} {meth : Method} {c : Code} {H : Heap} {locs : List Loc} {cells slots : Nat} {Q : State → Prop}
variable {cc : ByteArray} {pc : Nat} {ls : Array Slot} {rest : List Value} {g : va_G} {k : kT} {y : MethodName} {bytes : ByteArray} {maxL nL n index mc ms : Nat} {ret : Option FieldType} {ws : List Cond} {rm : Room} {Ts : List Cond} {own : String} {b : Nat} {As st0 : List Value} {wa wc wr : va_W} {A0 : Nat → Prop} {H0 : Heap}
theorem rc_P {post : Int32 → Prop} {ci q0 : Nat} {q : vw_C} {fs : List Value} (S : CallFix p m c cc nL s args Ts own) (hM : cP l y ws rm g k wc (.ref b :: As) post) (cw : CallW R s args own q.1 index y bytes maxL ret ws rm 0 0 n)
    (hK : gK g k s) (hP : va_P g vwCl wa H) (isC : List Nat) (hC : isC.filterMap (fun i => wa[i]?) = wc) (hc : vwCl[ci]? = some q) (he : wc[q0]? = some (b, .inr (ci, fs))) (hst : st0 = As.reverse ++ .ref b :: rest) (hn : As.length = n) (hsz : ls.size = nL) (hw : (rest.map fun v => v.category).sum ≤ 8) (hf : cells ≤ R.cells ∧ slots ≤ R.slots) (hdg : decode cc pc = .ok (.invokevirtual index, 3))
    (kk : ∀ r : Int32, post r → W p l e R s m args below meth c H locs cells slots Q (F0 m (pc + 3) ls (.int r :: rest))) : W p l e R s m args below meth c H locs cells slots Q (F0 m pc ls st0) := by
  have hPc := hP.sub isC hC
  exact vp_callSi (va_Run.run (va_runV (As := As) (rest := rest) S hM cw ⟨pPre_blind, va_recv hK.1 hPc hc he, fun U hU hW => ⟨rfl, by rw [hU]; exact hPc, hK.warm hW⟩⟩ rfl hn hsz hst (lv_room hw) hdg hf)) kk
theorem rc_V {S : Type} {W1 : S → va_W} {post : S → Prop} {ci q0 : Nat} {q : vw_C} {fs : List Value} (S0 : CallFix p m c cc nL s args Ts own) (hM : cV l y ws rm g k wc H.size (.ref b :: As) mc ms W1 post) (cw : CallW R s args own q.1 index y bytes maxL ret ws rm mc ms n)
    (hK : gK g k s) (hP : va_P g vwCl wa H) (hD : va_D A0 wa) (hS : va_S A0 H0 H locs) (hA : ∀ q, H0.size ≤ q → A0 q) (isC isR : List Nat) (hC : isC.map (fun i => wa[i]?) = wc.map some) (hCn : va_nd isC = true) (hR : isR.map (fun i => wa[i]?) = wr.map some) (hRn : va_nd isR = true) (hdis : ∀ i ∈ isR, i ∉ isC)
    (hc : vwCl[ci]? = some q) (he : wc[q0]? = some (b, .inr (ci, fs))) (hst : st0 = As.reverse ++ .ref b :: rest) (hn : As.length = n) (hsz : ls.size = nL) (hw : (rest.map fun v => v.category).sum ≤ 8) (hf : cells + mc ≤ R.cells ∧ slots + ms ≤ R.slots) (hdg : decode cc pc = .ok (.invokevirtual index, 3))
    (kk : ∀ (u : S) (H1 : Heap) (locs1 : List Loc), post u → va_P g vwCl (wr ++ W1 u) H1 → va_D A0 (wr ++ W1 u) → va_S A0 H0 H1 locs1 → W p l e R s m args below meth c H1 locs1 (cells + mc) (slots + ms) Q (F0 m (pc + 3) ls rest)) : W p l e R s m args below meth c H locs cells slots Q (F0 m pc ls st0) := by
  have hPc : va_P g vwCl wc H := fun i x hx => by
    have h1 : (isC.map (fun i => wa[i]?))[i]? = some (some x) := by rw [hC, List.getElem?_map, hx]; rfl
    rw [List.getElem?_map] at h1
    cases hi : isC[i]? with
    | none => rw [hi] at h1; cases h1
    | some j => rw [hi] at h1; exact hP j x (Option.some.inj h1)
  have hFc := va_free (wc := wc) hD hS hA isC hC
  refine va_callv (va_runV (As := As) (rest := rest) S0 hM cw ⟨mPre_blind, va_recv hK.1 hPc hc he, fun U hU hW => ⟨rfl, by rw [hU], by rw [hU]; exact hPc, hK.warm hW, (hD.sub isC hCn hC).weaken (fun _ _ _ _ => trivial)⟩⟩ rfl hn hsz hst (lv_room hw) hdg hf) hS (fun q _ h => hFc q h) hFc (fun u t H1 locs1 ht hvm hp hB hz1 hk1 hS1 => ?_)
  obtain ⟨hP1, hD1⟩ := hB
  rw [ht] at hP1
  obtain ⟨hP2, hD2⟩ := va_join (wr := wr) (w1 := W1 u) hP hD isC isR hC hR hRn hdis hk1 hFc hP1 hD1
  exact kk u H1 locs1 hp hP2 hD2 hS1
theorem rc_I {S : Type} {W1 : S → va_W} {post : Int32 → S → Prop} {ci q0 : Nat} {q : vw_C} {fs : List Value} (S0 : CallFix p m c cc nL s args Ts own) (hM : cI l y ws rm g k wc H.size (.ref b :: As) mc ms W1 post) (cw : CallW R s args own q.1 index y bytes maxL ret ws rm mc ms n)
    (hK : gK g k s) (hP : va_P g vwCl wa H) (hD : va_D A0 wa) (hS : va_S A0 H0 H locs) (hA : ∀ q, H0.size ≤ q → A0 q) (isC isR : List Nat) (hC : isC.map (fun i => wa[i]?) = wc.map some) (hCn : va_nd isC = true) (hR : isR.map (fun i => wa[i]?) = wr.map some) (hRn : va_nd isR = true) (hdis : ∀ i ∈ isR, i ∉ isC)
    (hc : vwCl[ci]? = some q) (he : wc[q0]? = some (b, .inr (ci, fs))) (hst : st0 = As.reverse ++ .ref b :: rest) (hn : As.length = n) (hsz : ls.size = nL) (hw : (rest.map fun v => v.category).sum ≤ 8) (hf : cells + mc ≤ R.cells ∧ slots + ms ≤ R.slots) (hdg : decode cc pc = .ok (.invokevirtual index, 3))
    (kk : ∀ (r : Int32) (u : S) (H1 : Heap) (locs1 : List Loc), post r u → va_P g vwCl (wr ++ W1 u) H1 → va_D A0 (wr ++ W1 u) → va_S A0 H0 H1 locs1 → W p l e R s m args below meth c H1 locs1 (cells + mc) (slots + ms) Q (F0 m (pc + 3) ls (.int r :: rest))) : W p l e R s m args below meth c H locs cells slots Q (F0 m pc ls st0) := by
  have hPc : va_P g vwCl wc H := fun i x hx => by
    have h1 : (isC.map (fun i => wa[i]?))[i]? = some (some x) := by rw [hC, List.getElem?_map, hx]; rfl
    rw [List.getElem?_map] at h1
    cases hi : isC[i]? with
    | none => rw [hi] at h1; cases h1
    | some j => rw [hi] at h1; exact hP j x (Option.some.inj h1)
  have hFc := va_free (wc := wc) hD hS hA isC hC
  refine va_calli (va_runV (As := As) (rest := rest) S0 hM cw ⟨mPre_blind, va_recv hK.1 hPc hc he, fun U hU hW => ⟨rfl, by rw [hU], by rw [hU]; exact hPc, hK.warm hW, (hD.sub isC hCn hC).weaken (fun _ _ _ _ => trivial)⟩⟩ rfl hn hsz hst (lv_room hw) hdg hf) hS (fun q _ h => hFc q h) hFc (fun r u t H1 locs1 ht hvm hp hB hz1 hk1 hS1 => ?_)
  obtain ⟨hP1, hD1⟩ := hB
  rw [ht] at hP1
  obtain ⟨hP2, hD2⟩ := va_join (wr := wr) (w1 := W1 u) hP hD isC isR hC hR hRn hdis hk1 hFc hP1 hD1
  exact kk r u H1 locs1 hp hP2 hD2 hS1
/-- a static one -/
theorem rc_SV {S : Type} {W1 : S → va_W} {post : S → Prop} (S0 : CallFix p m c cc nL s args Ts own) (hM : cV l y ws rm g k wc H.size As mc ms W1 post) (cw : CallB R s args own index y bytes maxL ret ws rm mc ms n ∧ (Cond.static y).before args s = true)
    (hK : gK g k s) (hP : va_P g vwCl wa H) (hD : va_D A0 wa) (hS : va_S A0 H0 H locs) (hA : ∀ q, H0.size ≤ q → A0 q) (isC isR : List Nat) (hC : isC.map (fun i => wa[i]?) = wc.map some) (hCn : va_nd isC = true) (hR : isR.map (fun i => wa[i]?) = wr.map some) (hRn : va_nd isR = true) (hdis : ∀ i ∈ isR, i ∉ isC)
    (hst : st0 = As.reverse ++ rest) (hn : As.length = n) (hsz : ls.size = nL) (hw : (rest.map fun v => v.category).sum ≤ 8) (hf : cells + mc ≤ R.cells ∧ slots + ms ≤ R.slots) (hdg : decode cc pc = .ok (.invokestatic index, 3))
    (kk : ∀ (u : S) (H1 : Heap) (locs1 : List Loc), post u → va_P g vwCl (wr ++ W1 u) H1 → va_D A0 (wr ++ W1 u) → va_S A0 H0 H1 locs1 → W p l e R s m args below meth c H1 locs1 (cells + mc) (slots + ms) Q (F0 m (pc + 3) ls rest)) : W p l e R s m args below meth c H locs cells slots Q (F0 m pc ls st0) := by
  have hPc : va_P g vwCl wc H := fun i x hx => by
    have h1 : (isC.map (fun i => wa[i]?))[i]? = some (some x) := by rw [hC, List.getElem?_map, hx]; rfl
    rw [List.getElem?_map] at h1
    cases hi : isC[i]? with
    | none => rw [hi] at h1; cases h1
    | some j => rw [hi] at h1; exact hP j x (Option.some.inj h1)
  have hFc := va_free (wc := wc) hD hS hA isC hC
  refine va_callv (va_runS (As := As) (rest := rest) S0 hM cw ⟨mPre_blind, fun U hU hW => ⟨rfl, by rw [hU], by rw [hU]; exact hPc, hK.warm hW, (hD.sub isC hCn hC).weaken (fun _ _ _ _ => trivial)⟩⟩ rfl hn hsz hst (lv_room hw) hdg hf) hS (fun q _ h => hFc q h) hFc (fun u t H1 locs1 ht hvm hp hB hz1 hk1 hS1 => ?_)
  obtain ⟨hP1, hD1⟩ := hB
  rw [ht] at hP1
  obtain ⟨hP2, hD2⟩ := va_join (wr := wr) (w1 := W1 u) hP hD isC isR hC hR hRn hdis hk1 hFc hP1 hD1
  exact kk u H1 locs1 hp hP2 hD2 hS1
/-- a constructor -/
theorem rc_C {S : Type} {W1 : S → va_W} {post : S → Prop} (S0 : CallFix p m c cc nL s args Ts own) (hM : cV l y ws rm g k wc H.size (.ref b :: As) mc ms W1 post) (cw : CallB R s args own index y bytes maxL none ws rm mc ms n ∧ y.name = "<init>" ∧ (Cond.instanceMethod y).before args s = true)
    (hK : gK g k s) (hP : va_P g vwCl wa H) (hD : va_D A0 wa) (hS : va_S A0 H0 H locs) (hA : ∀ q, H0.size ≤ q → A0 q) (isC isR : List Nat) (hC : isC.map (fun i => wa[i]?) = wc.map some) (hCn : va_nd isC = true) (hR : isR.map (fun i => wa[i]?) = wr.map some) (hRn : va_nd isR = true) (hdis : ∀ i ∈ isR, i ∉ isC)
    (hst : st0 = As.reverse ++ .ref b :: rest) (hn : As.length = n) (hsz : ls.size = nL) (hw : (rest.map fun v => v.category).sum ≤ 8) (hf : cells + mc ≤ R.cells ∧ slots + ms ≤ R.slots) (hdg : decode cc pc = .ok (.invokespecial index, 3))
    (kk : ∀ (u : S) (H1 : Heap) (locs1 : List Loc), post u → va_P g vwCl (wr ++ W1 u) H1 → va_D A0 (wr ++ W1 u) → va_S A0 H0 H1 locs1 → W p l e R s m args below meth c H1 locs1 (cells + mc) (slots + ms) Q (F0 m (pc + 3) ls rest)) : W p l e R s m args below meth c H locs cells slots Q (F0 m pc ls st0) := by
  have hPc : va_P g vwCl wc H := fun i x hx => by
    have h1 : (isC.map (fun i => wa[i]?))[i]? = some (some x) := by rw [hC, List.getElem?_map, hx]; rfl
    rw [List.getElem?_map] at h1
    cases hi : isC[i]? with
    | none => rw [hi] at h1; cases h1
    | some j => rw [hi] at h1; exact hP j x (Option.some.inj h1)
  have hFc := va_free (wc := wc) hD hS hA isC hC
  refine va_callv (va_runI (As := As) (rest := rest) S0 hM cw ⟨mPre_blind, fun U hU hW => ⟨rfl, by rw [hU], by rw [hU]; exact hPc, hK.warm hW, (hD.sub isC hCn hC).weaken (fun _ _ _ _ => trivial)⟩⟩ rfl hn hsz hst (lv_room hw) hdg hf) hS (fun q _ h => hFc q h) hFc (fun u t H1 locs1 ht hvm hp hB hz1 hk1 hS1 => ?_)
  obtain ⟨hP1, hD1⟩ := hB
  rw [ht] at hP1
  obtain ⟨hP2, hD2⟩ := va_join (wr := wr) (w1 := W1 u) hP hD isC isR hC hR hRn hdis hk1 hFc hP1 hD1
  exact kk u H1 locs1 hp hP2 hD2 hS1
end RC
