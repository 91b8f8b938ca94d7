/-! THE LAW'S OWN METHODS: what they know, how they begin, how they are called -/
def xIA : String := "java/lang/IllegalArgumentException"
def lG (U : State) : Prop := va_Nw (.castable "java/lang/IllegalArgumentException" "java/lang/IllegalArgumentException") U ∧ va_Nw (.castable "java/lang/IllegalStateException" "java/lang/IllegalStateException") U ∧ va_Nc "java/lang/IllegalStateException" "java/lang/IllegalArgumentException" U
theorem lG.warm {s U : State} (h : lG s) (hW : s.WarmedH U.vm) : lG U := ⟨va_Nw.warmC hW h.1, va_Nw.warmC hW h.2.1, va_Nc.moved hW.alike h.2.2⟩
theorem lG.same {s U : State} (h : lG s) (hv : s.vm = U.vm) : lG U := ⟨va_Nw.same rfl hv h.1, va_Nw.same rfl hv h.2.1, va_Nc.moved (u := s) (by rw [← hv]; exact Vm.Alike.refl s.vm) h.2.2⟩
def lPre (g : va_G) (k : kT) (ws : va_W) (sz : Nat) (av : List Value) : Array Value → State → Prop := va_Pc av (fun U => U.heap.size = sz ∧ va_P g vwCl ws U.heap ∧ gK g k U ∧ va_D (fun _ => True) ws ∧ gE U ∧ gH (va_A ws sz) U U.heap ∧ lG U)
theorem lPre_blind {g : va_G} {k : kT} {ws : va_W} {sz : Nat} {av : List Value} : FrameBlind (lPre g k ws sz av) := fun a U f mk h => ⟨h.1, h.2.1, h.2.2.1, gK.same (U := U.calling f mk a) h.2.2.2.1 rfl, h.2.2.2.2.1, gE.same (U := U.calling f mk a) h.2.2.2.2.2.1 rfl, gH.moved (U := U.calling f mk a) h.2.2.2.2.2.2.1 (Vm.Alike.refl U.vm), lG.same (U := U.calling f mk a) h.2.2.2.2.2.2.2 rfl⟩
abbrev cL {S : Type} (l : Launch) (y : MethodName) (ws : List Cond) (rm : Room) (g : va_G) (k : kT) (wc : va_W) (sz : Nat) (av : List Value) (W1 : S → va_W) (post : Int32 → S → Prop) : Prop := vx_Met l y ws rm (lPre g k wc sz av) (va_Qi post (mB g wc sz W1) (va_A wc sz)) (vx_X (fun _ : Unit => True) (fun _ _ _ => False) (va_A wc sz)) 1 6 (va_A wc sz)
theorem sl_I {l : Launch} {y : MethodName} {ws ws' : List Cond} {rm : Room} {g : va_G} {k : kT} {wc : va_W} {sz : Nat} {av : List Value} {cc : ByteArray} {maxL : Nat} {hh : List (Nat × Nat × Nat × Nat)} {S : Type} {W1 : S → va_W} {post : Int32 → S → Prop} (hy : plainName y.cls = true) (hyc : y.cls = RL) (hw : ws = Cond.codeWith y cc maxL (some .int) hh :: ws') (hen : (lg_sl av).length ≤ maxL)
    (body : ∀ (p : Program) (e : Env) (s : State) (m : MethodId) (below : List Frame) (meth : Method) (c : Code) (Q : State → Prop) (A : Nat → Prop), p.tables.exec = Jvm.exec → c.code = cc → c.maxLocals = maxL → s.vm.findClass RL = some m.cls → (∀ w ∈ ws, w.before av.toArray s = true) → (∀ q, s.heap.size ≤ q → A q) → va_P g vwCl wc s.heap → va_D A wc → va_S A s.heap s.heap [] → gK g k s → gE s → gH A s s.heap → lG s → c.exceptionTable.toList = tableOf hh →
      (∀ (v : Int32) (u : S) (H : Heap) (locs : List Loc) (pc c0 s0 : Nat) (ls : Array Slot), decode cc pc = .ok (.ireturn, 1) → c0 ≤ 1 ∧ s0 ≤ 6 → post v u → va_P g vwCl (W1 u) H → va_D A (W1 u) → va_S A s.heap H locs → W p l e rm s m av.toArray below meth c H locs c0 s0 Q (F0 m pc ls [.int v])) →
      ∀ ls : Array Slot, lv_has ls maxL (lv_args 0 av) → W p l e rm s m av.toArray below meth c s.heap [] 0 0 Q (F0 m 0 ls [])) : cL l y ws rm g k wc sz av W1 post := by
  refine vx_ofWH (cc := cc) (maxL := maxL) (ret := some .int) hy hw ?_
  intro p e s m args below meth c s₁ B hml hv
  obtain ⟨rfl, rfl, hP, hK, hD0, hE, hH, hG⟩ := hv
  have hlocks := B.notSynchronized
  have hr := B.returns
  have hts := atoms_spec (ws := ws) B.pre
  have hown : s.vm.findClass RL = some m.cls := by rw [← hyc]; exact findClass_of_methodNamed B.named
  have hmem : Cond.codeWith y cc maxL (some .int) hh ∈ ws := by rw [hw]; exact List.mem_cons_self
  have htab := vx_table (x := y) B (hts _ hmem)
  rw [lg_entry_eq]
  exact body p e s m below meth c _ (va_A wc s.heap.size) B.exec B.bytes hml hown hts (fun q h => Or.inr h) hP hD0.self va_S.rf hK hE hH hG htab
    (fun v u H locs pc c0 s0 ls d hcs hp hP hD hS => W.widen (k := 1) (n := 6) hcs.1 hcs.2 (vx_ret (W.iret (v := v) B.exec B.bytes hr (fun t ht hW => ⟨⟨v, u, rfl, hp, by rw [ht]; exact hP, hD⟩, hS.F ht⟩) hS.2.2 d)))
    _ (lv_entry av hen)
section RLI
variable {p : Program} {l : Launch} {e : Env} {R : Room} {s : State} {m : MethodId} {args : Array Value} {below : List Frame} {meth : Method} {c : Code} {H : Heap} {locs : List Loc} {cells slots : Nat} {Q : State → Prop}
variable {cc : ByteArray} {pc : Nat} {ls : Array Slot} {rest : List Value} {g : va_G} {k : kT} {y : MethodName} {bytes : ByteArray} {maxL nL n index : Nat} {ret : Option FieldType} {ws : List Cond} {rm : Room} {Ts : List Cond} {own : String} {As st0 : List Value} {wa wc wr : va_W} {A0 : Nat → Prop} {H0 : Heap} {hh : List (Nat × Nat × Nat × Nat)}
/-- a call of one of the law's own methods that catch -/
theorem rl_I {S : Type} {W1 : S → va_W} {post : Int32 → S → Prop} (S0 : CallFix p m c cc nL s args Ts own) (hM : cL l y ws rm g k wc H.size As W1 post) (cw : vx_CSW R s args own index y bytes maxL ret hh ws rm 1 6 n)
    (hK : gK g k s) (hE : gE s) (hG : lG s) (hH : gH A0 s H0) (hP : va_P g vwCl wa H) (hD : va_D A0 wa) (hS : va_S A0 H0 H locs) (hA : ∀ q, H0.size ≤ q → A0 q) (isC isR : List Nat) (hC : isC.map (fun i => wa[i]?) = wc.map some) (hCn : va_nd isC = true) (hR : isR.map (fun i => wa[i]?) = wr.map some) (hRn : va_nd isR = true) (hdis : ∀ i ∈ isR, i ∉ isC)
    (hst : st0 = As.reverse ++ rest) (hn : As.length = n) (hsz : ls.size = nL) (hw : (rest.map fun v => v.category).sum ≤ 8) (hf : cells + 1 ≤ R.cells ∧ slots + 6 ≤ R.slots) (hdg : decode cc pc = .ok (.invokestatic index, 3))
    (kk : ∀ (r : Int32) (u : S) (H1 : Heap) (locs1 : List Loc), post r u → va_P g vwCl (wr ++ W1 u) H1 → va_D A0 (wr ++ W1 u) → va_S A0 H0 H1 locs1 → W p l e R s m args below meth c H1 locs1 (cells + 1) (slots + 6) Q (F0 m (pc + 3) ls (.int r :: rest))) : W p l e R s m args below meth c H locs cells slots Q (F0 m pc ls st0) := by
  have hPc := P_of hP isC hC
  have hFc := va_free (wc := wc) hD hS hA isC hC
  refine vx_calli (vx_runSX (As := As) (rest := rest) S0 hM cw ⟨lPre_blind, fun U hU hW => ⟨rfl, by rw [hU], by rw [hU]; exact hPc, hK.warm hW, (hD.sub isC hCn hC).weaken (fun _ _ _ _ => trivial), hE.warm hW, by rw [hU]; exact ((hH.moved hW.alike).kept hS.2.1).narrow hFc, hG.warm hW⟩⟩ rfl hn hsz hst (lv_room hw) hdg hf) hS (fun q _ h => hFc q h) hFc (fun q _ h => hFc q h) (fun E ce q9 u t H1 locs1 ht hvm _ hB hz1 hk1 hS1 h1 h2 h3 => hB.elim) (fun r u t H1 locs1 ht hvm hp hB hz1 hk1 hS1 => ?_)
  obtain ⟨hP1, hD1⟩ := hB
  rw [ht] at hP1
  obtain ⟨hP2, hD2⟩ := va_join (wr := wr) (w1 := W1 u) hP hD isC isR hC hR hRn hdis hk1 hFc hP1 hD1
  exact kk r u H1 locs1 hp hP2 hD2 hS1
/-- the script -/
theorem ri_slen {b L : Nat} {xs : Nat → Int32} (hexec : p.tables.exec = Jvm.exec) (hb : c.code = cc) (hX : va_X b L xs s H0) (hbl : b < H0.size) (hbA : ¬ A0 b) (hS : va_S A0 H0 H locs) (hdg : decode cc pc = .ok (.arraylength, 1))
    (kk : W p l e R s m args below meth c H locs cells slots Q (F0 m (pc + 1) ls (.int (iI (L : Int)) :: rest))) : W p l e R s m args below meth c H locs cells slots Q (F0 m pc ls (.ref b :: rest)) := by
  rw [← iI_n] at kk
  exact va_slen hexec hb hX hbl hbA hS hdg kk
end RLI
def xI (xs : Nat → Int32) : Int → Int := fun j => (xs j.toNat).toInt
theorem xI_rg (xs : Nat → Int32) (j : Int) : -2147483648 ≤ xI xs j ∧ xI xs j < 2147483648 := iI_rg _
section RLS
variable {p : Program} {l : Launch} {e : Env} {R : Room} {s : State} {m : MethodId} {args : Array Value} {below : List Frame} {meth : Method} {c : Code} {H : Heap} {locs : List Loc} {cells slots : Nat} {Q : State → Prop}
variable {cc : ByteArray} {pc : Nat} {ls : Array Slot} {rest : List Value} {A0 : Nat → Prop} {H0 : Heap}
theorem ri_sld {b L : Nat} {xs : Nat → Int32} {i : Int} (hexec : p.tables.exec = Jvm.exec) (hb : c.code = cc) (hX : va_X b L xs s H0) (hbl : b < H0.size) (hbA : ¬ A0 b) (hS : va_S A0 H0 H locs) (hin : 0 ≤ i ∧ i < (L : Int)) (hL : L < 2147483648) (hdg : decode cc pc = .ok (.iaload, 1))
    (kk : W p l e R s m args below meth c H locs cells slots Q (F0 m (pc + 1) ls (.int (iI (xI xs i)) :: rest))) : W p l e R s m args below meth c H locs cells slots Q (F0 m pc ls (.int (iI i) :: .ref b :: rest)) := by
  refine va_sld hexec hb hX hbl hbA hS (iI_in hin hL) hdg ?_
  rw [iI_cl (by omega), show xs i.toNat = iI (xI xs i) from iI_of _]
  exact kk
end RLS
def sv0 (L : Nat) (xs : Nat → Int32) : Int := if L = 0 then 0 else xI xs 0
theorem l_cell (l : Launch) (b L : Nat) (xs : Nat → Int32) (hL : L ≤ 2049) : Met l yL_cell wsL_cell rm_0 (va_Pc [.ref b, .int (iI 0)] (fun U => va_X b L xs U U.heap)) (vp_Si (fun r => r = iI (sv0 L xs))) 0 0 (fun _ => False) := by
  refine Met.ofW (cc := cL_cell) (maxL := 2) (ret := some .int) (by decide) rfl ?_
  intro p e s m args below meth c s₁ B hml hv
  obtain ⟨rfl, hX⟩ := hv
  have hlocks := B.notSynchronized
  have hr := B.returns
  have hx := B.exec
  have hb := B.bytes
  have hbl : b < s.heap.size := by
    obtain ⟨scr, h1, -⟩ := hX
    exact (Array.getElem?_eq_some_iff.mp h1).1
  have hS : va_S (fun _ => False) s.heap s.heap [] := va_S.rf
  rw [lg_entry_eq]
  have hl := lv_entry ([.ref b, .int (iI 0)]) (n := 2) (Nat.le_of_ble_eq_true rfl)
  generalize (lg_sl ([.ref b, .int (iI 0)]) ++ List.replicate (2 - (lg_sl ([.ref b, .int (iI 0)])).length) Slot.unset).toArray = ls at hl ⊢
  have hl : lv_has ls 2 [(0, .ref b), (1, .int (iI 0))] := hl
  refine lv_iload_n hx hb dL_cell_0 rfl (lv_at hl 1 rfl) ?_
  refine lv_aload_n hx hb dL_cell_1 rfl (lv_at hl 0 rfl) ?_
  refine ri_slen hx hb hX hbl (fun h => h) hS dL_cell_2 ?_
  refine ri_icmp_ge (a := 0) (b := (L : Int)) (tgt := 12) hx hb (by omega) (by omega) dL_cell_3 (by decide) (fun c3 => ?_) (fun c3 => ?_)
  · refine lv_iconst (v := iI 0) hx hb dL_cell_12 rfl ?_
    exact W.iret (v := iI 0) hx hb hr (fun t ht hW => ⟨iI 0, rfl, by unfold sv0; rw [if_pos (by omega)], ht⟩) (fun q hq => by cases hq) dL_cell_13
  · refine lv_aload_n hx hb dL_cell_6 rfl (lv_at hl 0 rfl) ?_
    refine lv_iload_n hx hb dL_cell_7 rfl (lv_at hl 1 rfl) ?_
    refine ri_sld hx hb hX hbl (fun h => h) hS (by omega) (by omega) dL_cell_8 ?_
    refine lv_goto (tgt := 13) hx hb dL_cell_9 (by decide) ?_
    exact W.iret (v := iI (xI xs 0)) hx hb hr (fun t ht hW => ⟨iI (xI xs 0), rfl, by unfold sv0; rw [if_neg (by omega)], ht⟩) (fun q hq => by cases hq) dL_cell_13
section RLC
variable {p : Program} {l : Launch} {e : Env} {R : Room} {s : State} {m : MethodId} {args : Array Value} {below : List Frame} {meth : Method} {c : Code} {H : Heap} {locs : List Loc} {cells slots : Nat} {Q : State → Prop}
variable {cc : ByteArray} {pc : Nat} {ls : Array Slot} {rest st0 : List Value} {A0 : Nat → Prop} {nL : Nat} {Ts : List Cond}
/-- a call of cell(script, 0) -/
theorem rl_cell {b L : Nat} {xs : Nat → Int32} (S0 : CallFix p m c cc nL s args Ts RL) (hL : L ≤ 2049) (hT : GoodIn Ts (va_wsS RL 44 yL_cell wsL_cell)) (hX : va_X b L xs s s.heap) (hbl : b < s.heap.size) (hbA : ¬ A0 b) (hS : va_S A0 s.heap H locs) (hR : 1 ≤ R.frames ∧ 21 ≤ R.locals) (hst : st0 = .int (iI 0) :: .ref b :: rest) (hsz : ls.size = nL) (hw : (rest.map fun v => v.category).sum ≤ 8) (hf : cells ≤ R.cells ∧ slots ≤ R.slots) (hdg : decode cc pc = .ok (.invokestatic 44, 3))
    (kk : W p l e R s m args below meth c H locs cells slots Q (F0 m (pc + 3) ls (.int (iI (sv0 L xs)) :: rest))) : W p l e R s m args below meth c H locs cells slots Q (F0 m pc ls st0) := by
  refine vp_callSi (va_Run.run (va_runS (As := [.ref b, .int (iI 0)]) (rest := rest) S0 (l_cell l b L xs hL) (va_cwS 2 S0.2.2.2.2 hT rfl rfl rfl (by decide +kernel) ⟨hR.1, hR.2⟩) ⟨fun a U f mk h => ⟨h.1, va_X.moved (u := U) (U := U.calling f mk a) (Vm.Alike.refl U.vm) h.2⟩, fun U hU hW => ⟨rfl, by show va_X b L xs U U.heap; rw [hU]; exact (va_X.moved hW.alike hX).kept (hS.2.1 b hbl hbA)⟩⟩ rfl rfl hsz hst (lv_room hw) hdg hf)) (fun r hr => ?_)
  rw [hr]
  exact kk
end RLC
