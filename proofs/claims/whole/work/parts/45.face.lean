/-! A CONTRACT whose answer is a float -/
abbrev cF {S : Type} (l : Launch) (y : MethodName) (ws : List Cond) (rm : Room) (g : va_G) (k : kT) (wc : va_W) (sz : Nat) (av : List Value) (mc ms : Nat) (W1 : S → va_W) (post : UInt32 → S → Prop) : Prop := Met l y ws rm (mPre g k wc sz av) (va_Qf post (mB g wc sz W1) (va_A wc sz)) mc ms (va_A wc sz)
section RCF
variable {p : Program} {l : Launch} {e : Env} {R : Room} {s : State} {m : MethodId} {args : Array Value} {below : List Frame} {meth : Method} {c : Code} {H : Heap} {locs : List Loc} {cells slots : Nat} {Q : State → Prop}
variable {cc : ByteArray} {pc : Nat} {ls : Array Slot} {rest : List Value} {g : va_G} {k : kT} {y : MethodName} {bytes : ByteArray} {maxL nL n index mc ms : Nat} {ret : Option FieldType} {ws : List Cond} {rm : Room} {Ts : List Cond} {own : String} {b : Nat} {As st0 : List Value} {wa wc wr : va_W} {A0 : Nat → Prop} {H0 : Heap}
theorem rc_F {S : Type} {W1 : S → va_W} {post : UInt32 → S → Prop} {ci q0 : Nat} {q : vw_C} {fs : List Value} (S0 : CallFix p m c cc nL s args Ts own) (hM : cF l y ws rm g k wc H.size (.ref b :: As) mc ms W1 post) (cw : CallW R s args own q.1 index y bytes maxL ret ws rm mc ms n)
    (hK : gK g k s) (hP : va_P g vwCl wa H) (hD : va_D A0 wa) (hS : va_S A0 H0 H locs) (hA : ∀ q, H0.size ≤ q → A0 q) (isC isR : List Nat) (hC : isC.map (fun i => wa[i]?) = wc.map some) (hCn : va_nd isC = true) (hR : isR.map (fun i => wa[i]?) = wr.map some) (hRn : va_nd isR = true) (hdis : ∀ i ∈ isR, i ∉ isC)
    (hc : vwCl[ci]? = some q) (he : wc[q0]? = some (b, .inr (ci, fs))) (hst : st0 = As.reverse ++ .ref b :: rest) (hn : As.length = n) (hsz : ls.size = nL) (hw : (rest.map fun v => v.category).sum ≤ 8) (hf : cells + mc ≤ R.cells ∧ slots + ms ≤ R.slots) (hdg : decode cc pc = .ok (.invokevirtual index, 3))
    (kk : ∀ (r : UInt32) (u : S) (H1 : Heap) (locs1 : List Loc), post r u → va_P g vwCl (wr ++ W1 u) H1 → va_D A0 (wr ++ W1 u) → va_S A0 H0 H1 locs1 → W p l e R s m args below meth c H1 locs1 (cells + mc) (slots + ms) Q (F0 m (pc + 3) ls (.float r :: rest))) : W p l e R s m args below meth c H locs cells slots Q (F0 m pc ls st0) := by
  have hPc : va_P g vwCl wc H := fun i x hx => by
    have h1 : (isC.map (fun i => wa[i]?))[i]? = some (some x) := by rw [hC, List.getElem?_map, hx]; rfl
    rw [List.getElem?_map] at h1
    cases hi : isC[i]? with
    | none => rw [hi] at h1; cases h1
    | some j => rw [hi] at h1; exact hP j x (Option.some.inj h1)
  have hFc := va_free (wc := wc) hD hS hA isC hC
  refine va_callf (va_runV (As := As) (rest := rest) S0 hM cw ⟨mPre_blind, va_recv hK.1 hPc hc he, fun U hU hW => ⟨rfl, by rw [hU], by rw [hU]; exact hPc, hK.warm hW, (hD.sub isC hCn hC).weaken (fun _ _ _ _ => trivial)⟩⟩ rfl hn hsz hst (lv_room hw) hdg hf) hS (fun q _ h => hFc q h) hFc (fun r u t H1 locs1 ht hvm hp hB hz1 hk1 hS1 => ?_)
  obtain ⟨hP1, hD1⟩ := hB
  rw [ht] at hP1
  obtain ⟨hP2, hD2⟩ := va_join (wr := wr) (w1 := W1 u) hP hD isC isR hC hR hRn hdis hk1 hFc hP1 hD1
  exact kk r u H1 locs1 hp hP2 hD2 hS1
end RCF
theorem st_F {S : Type} {l : Launch} {y : MethodName} {ws ws' : List Cond} {rm : Room} {g : va_G} {k : kT} {wc : va_W} {sz mc ms : Nat} {av : List Value} {W1 : S → va_W} {post : UInt32 → S → Prop} {cc : ByteArray} {maxL : Nat}
    (hy : plainName y.cls = true) (hw : ws = Cond.code y cc maxL (some .float) :: ws') (hen : (lg_sl av).length ≤ maxL)
    (body : ∀ (p : Program) (e : Env) (s : State) (m : MethodId) (below : List Frame) (meth : Method) (c : Code) (Q : State → Prop) (A : Nat → Prop), p.tables.exec = Jvm.exec → c.code = cc → c.maxLocals = maxL → s.vm.findClass y.cls = some m.cls → (∀ w ∈ ws, w.before av.toArray s = true) → (∀ q, s.heap.size ≤ q → A q) → va_P g vwCl wc s.heap → va_D A wc → va_S A s.heap s.heap [] → gK g k s →
      (∀ (v : UInt32) (u : S) (H : Heap) (locs : List Loc) (pc : Nat) (ls : Array Slot), decode cc pc = .ok (.freturn, 1) → post v u → va_P g vwCl (W1 u) H → va_D A (W1 u) → va_S A s.heap H locs → W p l e rm s m av.toArray below meth c H locs mc ms Q (F0 m pc ls [.float v])) →
      ∀ ls : Array Slot, lv_has ls maxL (lv_args 0 av) → W p l e rm s m av.toArray below meth c s.heap [] 0 0 Q (F0 m 0 ls [])) : cF l y ws rm g k wc sz av mc ms W1 post := by
  refine Met.ofW (cc := cc) (maxL := maxL) (ret := some .float) hy hw ?_
  intro p e s m args below meth c s₁ B hml hv
  obtain ⟨rfl, rfl, hP, hK, hD0⟩ := hv
  have hlocks := B.notSynchronized
  have hr := B.returns
  rw [lg_entry_eq]
  exact body p e s m below meth c _ (va_A wc s.heap.size) B.exec B.bytes hml (findClass_of_methodNamed B.named) (atoms_spec (ws := ws) B.pre) (fun q h => Or.inr h) hP hD0.self va_S.rf hK
    (fun v u H locs pc ls d hp hP hD hS => W.fret (v := v) B.exec B.bytes hr (fun t ht hW => ⟨⟨v, u, rfl, hp, by rw [ht]; exact hP, hD⟩, hS.F ht⟩) hS.2.2 d) _ (lv_entry av hen)
/-! THE REFERENCE: its face, but for grow -/
set_option maxHeartbeats 4000000 in
set_option maxRecDepth 100000 in
theorem r_set (l : Launch) (g : va_G) (k : kT) (y : Nat → Nat) (thr n st pe dr lf rt ra dp ov bs bo mo su : Int) (cs : Int → Int) (sz : Nat) (st9 sy co : Int) (hn : 2 ≤ n ∧ n ≤ 4) (hr : (-2147483648 ≤ st9 ∧ st9 < 2147483648) ∧ (-2147483648 ≤ sy ∧ sy < 2147483648) ∧ (-2147483648 ≤ co ∧ co < 2147483648)) : cI l yX4_set wsX4_set rm_1 g k [yO y thr n st pe dr lf rt ra dp ov bs bo mo su, ((y 1), .inl (k.1, 8, .inl (iF cs)))] sz [.ref (y 0), .int (iI st9), .int (iI sy), .int (iI co)] 0 0 (fun u : Int × Int × (Int → Int) => [yO y u.1 n st pe dr lf rt u.2.1 dp ov bs bo mo su, ((y 1), .inl (k.1, 8, .inl (iF u.2.2)))]) (fun r u => (((0 ≤ st9 ∧ st9 < n ∧ (sy = 0 ∨ sy = 1)) ∧ (-1 ≤ co ∧ co < 4 * n)) ∧ r = iI (cs (2 * st9 + sy)) ∧ u = (0, 0, up cs (2 * st9 + sy) co)) ∨ (¬ ((0 ≤ st9 ∧ st9 < n ∧ (sy = 0 ∨ sy = 1)) ∧ (-1 ≤ co ∧ co < 4 * n)) ∧ r = iI 0 ∧ u = (1, ra, cs))) := by
  refine st_I (by decide) rfl (Nat.le_of_ble_eq_true rfl) ?_
  intro p e s m below meth c Q A hx hb hml hown hts hA hP hD hS hK hret ls hl
  have hown : s.vm.findClass RX4 = some m.cls := hown
  have f59 := hts (.fieldLink RX4 59 "MachineTreeModel" "thrown" "I") (by decide +kernel)
  have inX4 := (by decide +kernel : ∀ w ∈ wsX40, w ∈ wsX4_set)
  have f56 := hts (.fieldLink RX4 56 "MachineTreeModel" "n" "I") (by decide +kernel)
  have f7 := hts (.fieldLink RX4 7 "MachineTreeModel" "machine" "[I") (by decide +kernel)
  have f66 := hts (.fieldLink RX4 66 "MachineTreeModel" "ran" "Z") (by decide +kernel)
  have hl : lv_has ls 5 [(0, .ref (y 0)), (1, .int (iI st9)), (2, .int (iI sy)), (3, .int (iI co))] := hl
  obtain ⟨H, hH⟩ : ∃ H, H = s.heap := ⟨_, rfl⟩
  obtain ⟨locs, hlo⟩ : ∃ L : List Loc, L = [] := ⟨_, rfl⟩
  rw [← hH] at hP
  have hS : va_S A s.heap H locs := by rw [hH, hlo]; exact hS
  rw [show W p l e rm_1 s m ([.ref (y 0), .int (iI st9), .int (iI sy), .int (iI co)] : List Value).toArray below meth c s.heap [] 0 0 Q (F0 m 0 ls []) = W p l e rm_1 s m ([.ref (y 0), .int (iI st9), .int (iI sy), .int (iI co)] : List Value).toArray below meth c H locs 0 0 Q (F0 m 0 ls []) by rw [hH, hlo]]
  clear hH hlo
  refine lv_aload_n hx hb dX4_set_0 rfl (lv_at hl 0 rfl) ?_
  refine lv_iconst (v := iI 0) hx hb dX4_set_1 rfl ?_
  refine va_put (D := g) (ci := 4) (v := .int (iI 0)) (ty := .int) (C := RX4) (T := TX4) (N := 28) hx hb hts inX4 tyX4 tyX4_ok nmX4 hown hK.1 hP hD hS 0 rfl rfl 0 (by decide) f59 (fun _ h9 => h9) rfl (by decide +kernel) rfl rfl (Nat.le_of_ble_eq_true rfl) dX4_set_2 (fun H locs hP hD hS => ?_)
  have hP : va_P g vwCl [((y 0), .inr (4, [.int (iI 0), .int (iI n), .ref (y 1), .ref (y 2), .ref (y 3), .ref (y 4), .ref (y 5), .ref (y 6), .ref (y 7), .ref (y 8), .ref (y 9), .int (iI st), .int (iI pe), .int (iI dr), .int (iI lf), .int (iI rt), .int (iI ra), .ref (y 10), .ref (y 11), .int (iI dp), .ref (y 12), .ref (y 13), .int (iI ov), .ref (y 14), .int (iI bs), .int (iI bo), .int (iI mo), .int (iI su)])), ((y 1), .inl (k.1, 8, .inl (iF cs)))] H := hP
  have hD : va_D A [((y 0), .inr (4, [.int (iI 0), .int (iI n), .ref (y 1), .ref (y 2), .ref (y 3), .ref (y 4), .ref (y 5), .ref (y 6), .ref (y 7), .ref (y 8), .ref (y 9), .int (iI st), .int (iI pe), .int (iI dr), .int (iI lf), .int (iI rt), .int (iI ra), .ref (y 10), .ref (y 11), .int (iI dp), .ref (y 12), .ref (y 13), .int (iI ov), .ref (y 14), .int (iI bs), .int (iI bo), .int (iI mo), .int (iI su)])), ((y 1), .inl (k.1, 8, .inl (iF cs)))] := hD
  refine lv_iload_n hx hb dX4_set_5 rfl (lv_at hl 1 rfl) ?_
  refine ri_if_lt (a := st9) (tgt := 41) hx hb (by omega) dX4_set_6 (by decide) (fun c6 => ?_) (fun c6 => ?_)
  · skip
    refine lv_aload_n hx hb dX4_set_41 rfl (lv_at hl 0 rfl) ?_
    refine lv_iconst (v := iI 1) hx hb dX4_set_42 rfl ?_
    refine rc_I (own := RX4) (q := (RX4, TX4, 28)) (wc := [((y 0), .inr (4, [.int (iI 0), .int (iI n), .ref (y 1), .ref (y 2), .ref (y 3), .ref (y 4), .ref (y 5), .ref (y 6), .ref (y 7), .ref (y 8), .ref (y 9), .int (iI st), .int (iI pe), .int (iI dr), .int (iI lf), .int (iI rt), .int (iI ra), .ref (y 10), .ref (y 11), .int (iI dp), .ref (y 12), .ref (y 13), .int (iI ov), .ref (y 14), .int (iI bs), .int (iI bo), .int (iI mo), .int (iI su)]))]) (wr := [((y 1), .inl (k.1, 8, .inl (iF cs)))]) (As := [.int (iI 1)]) (rest := []) ⟨hx, hb, hml, hown, hts⟩ (r_refuse l g k y 0 n st pe dr lf rt ra dp ov bs bo mo su H.size 1) (cwV 1 hts gX4_set_X4_refuse rfl rfl rfl (by decide +kernel) ⟨Nat.le_of_ble_eq_true rfl, Nat.le_of_ble_eq_true rfl⟩) hK hP hD hS hA [0] [1] rfl (by decide) rfl (by decide) (by decide) (ci := 4) (q0 := 0) rfl rfl rfl rfl hl.1 (Nat.le_of_ble_eq_true rfl) ⟨Nat.le_of_ble_eq_true rfl, Nat.le_of_ble_eq_true rfl⟩ dX4_set_43 (fun r43 u43 H locs hu43 hP hD hS => ?_)
    have hP : va_P g vwCl [((y 1), .inl (k.1, 8, .inl (iF cs))), ((y 0), .inr (4, [.int (iI 1), .int (iI n), .ref (y 1), .ref (y 2), .ref (y 3), .ref (y 4), .ref (y 5), .ref (y 6), .ref (y 7), .ref (y 8), .ref (y 9), .int (iI st), .int (iI pe), .int (iI dr), .int (iI lf), .int (iI rt), .int (iI ra), .ref (y 10), .ref (y 11), .int (iI dp), .ref (y 12), .ref (y 13), .int (iI ov), .ref (y 14), .int (iI bs), .int (iI bo), .int (iI mo), .int (iI su)]))] H := hP
    have hD : va_D A [((y 1), .inl (k.1, 8, .inl (iF cs))), ((y 0), .inr (4, [.int (iI 1), .int (iI n), .ref (y 1), .ref (y 2), .ref (y 3), .ref (y 4), .ref (y 5), .ref (y 6), .ref (y 7), .ref (y 8), .ref (y 9), .int (iI st), .int (iI pe), .int (iI dr), .int (iI lf), .int (iI rt), .int (iI ra), .ref (y 10), .ref (y 11), .int (iI dp), .ref (y 12), .ref (y 13), .int (iI ov), .ref (y 14), .int (iI bs), .int (iI bo), .int (iI mo), .int (iI su)]))] := hD
    have hP := hP.sub (ws' := [((y 0), .inr (4, [.int (iI 1), .int (iI n), .ref (y 1), .ref (y 2), .ref (y 3), .ref (y 4), .ref (y 5), .ref (y 6), .ref (y 7), .ref (y 8), .ref (y 9), .int (iI st), .int (iI pe), .int (iI dr), .int (iI lf), .int (iI rt), .int (iI ra), .ref (y 10), .ref (y 11), .int (iI dp), .ref (y 12), .ref (y 13), .int (iI ov), .ref (y 14), .int (iI bs), .int (iI bo), .int (iI mo), .int (iI su)])), ((y 1), .inl (k.1, 8, .inl (iF cs)))]) [1, 0] rfl
    have hD := hD.sub (ws' := [((y 0), .inr (4, [.int (iI 1), .int (iI n), .ref (y 1), .ref (y 2), .ref (y 3), .ref (y 4), .ref (y 5), .ref (y 6), .ref (y 7), .ref (y 8), .ref (y 9), .int (iI st), .int (iI pe), .int (iI dr), .int (iI lf), .int (iI rt), .int (iI ra), .ref (y 10), .ref (y 11), .int (iI dp), .ref (y 12), .ref (y 13), .int (iI ov), .ref (y 14), .int (iI bs), .int (iI bo), .int (iI mo), .int (iI su)])), ((y 1), .inl (k.1, 8, .inl (iF cs)))]) [1, 0] (by decide) rfl
    refine ri_top (y := iI 0) hu43 ?_
    exact hret (iI 0) (1, ra, cs) _ _ _ _ dX4_set_46 (Or.inr ⟨by omega, rfl, rfl⟩) hP hD hS
  · skip
    refine lv_iload_n hx hb dX4_set_9 rfl (lv_at hl 1 rfl) ?_
    refine lv_aload_n hx hb dX4_set_10 rfl (lv_at hl 0 rfl) ?_
    refine va_get (D := g) (ci := 4) (v := .int (iI n)) (C := RX4) (T := TX4) (N := 28) hx hb hts inX4 hown hK.1 hP 0 rfl rfl 1 (by decide) f56 (fun _ h9 => h9) rfl dX4_set_11 ?_
    refine ri_icmp_ge (a := st9) (b := n) (tgt := 41) hx hb (by omega) (by omega) dX4_set_14 (by decide) (fun c14 => ?_) (fun c14 => ?_)
    · skip
      refine lv_aload_n hx hb dX4_set_41 rfl (lv_at hl 0 rfl) ?_
      refine lv_iconst (v := iI 1) hx hb dX4_set_42 rfl ?_
      refine rc_I (own := RX4) (q := (RX4, TX4, 28)) (wc := [((y 0), .inr (4, [.int (iI 0), .int (iI n), .ref (y 1), .ref (y 2), .ref (y 3), .ref (y 4), .ref (y 5), .ref (y 6), .ref (y 7), .ref (y 8), .ref (y 9), .int (iI st), .int (iI pe), .int (iI dr), .int (iI lf), .int (iI rt), .int (iI ra), .ref (y 10), .ref (y 11), .int (iI dp), .ref (y 12), .ref (y 13), .int (iI ov), .ref (y 14), .int (iI bs), .int (iI bo), .int (iI mo), .int (iI su)]))]) (wr := [((y 1), .inl (k.1, 8, .inl (iF cs)))]) (As := [.int (iI 1)]) (rest := []) ⟨hx, hb, hml, hown, hts⟩ (r_refuse l g k y 0 n st pe dr lf rt ra dp ov bs bo mo su H.size 1) (cwV 1 hts gX4_set_X4_refuse rfl rfl rfl (by decide +kernel) ⟨Nat.le_of_ble_eq_true rfl, Nat.le_of_ble_eq_true rfl⟩) hK hP hD hS hA [0] [1] rfl (by decide) rfl (by decide) (by decide) (ci := 4) (q0 := 0) rfl rfl rfl rfl hl.1 (Nat.le_of_ble_eq_true rfl) ⟨Nat.le_of_ble_eq_true rfl, Nat.le_of_ble_eq_true rfl⟩ dX4_set_43 (fun r43 u43 H locs hu43 hP hD hS => ?_)
      have hP : va_P g vwCl [((y 1), .inl (k.1, 8, .inl (iF cs))), ((y 0), .inr (4, [.int (iI 1), .int (iI n), .ref (y 1), .ref (y 2), .ref (y 3), .ref (y 4), .ref (y 5), .ref (y 6), .ref (y 7), .ref (y 8), .ref (y 9), .int (iI st), .int (iI pe), .int (iI dr), .int (iI lf), .int (iI rt), .int (iI ra), .ref (y 10), .ref (y 11), .int (iI dp), .ref (y 12), .ref (y 13), .int (iI ov), .ref (y 14), .int (iI bs), .int (iI bo), .int (iI mo), .int (iI su)]))] H := hP
      have hD : va_D A [((y 1), .inl (k.1, 8, .inl (iF cs))), ((y 0), .inr (4, [.int (iI 1), .int (iI n), .ref (y 1), .ref (y 2), .ref (y 3), .ref (y 4), .ref (y 5), .ref (y 6), .ref (y 7), .ref (y 8), .ref (y 9), .int (iI st), .int (iI pe), .int (iI dr), .int (iI lf), .int (iI rt), .int (iI ra), .ref (y 10), .ref (y 11), .int (iI dp), .ref (y 12), .ref (y 13), .int (iI ov), .ref (y 14), .int (iI bs), .int (iI bo), .int (iI mo), .int (iI su)]))] := hD
      have hP := hP.sub (ws' := [((y 0), .inr (4, [.int (iI 1), .int (iI n), .ref (y 1), .ref (y 2), .ref (y 3), .ref (y 4), .ref (y 5), .ref (y 6), .ref (y 7), .ref (y 8), .ref (y 9), .int (iI st), .int (iI pe), .int (iI dr), .int (iI lf), .int (iI rt), .int (iI ra), .ref (y 10), .ref (y 11), .int (iI dp), .ref (y 12), .ref (y 13), .int (iI ov), .ref (y 14), .int (iI bs), .int (iI bo), .int (iI mo), .int (iI su)])), ((y 1), .inl (k.1, 8, .inl (iF cs)))]) [1, 0] rfl
      have hD := hD.sub (ws' := [((y 0), .inr (4, [.int (iI 1), .int (iI n), .ref (y 1), .ref (y 2), .ref (y 3), .ref (y 4), .ref (y 5), .ref (y 6), .ref (y 7), .ref (y 8), .ref (y 9), .int (iI st), .int (iI pe), .int (iI dr), .int (iI lf), .int (iI rt), .int (iI ra), .ref (y 10), .ref (y 11), .int (iI dp), .ref (y 12), .ref (y 13), .int (iI ov), .ref (y 14), .int (iI bs), .int (iI bo), .int (iI mo), .int (iI su)])), ((y 1), .inl (k.1, 8, .inl (iF cs)))]) [1, 0] (by decide) rfl
      refine ri_top (y := iI 0) hu43 ?_
      exact hret (iI 0) (1, ra, cs) _ _ _ _ dX4_set_46 (Or.inr ⟨by omega, rfl, rfl⟩) hP hD hS
    · skip
      refine lv_iload_n hx hb dX4_set_17 rfl (lv_at hl 2 rfl) ?_
      refine ri_if_lt (a := sy) (tgt := 41) hx hb (by omega) dX4_set_18 (by decide) (fun c18 => ?_) (fun c18 => ?_)
      · skip
        refine lv_aload_n hx hb dX4_set_41 rfl (lv_at hl 0 rfl) ?_
        refine lv_iconst (v := iI 1) hx hb dX4_set_42 rfl ?_
        refine rc_I (own := RX4) (q := (RX4, TX4, 28)) (wc := [((y 0), .inr (4, [.int (iI 0), .int (iI n), .ref (y 1), .ref (y 2), .ref (y 3), .ref (y 4), .ref (y 5), .ref (y 6), .ref (y 7), .ref (y 8), .ref (y 9), .int (iI st), .int (iI pe), .int (iI dr), .int (iI lf), .int (iI rt), .int (iI ra), .ref (y 10), .ref (y 11), .int (iI dp), .ref (y 12), .ref (y 13), .int (iI ov), .ref (y 14), .int (iI bs), .int (iI bo), .int (iI mo), .int (iI su)]))]) (wr := [((y 1), .inl (k.1, 8, .inl (iF cs)))]) (As := [.int (iI 1)]) (rest := []) ⟨hx, hb, hml, hown, hts⟩ (r_refuse l g k y 0 n st pe dr lf rt ra dp ov bs bo mo su H.size 1) (cwV 1 hts gX4_set_X4_refuse rfl rfl rfl (by decide +kernel) ⟨Nat.le_of_ble_eq_true rfl, Nat.le_of_ble_eq_true rfl⟩) hK hP hD hS hA [0] [1] rfl (by decide) rfl (by decide) (by decide) (ci := 4) (q0 := 0) rfl rfl rfl rfl hl.1 (Nat.le_of_ble_eq_true rfl) ⟨Nat.le_of_ble_eq_true rfl, Nat.le_of_ble_eq_true rfl⟩ dX4_set_43 (fun r43 u43 H locs hu43 hP hD hS => ?_)
        have hP : va_P g vwCl [((y 1), .inl (k.1, 8, .inl (iF cs))), ((y 0), .inr (4, [.int (iI 1), .int (iI n), .ref (y 1), .ref (y 2), .ref (y 3), .ref (y 4), .ref (y 5), .ref (y 6), .ref (y 7), .ref (y 8), .ref (y 9), .int (iI st), .int (iI pe), .int (iI dr), .int (iI lf), .int (iI rt), .int (iI ra), .ref (y 10), .ref (y 11), .int (iI dp), .ref (y 12), .ref (y 13), .int (iI ov), .ref (y 14), .int (iI bs), .int (iI bo), .int (iI mo), .int (iI su)]))] H := hP
        have hD : va_D A [((y 1), .inl (k.1, 8, .inl (iF cs))), ((y 0), .inr (4, [.int (iI 1), .int (iI n), .ref (y 1), .ref (y 2), .ref (y 3), .ref (y 4), .ref (y 5), .ref (y 6), .ref (y 7), .ref (y 8), .ref (y 9), .int (iI st), .int (iI pe), .int (iI dr), .int (iI lf), .int (iI rt), .int (iI ra), .ref (y 10), .ref (y 11), .int (iI dp), .ref (y 12), .ref (y 13), .int (iI ov), .ref (y 14), .int (iI bs), .int (iI bo), .int (iI mo), .int (iI su)]))] := hD
        have hP := hP.sub (ws' := [((y 0), .inr (4, [.int (iI 1), .int (iI n), .ref (y 1), .ref (y 2), .ref (y 3), .ref (y 4), .ref (y 5), .ref (y 6), .ref (y 7), .ref (y 8), .ref (y 9), .int (iI st), .int (iI pe), .int (iI dr), .int (iI lf), .int (iI rt), .int (iI ra), .ref (y 10), .ref (y 11), .int (iI dp), .ref (y 12), .ref (y 13), .int (iI ov), .ref (y 14), .int (iI bs), .int (iI bo), .int (iI mo), .int (iI su)])), ((y 1), .inl (k.1, 8, .inl (iF cs)))]) [1, 0] rfl
        have hD := hD.sub (ws' := [((y 0), .inr (4, [.int (iI 1), .int (iI n), .ref (y 1), .ref (y 2), .ref (y 3), .ref (y 4), .ref (y 5), .ref (y 6), .ref (y 7), .ref (y 8), .ref (y 9), .int (iI st), .int (iI pe), .int (iI dr), .int (iI lf), .int (iI rt), .int (iI ra), .ref (y 10), .ref (y 11), .int (iI dp), .ref (y 12), .ref (y 13), .int (iI ov), .ref (y 14), .int (iI bs), .int (iI bo), .int (iI mo), .int (iI su)])), ((y 1), .inl (k.1, 8, .inl (iF cs)))]) [1, 0] (by decide) rfl
        refine ri_top (y := iI 0) hu43 ?_
        exact hret (iI 0) (1, ra, cs) _ _ _ _ dX4_set_46 (Or.inr ⟨by omega, rfl, rfl⟩) hP hD hS
      · skip
        refine lv_iload_n hx hb dX4_set_21 rfl (lv_at hl 2 rfl) ?_
        refine lv_iconst (v := iI 1) hx hb dX4_set_22 rfl ?_
        refine ri_icmp_gt (a := sy) (b := 1) (tgt := 41) hx hb (by omega) (by omega) dX4_set_23 (by decide) (fun c23 => ?_) (fun c23 => ?_)
        · skip
          refine lv_aload_n hx hb dX4_set_41 rfl (lv_at hl 0 rfl) ?_
          refine lv_iconst (v := iI 1) hx hb dX4_set_42 rfl ?_
          refine rc_I (own := RX4) (q := (RX4, TX4, 28)) (wc := [((y 0), .inr (4, [.int (iI 0), .int (iI n), .ref (y 1), .ref (y 2), .ref (y 3), .ref (y 4), .ref (y 5), .ref (y 6), .ref (y 7), .ref (y 8), .ref (y 9), .int (iI st), .int (iI pe), .int (iI dr), .int (iI lf), .int (iI rt), .int (iI ra), .ref (y 10), .ref (y 11), .int (iI dp), .ref (y 12), .ref (y 13), .int (iI ov), .ref (y 14), .int (iI bs), .int (iI bo), .int (iI mo), .int (iI su)]))]) (wr := [((y 1), .inl (k.1, 8, .inl (iF cs)))]) (As := [.int (iI 1)]) (rest := []) ⟨hx, hb, hml, hown, hts⟩ (r_refuse l g k y 0 n st pe dr lf rt ra dp ov bs bo mo su H.size 1) (cwV 1 hts gX4_set_X4_refuse rfl rfl rfl (by decide +kernel) ⟨Nat.le_of_ble_eq_true rfl, Nat.le_of_ble_eq_true rfl⟩) hK hP hD hS hA [0] [1] rfl (by decide) rfl (by decide) (by decide) (ci := 4) (q0 := 0) rfl rfl rfl rfl hl.1 (Nat.le_of_ble_eq_true rfl) ⟨Nat.le_of_ble_eq_true rfl, Nat.le_of_ble_eq_true rfl⟩ dX4_set_43 (fun r43 u43 H locs hu43 hP hD hS => ?_)
          have hP : va_P g vwCl [((y 1), .inl (k.1, 8, .inl (iF cs))), ((y 0), .inr (4, [.int (iI 1), .int (iI n), .ref (y 1), .ref (y 2), .ref (y 3), .ref (y 4), .ref (y 5), .ref (y 6), .ref (y 7), .ref (y 8), .ref (y 9), .int (iI st), .int (iI pe), .int (iI dr), .int (iI lf), .int (iI rt), .int (iI ra), .ref (y 10), .ref (y 11), .int (iI dp), .ref (y 12), .ref (y 13), .int (iI ov), .ref (y 14), .int (iI bs), .int (iI bo), .int (iI mo), .int (iI su)]))] H := hP
          have hD : va_D A [((y 1), .inl (k.1, 8, .inl (iF cs))), ((y 0), .inr (4, [.int (iI 1), .int (iI n), .ref (y 1), .ref (y 2), .ref (y 3), .ref (y 4), .ref (y 5), .ref (y 6), .ref (y 7), .ref (y 8), .ref (y 9), .int (iI st), .int (iI pe), .int (iI dr), .int (iI lf), .int (iI rt), .int (iI ra), .ref (y 10), .ref (y 11), .int (iI dp), .ref (y 12), .ref (y 13), .int (iI ov), .ref (y 14), .int (iI bs), .int (iI bo), .int (iI mo), .int (iI su)]))] := hD
          have hP := hP.sub (ws' := [((y 0), .inr (4, [.int (iI 1), .int (iI n), .ref (y 1), .ref (y 2), .ref (y 3), .ref (y 4), .ref (y 5), .ref (y 6), .ref (y 7), .ref (y 8), .ref (y 9), .int (iI st), .int (iI pe), .int (iI dr), .int (iI lf), .int (iI rt), .int (iI ra), .ref (y 10), .ref (y 11), .int (iI dp), .ref (y 12), .ref (y 13), .int (iI ov), .ref (y 14), .int (iI bs), .int (iI bo), .int (iI mo), .int (iI su)])), ((y 1), .inl (k.1, 8, .inl (iF cs)))]) [1, 0] rfl
          have hD := hD.sub (ws' := [((y 0), .inr (4, [.int (iI 1), .int (iI n), .ref (y 1), .ref (y 2), .ref (y 3), .ref (y 4), .ref (y 5), .ref (y 6), .ref (y 7), .ref (y 8), .ref (y 9), .int (iI st), .int (iI pe), .int (iI dr), .int (iI lf), .int (iI rt), .int (iI ra), .ref (y 10), .ref (y 11), .int (iI dp), .ref (y 12), .ref (y 13), .int (iI ov), .ref (y 14), .int (iI bs), .int (iI bo), .int (iI mo), .int (iI su)])), ((y 1), .inl (k.1, 8, .inl (iF cs)))]) [1, 0] (by decide) rfl
          refine ri_top (y := iI 0) hu43 ?_
          exact hret (iI 0) (1, ra, cs) _ _ _ _ dX4_set_46 (Or.inr ⟨by omega, rfl, rfl⟩) hP hD hS
        · skip
          refine lv_iload_n hx hb dX4_set_26 rfl (lv_at hl 3 rfl) ?_
          refine lv_iconst (v := iI (-1)) hx hb dX4_set_27 rfl ?_
          refine ri_icmp_lt (a := co) (b := (-1)) (tgt := 41) hx hb (by omega) (by omega) dX4_set_28 (by decide) (fun c28 => ?_) (fun c28 => ?_)
          · skip
            refine lv_aload_n hx hb dX4_set_41 rfl (lv_at hl 0 rfl) ?_
            refine lv_iconst (v := iI 1) hx hb dX4_set_42 rfl ?_
            refine rc_I (own := RX4) (q := (RX4, TX4, 28)) (wc := [((y 0), .inr (4, [.int (iI 0), .int (iI n), .ref (y 1), .ref (y 2), .ref (y 3), .ref (y 4), .ref (y 5), .ref (y 6), .ref (y 7), .ref (y 8), .ref (y 9), .int (iI st), .int (iI pe), .int (iI dr), .int (iI lf), .int (iI rt), .int (iI ra), .ref (y 10), .ref (y 11), .int (iI dp), .ref (y 12), .ref (y 13), .int (iI ov), .ref (y 14), .int (iI bs), .int (iI bo), .int (iI mo), .int (iI su)]))]) (wr := [((y 1), .inl (k.1, 8, .inl (iF cs)))]) (As := [.int (iI 1)]) (rest := []) ⟨hx, hb, hml, hown, hts⟩ (r_refuse l g k y 0 n st pe dr lf rt ra dp ov bs bo mo su H.size 1) (cwV 1 hts gX4_set_X4_refuse rfl rfl rfl (by decide +kernel) ⟨Nat.le_of_ble_eq_true rfl, Nat.le_of_ble_eq_true rfl⟩) hK hP hD hS hA [0] [1] rfl (by decide) rfl (by decide) (by decide) (ci := 4) (q0 := 0) rfl rfl rfl rfl hl.1 (Nat.le_of_ble_eq_true rfl) ⟨Nat.le_of_ble_eq_true rfl, Nat.le_of_ble_eq_true rfl⟩ dX4_set_43 (fun r43 u43 H locs hu43 hP hD hS => ?_)
            have hP : va_P g vwCl [((y 1), .inl (k.1, 8, .inl (iF cs))), ((y 0), .inr (4, [.int (iI 1), .int (iI n), .ref (y 1), .ref (y 2), .ref (y 3), .ref (y 4), .ref (y 5), .ref (y 6), .ref (y 7), .ref (y 8), .ref (y 9), .int (iI st), .int (iI pe), .int (iI dr), .int (iI lf), .int (iI rt), .int (iI ra), .ref (y 10), .ref (y 11), .int (iI dp), .ref (y 12), .ref (y 13), .int (iI ov), .ref (y 14), .int (iI bs), .int (iI bo), .int (iI mo), .int (iI su)]))] H := hP
            have hD : va_D A [((y 1), .inl (k.1, 8, .inl (iF cs))), ((y 0), .inr (4, [.int (iI 1), .int (iI n), .ref (y 1), .ref (y 2), .ref (y 3), .ref (y 4), .ref (y 5), .ref (y 6), .ref (y 7), .ref (y 8), .ref (y 9), .int (iI st), .int (iI pe), .int (iI dr), .int (iI lf), .int (iI rt), .int (iI ra), .ref (y 10), .ref (y 11), .int (iI dp), .ref (y 12), .ref (y 13), .int (iI ov), .ref (y 14), .int (iI bs), .int (iI bo), .int (iI mo), .int (iI su)]))] := hD
            have hP := hP.sub (ws' := [((y 0), .inr (4, [.int (iI 1), .int (iI n), .ref (y 1), .ref (y 2), .ref (y 3), .ref (y 4), .ref (y 5), .ref (y 6), .ref (y 7), .ref (y 8), .ref (y 9), .int (iI st), .int (iI pe), .int (iI dr), .int (iI lf), .int (iI rt), .int (iI ra), .ref (y 10), .ref (y 11), .int (iI dp), .ref (y 12), .ref (y 13), .int (iI ov), .ref (y 14), .int (iI bs), .int (iI bo), .int (iI mo), .int (iI su)])), ((y 1), .inl (k.1, 8, .inl (iF cs)))]) [1, 0] rfl
            have hD := hD.sub (ws' := [((y 0), .inr (4, [.int (iI 1), .int (iI n), .ref (y 1), .ref (y 2), .ref (y 3), .ref (y 4), .ref (y 5), .ref (y 6), .ref (y 7), .ref (y 8), .ref (y 9), .int (iI st), .int (iI pe), .int (iI dr), .int (iI lf), .int (iI rt), .int (iI ra), .ref (y 10), .ref (y 11), .int (iI dp), .ref (y 12), .ref (y 13), .int (iI ov), .ref (y 14), .int (iI bs), .int (iI bo), .int (iI mo), .int (iI su)])), ((y 1), .inl (k.1, 8, .inl (iF cs)))]) [1, 0] (by decide) rfl
            refine ri_top (y := iI 0) hu43 ?_
            exact hret (iI 0) (1, ra, cs) _ _ _ _ dX4_set_46 (Or.inr ⟨by omega, rfl, rfl⟩) hP hD hS
          · skip
            refine lv_iload_n hx hb dX4_set_31 rfl (lv_at hl 3 rfl) ?_
            refine lv_iconst (v := iI 4) hx hb dX4_set_32 rfl ?_
            refine lv_aload_n hx hb dX4_set_33 rfl (lv_at hl 0 rfl) ?_
            refine va_get (D := g) (ci := 4) (v := .int (iI n)) (C := RX4) (T := TX4) (N := 28) hx hb hts inX4 hown hK.1 hP 0 rfl rfl 1 (by decide) f56 (fun _ h9 => h9) rfl dX4_set_34 ?_
            refine ri_imul (a := 4) (b := n) hx hb dX4_set_37 ?_
            refine ri_icmp_lt (a := co) (b := (4 * n)) (tgt := 47) hx hb (by omega) (by omega) dX4_set_38 (by decide) (fun c38 => ?_) (fun c38 => ?_)
            · skip
              refine lv_aload_n hx hb dX4_set_47 rfl (lv_at hl 0 rfl) ?_
              refine va_get (D := g) (ci := 4) (v := .ref (y 1)) (C := RX4) (T := TX4) (N := 28) hx hb hts inX4 hown hK.1 hP 0 rfl rfl 2 (by decide) f7 (fun _ h9 => h9) rfl dX4_set_48 ?_
              refine lv_iconst (v := iI 2) hx hb dX4_set_51 rfl ?_
              refine lv_iload_n hx hb dX4_set_52 rfl (lv_at hl 1 rfl) ?_
              refine ri_imul (a := 2) (b := st9) hx hb dX4_set_53 ?_
              refine lv_iload_n hx hb dX4_set_54 rfl (lv_at hl 2 rfl) ?_
              refine ri_iadd (a := (2 * st9)) (b := sy) hx hb dX4_set_55 ?_
              refine ri_iald (F := cs) (i := ((2 * st9) + sy)) hx hb hK.1 hP 1 0 rfl rfl (by omega) (by omega) dX4_set_56 ?_
              refine lv_istore (lv' := [(4, .int (iI (cs ((2 * st9) + sy)))), (0, .ref (y 0)), (1, .int (iI st9)), (2, .int (iI sy)), (3, .int (iI co))]) hx hb dX4_set_57 hl (by decide) rfl (fun ls hl => ?_)
              refine lv_aload_n hx hb dX4_set_59 rfl (lv_at hl 1 rfl) ?_
              refine va_get (D := g) (ci := 4) (v := .ref (y 1)) (C := RX4) (T := TX4) (N := 28) hx hb hts inX4 hown hK.1 hP 0 rfl rfl 2 (by decide) f7 (fun _ h9 => h9) rfl dX4_set_60 ?_
              refine lv_iconst (v := iI 2) hx hb dX4_set_63 rfl ?_
              refine lv_iload_n hx hb dX4_set_64 rfl (lv_at hl 2 rfl) ?_
              refine ri_imul (a := 2) (b := st9) hx hb dX4_set_65 ?_
              refine lv_iload_n hx hb dX4_set_66 rfl (lv_at hl 3 rfl) ?_
              refine ri_iadd (a := (2 * st9)) (b := sy) hx hb dX4_set_67 ?_
              refine lv_iload_n hx hb dX4_set_68 rfl (lv_at hl 4 rfl) ?_
              refine ri_iast (F := cs) (i := ((2 * st9) + sy)) (x := co) hx hb hK.1 hP hD hS 1 0 rfl rfl (by omega) (by omega) dX4_set_69 (fun H locs hP hD hS => ?_)
              have hP : va_P g vwCl [((y 0), .inr (4, [.int (iI 0), .int (iI n), .ref (y 1), .ref (y 2), .ref (y 3), .ref (y 4), .ref (y 5), .ref (y 6), .ref (y 7), .ref (y 8), .ref (y 9), .int (iI st), .int (iI pe), .int (iI dr), .int (iI lf), .int (iI rt), .int (iI ra), .ref (y 10), .ref (y 11), .int (iI dp), .ref (y 12), .ref (y 13), .int (iI ov), .ref (y 14), .int (iI bs), .int (iI bo), .int (iI mo), .int (iI su)])), ((y 1), .inl (k.1, 8, .inl (iF (up cs ((2 * st9) + sy) co))))] H := hP
              have hD : va_D A [((y 0), .inr (4, [.int (iI 0), .int (iI n), .ref (y 1), .ref (y 2), .ref (y 3), .ref (y 4), .ref (y 5), .ref (y 6), .ref (y 7), .ref (y 8), .ref (y 9), .int (iI st), .int (iI pe), .int (iI dr), .int (iI lf), .int (iI rt), .int (iI ra), .ref (y 10), .ref (y 11), .int (iI dp), .ref (y 12), .ref (y 13), .int (iI ov), .ref (y 14), .int (iI bs), .int (iI bo), .int (iI mo), .int (iI su)])), ((y 1), .inl (k.1, 8, .inl (iF (up cs ((2 * st9) + sy) co))))] := hD
              refine lv_aload_n hx hb dX4_set_70 rfl (lv_at hl 1 rfl) ?_
              refine lv_iconst (v := iI 0) hx hb dX4_set_71 rfl ?_
              refine va_put (D := g) (ci := 4) (v := .int (iI 0)) (ty := .boolean) (C := RX4) (T := TX4) (N := 28) hx hb hts inX4 tyX4 tyX4_ok nmX4 hown hK.1 hP hD hS 0 rfl rfl 16 (by decide) f66 (fun _ h9 => h9) rfl (by decide +kernel) rfl rfl (Nat.le_of_ble_eq_true rfl) dX4_set_72 (fun H locs hP hD hS => ?_)
              have hP : va_P g vwCl [((y 0), .inr (4, [.int (iI 0), .int (iI n), .ref (y 1), .ref (y 2), .ref (y 3), .ref (y 4), .ref (y 5), .ref (y 6), .ref (y 7), .ref (y 8), .ref (y 9), .int (iI st), .int (iI pe), .int (iI dr), .int (iI lf), .int (iI rt), .int (iI 0), .ref (y 10), .ref (y 11), .int (iI dp), .ref (y 12), .ref (y 13), .int (iI ov), .ref (y 14), .int (iI bs), .int (iI bo), .int (iI mo), .int (iI su)])), ((y 1), .inl (k.1, 8, .inl (iF (up cs ((2 * st9) + sy) co))))] H := hP
              have hD : va_D A [((y 0), .inr (4, [.int (iI 0), .int (iI n), .ref (y 1), .ref (y 2), .ref (y 3), .ref (y 4), .ref (y 5), .ref (y 6), .ref (y 7), .ref (y 8), .ref (y 9), .int (iI st), .int (iI pe), .int (iI dr), .int (iI lf), .int (iI rt), .int (iI 0), .ref (y 10), .ref (y 11), .int (iI dp), .ref (y 12), .ref (y 13), .int (iI ov), .ref (y 14), .int (iI bs), .int (iI bo), .int (iI mo), .int (iI su)])), ((y 1), .inl (k.1, 8, .inl (iF (up cs ((2 * st9) + sy) co))))] := hD
              refine lv_iload hx hb dX4_set_75 (lv_at hl 0 rfl) ?_
              exact hret (iI (cs ((2 * st9) + sy))) (0, 0, up cs (2 * st9 + sy) co) _ _ _ _ dX4_set_77 (Or.inl ⟨by omega, rfl, rfl⟩) hP hD hS
            · skip
              refine lv_aload_n hx hb dX4_set_41 rfl (lv_at hl 0 rfl) ?_
              refine lv_iconst (v := iI 1) hx hb dX4_set_42 rfl ?_
              refine rc_I (own := RX4) (q := (RX4, TX4, 28)) (wc := [((y 0), .inr (4, [.int (iI 0), .int (iI n), .ref (y 1), .ref (y 2), .ref (y 3), .ref (y 4), .ref (y 5), .ref (y 6), .ref (y 7), .ref (y 8), .ref (y 9), .int (iI st), .int (iI pe), .int (iI dr), .int (iI lf), .int (iI rt), .int (iI ra), .ref (y 10), .ref (y 11), .int (iI dp), .ref (y 12), .ref (y 13), .int (iI ov), .ref (y 14), .int (iI bs), .int (iI bo), .int (iI mo), .int (iI su)]))]) (wr := [((y 1), .inl (k.1, 8, .inl (iF cs)))]) (As := [.int (iI 1)]) (rest := []) ⟨hx, hb, hml, hown, hts⟩ (r_refuse l g k y 0 n st pe dr lf rt ra dp ov bs bo mo su H.size 1) (cwV 1 hts gX4_set_X4_refuse rfl rfl rfl (by decide +kernel) ⟨Nat.le_of_ble_eq_true rfl, Nat.le_of_ble_eq_true rfl⟩) hK hP hD hS hA [0] [1] rfl (by decide) rfl (by decide) (by decide) (ci := 4) (q0 := 0) rfl rfl rfl rfl hl.1 (Nat.le_of_ble_eq_true rfl) ⟨Nat.le_of_ble_eq_true rfl, Nat.le_of_ble_eq_true rfl⟩ dX4_set_43 (fun r43 u43 H locs hu43 hP hD hS => ?_)
              have hP : va_P g vwCl [((y 1), .inl (k.1, 8, .inl (iF cs))), ((y 0), .inr (4, [.int (iI 1), .int (iI n), .ref (y 1), .ref (y 2), .ref (y 3), .ref (y 4), .ref (y 5), .ref (y 6), .ref (y 7), .ref (y 8), .ref (y 9), .int (iI st), .int (iI pe), .int (iI dr), .int (iI lf), .int (iI rt), .int (iI ra), .ref (y 10), .ref (y 11), .int (iI dp), .ref (y 12), .ref (y 13), .int (iI ov), .ref (y 14), .int (iI bs), .int (iI bo), .int (iI mo), .int (iI su)]))] H := hP
              have hD : va_D A [((y 1), .inl (k.1, 8, .inl (iF cs))), ((y 0), .inr (4, [.int (iI 1), .int (iI n), .ref (y 1), .ref (y 2), .ref (y 3), .ref (y 4), .ref (y 5), .ref (y 6), .ref (y 7), .ref (y 8), .ref (y 9), .int (iI st), .int (iI pe), .int (iI dr), .int (iI lf), .int (iI rt), .int (iI ra), .ref (y 10), .ref (y 11), .int (iI dp), .ref (y 12), .ref (y 13), .int (iI ov), .ref (y 14), .int (iI bs), .int (iI bo), .int (iI mo), .int (iI su)]))] := hD
              have hP := hP.sub (ws' := [((y 0), .inr (4, [.int (iI 1), .int (iI n), .ref (y 1), .ref (y 2), .ref (y 3), .ref (y 4), .ref (y 5), .ref (y 6), .ref (y 7), .ref (y 8), .ref (y 9), .int (iI st), .int (iI pe), .int (iI dr), .int (iI lf), .int (iI rt), .int (iI ra), .ref (y 10), .ref (y 11), .int (iI dp), .ref (y 12), .ref (y 13), .int (iI ov), .ref (y 14), .int (iI bs), .int (iI bo), .int (iI mo), .int (iI su)])), ((y 1), .inl (k.1, 8, .inl (iF cs)))]) [1, 0] rfl
              have hD := hD.sub (ws' := [((y 0), .inr (4, [.int (iI 1), .int (iI n), .ref (y 1), .ref (y 2), .ref (y 3), .ref (y 4), .ref (y 5), .ref (y 6), .ref (y 7), .ref (y 8), .ref (y 9), .int (iI st), .int (iI pe), .int (iI dr), .int (iI lf), .int (iI rt), .int (iI ra), .ref (y 10), .ref (y 11), .int (iI dp), .ref (y 12), .ref (y 13), .int (iI ov), .ref (y 14), .int (iI bs), .int (iI bo), .int (iI mo), .int (iI su)])), ((y 1), .inl (k.1, 8, .inl (iF cs)))]) [1, 0] (by decide) rfl
              refine ri_top (y := iI 0) hu43 ?_
              exact hret (iI 0) (1, ra, cs) _ _ _ _ dX4_set_46 (Or.inr ⟨by omega, rfl, rfl⟩) hP hD hS

set_option maxHeartbeats 4000000 in
set_option maxRecDepth 100000 in
theorem r_figure (l : Launch) (g : va_G) (k : kT) (y : Nat → Nat) (thr n st pe dr lf rt ra dp ov bs bo mo su : Int) (fi : Int → Int) (sz : Nat) (w : Int) (hra : ra = 0 ∨ ra = 1) (hr : -2147483648 ≤ w ∧ w < 2147483648) : cI l yX4_figure wsX4_figure rm_1 g k [yO y thr n st pe dr lf rt ra dp ov bs bo mo su, ((y 10), .inl (k.1, 9, .inl (iF fi)))] sz [.ref (y 0), .int (iI w)] 0 0 (fun u : Int => [yO y u n st pe dr lf rt ra dp ov bs bo mo su, ((y 10), .inl (k.1, 9, .inl (iF fi)))]) (fun r u => ((0 ≤ w ∧ w ≤ 8) ∧ ¬ ra = 0 ∧ r = iI (fi w) ∧ u = 0) ∨ (¬ (0 ≤ w ∧ w ≤ 8) ∧ r = iI 0 ∧ u = 1) ∨ ((0 ≤ w ∧ w ≤ 8) ∧ ra = 0 ∧ r = iI 0 ∧ u = 2)) := by
  refine st_I (by decide) rfl (Nat.le_of_ble_eq_true rfl) ?_
  intro p e s m below meth c Q A hx hb hml hown hts hA hP hD hS hK hret ls hl
  have hown : s.vm.findClass RX4 = some m.cls := hown
  have f59 := hts (.fieldLink RX4 59 "MachineTreeModel" "thrown" "I") (by decide +kernel)
  have inX4 := (by decide +kernel : ∀ w ∈ wsX40, w ∈ wsX4_figure)
  have f66 := hts (.fieldLink RX4 66 "MachineTreeModel" "ran" "Z") (by decide +kernel)
  have f37 := hts (.fieldLink RX4 37 "MachineTreeModel" "figures" "[I") (by decide +kernel)
  have hl : lv_has ls 2 [(0, .ref (y 0)), (1, .int (iI w))] := hl
  obtain ⟨H, hH⟩ : ∃ H, H = s.heap := ⟨_, rfl⟩
  obtain ⟨locs, hlo⟩ : ∃ L : List Loc, L = [] := ⟨_, rfl⟩
  rw [← hH] at hP
  have hS : va_S A s.heap H locs := by rw [hH, hlo]; exact hS
  rw [show W p l e rm_1 s m ([.ref (y 0), .int (iI w)] : List Value).toArray below meth c s.heap [] 0 0 Q (F0 m 0 ls []) = W p l e rm_1 s m ([.ref (y 0), .int (iI w)] : List Value).toArray below meth c H locs 0 0 Q (F0 m 0 ls []) by rw [hH, hlo]]
  clear hH hlo
  refine lv_aload_n hx hb dX4_figure_0 rfl (lv_at hl 0 rfl) ?_
  refine lv_iconst (v := iI 0) hx hb dX4_figure_1 rfl ?_
  refine va_put (D := g) (ci := 4) (v := .int (iI 0)) (ty := .int) (C := RX4) (T := TX4) (N := 28) hx hb hts inX4 tyX4 tyX4_ok nmX4 hown hK.1 hP hD hS 0 rfl rfl 0 (by decide) f59 (fun _ h9 => h9) rfl (by decide +kernel) rfl rfl (Nat.le_of_ble_eq_true rfl) dX4_figure_2 (fun H locs hP hD hS => ?_)
  have hP : va_P g vwCl [((y 0), .inr (4, [.int (iI 0), .int (iI n), .ref (y 1), .ref (y 2), .ref (y 3), .ref (y 4), .ref (y 5), .ref (y 6), .ref (y 7), .ref (y 8), .ref (y 9), .int (iI st), .int (iI pe), .int (iI dr), .int (iI lf), .int (iI rt), .int (iI ra), .ref (y 10), .ref (y 11), .int (iI dp), .ref (y 12), .ref (y 13), .int (iI ov), .ref (y 14), .int (iI bs), .int (iI bo), .int (iI mo), .int (iI su)])), ((y 10), .inl (k.1, 9, .inl (iF fi)))] H := hP
  have hD : va_D A [((y 0), .inr (4, [.int (iI 0), .int (iI n), .ref (y 1), .ref (y 2), .ref (y 3), .ref (y 4), .ref (y 5), .ref (y 6), .ref (y 7), .ref (y 8), .ref (y 9), .int (iI st), .int (iI pe), .int (iI dr), .int (iI lf), .int (iI rt), .int (iI ra), .ref (y 10), .ref (y 11), .int (iI dp), .ref (y 12), .ref (y 13), .int (iI ov), .ref (y 14), .int (iI bs), .int (iI bo), .int (iI mo), .int (iI su)])), ((y 10), .inl (k.1, 9, .inl (iF fi)))] := hD
  refine lv_iload_n hx hb dX4_figure_5 rfl (lv_at hl 1 rfl) ?_
  refine ri_if_lt (a := w) (tgt := 15) hx hb (by omega) dX4_figure_6 (by decide) (fun c6 => ?_) (fun c6 => ?_)
  · skip
    refine lv_aload_n hx hb dX4_figure_15 rfl (lv_at hl 0 rfl) ?_
    refine lv_iconst (v := iI 1) hx hb dX4_figure_16 rfl ?_
    refine rc_I (own := RX4) (q := (RX4, TX4, 28)) (wc := [((y 0), .inr (4, [.int (iI 0), .int (iI n), .ref (y 1), .ref (y 2), .ref (y 3), .ref (y 4), .ref (y 5), .ref (y 6), .ref (y 7), .ref (y 8), .ref (y 9), .int (iI st), .int (iI pe), .int (iI dr), .int (iI lf), .int (iI rt), .int (iI ra), .ref (y 10), .ref (y 11), .int (iI dp), .ref (y 12), .ref (y 13), .int (iI ov), .ref (y 14), .int (iI bs), .int (iI bo), .int (iI mo), .int (iI su)]))]) (wr := [((y 10), .inl (k.1, 9, .inl (iF fi)))]) (As := [.int (iI 1)]) (rest := []) ⟨hx, hb, hml, hown, hts⟩ (r_refuse l g k y 0 n st pe dr lf rt ra dp ov bs bo mo su H.size 1) (cwV 1 hts gX4_figure_X4_refuse rfl rfl rfl (by decide +kernel) ⟨Nat.le_of_ble_eq_true rfl, Nat.le_of_ble_eq_true rfl⟩) hK hP hD hS hA [0] [1] rfl (by decide) rfl (by decide) (by decide) (ci := 4) (q0 := 0) rfl rfl rfl rfl hl.1 (Nat.le_of_ble_eq_true rfl) ⟨Nat.le_of_ble_eq_true rfl, Nat.le_of_ble_eq_true rfl⟩ dX4_figure_17 (fun r17 u17 H locs hu17 hP hD hS => ?_)
    have hP : va_P g vwCl [((y 10), .inl (k.1, 9, .inl (iF fi))), ((y 0), .inr (4, [.int (iI 1), .int (iI n), .ref (y 1), .ref (y 2), .ref (y 3), .ref (y 4), .ref (y 5), .ref (y 6), .ref (y 7), .ref (y 8), .ref (y 9), .int (iI st), .int (iI pe), .int (iI dr), .int (iI lf), .int (iI rt), .int (iI ra), .ref (y 10), .ref (y 11), .int (iI dp), .ref (y 12), .ref (y 13), .int (iI ov), .ref (y 14), .int (iI bs), .int (iI bo), .int (iI mo), .int (iI su)]))] H := hP
    have hD : va_D A [((y 10), .inl (k.1, 9, .inl (iF fi))), ((y 0), .inr (4, [.int (iI 1), .int (iI n), .ref (y 1), .ref (y 2), .ref (y 3), .ref (y 4), .ref (y 5), .ref (y 6), .ref (y 7), .ref (y 8), .ref (y 9), .int (iI st), .int (iI pe), .int (iI dr), .int (iI lf), .int (iI rt), .int (iI ra), .ref (y 10), .ref (y 11), .int (iI dp), .ref (y 12), .ref (y 13), .int (iI ov), .ref (y 14), .int (iI bs), .int (iI bo), .int (iI mo), .int (iI su)]))] := hD
    have hP := hP.sub (ws' := [((y 0), .inr (4, [.int (iI 1), .int (iI n), .ref (y 1), .ref (y 2), .ref (y 3), .ref (y 4), .ref (y 5), .ref (y 6), .ref (y 7), .ref (y 8), .ref (y 9), .int (iI st), .int (iI pe), .int (iI dr), .int (iI lf), .int (iI rt), .int (iI ra), .ref (y 10), .ref (y 11), .int (iI dp), .ref (y 12), .ref (y 13), .int (iI ov), .ref (y 14), .int (iI bs), .int (iI bo), .int (iI mo), .int (iI su)])), ((y 10), .inl (k.1, 9, .inl (iF fi)))]) [1, 0] rfl
    have hD := hD.sub (ws' := [((y 0), .inr (4, [.int (iI 1), .int (iI n), .ref (y 1), .ref (y 2), .ref (y 3), .ref (y 4), .ref (y 5), .ref (y 6), .ref (y 7), .ref (y 8), .ref (y 9), .int (iI st), .int (iI pe), .int (iI dr), .int (iI lf), .int (iI rt), .int (iI ra), .ref (y 10), .ref (y 11), .int (iI dp), .ref (y 12), .ref (y 13), .int (iI ov), .ref (y 14), .int (iI bs), .int (iI bo), .int (iI mo), .int (iI su)])), ((y 10), .inl (k.1, 9, .inl (iF fi)))]) [1, 0] (by decide) rfl
    refine ri_top (y := iI 0) hu17 ?_
    exact hret (iI 0) 1 _ _ _ _ dX4_figure_20 (Or.inr (Or.inl ⟨by omega, rfl, rfl⟩)) hP hD hS
  · skip
    refine lv_iload_n hx hb dX4_figure_9 rfl (lv_at hl 1 rfl) ?_
    refine lv_bipush (v := iI 8) hx hb dX4_figure_10 (by decide) ?_
    refine ri_icmp_le (a := w) (b := 8) (tgt := 21) hx hb (by omega) (by omega) dX4_figure_12 (by decide) (fun c12 => ?_) (fun c12 => ?_)
    · skip
      refine lv_aload_n hx hb dX4_figure_21 rfl (lv_at hl 0 rfl) ?_
      refine va_get (D := g) (ci := 4) (v := .int (iI ra)) (C := RX4) (T := TX4) (N := 28) hx hb hts inX4 hown hK.1 hP 0 rfl rfl 16 (by decide) f66 (fun _ h9 => h9) rfl dX4_figure_22 ?_
      refine ri_if_eq (a := ra) (tgt := 37) hx hb (by omega) dX4_figure_25 (by decide) (fun c25 => ?_) (fun c25 => ?_)
      · skip
        refine lv_aload_n hx hb dX4_figure_37 rfl (lv_at hl 0 rfl) ?_
        refine lv_iconst (v := iI 2) hx hb dX4_figure_38 rfl ?_
        refine rc_I (own := RX4) (q := (RX4, TX4, 28)) (wc := [((y 0), .inr (4, [.int (iI 0), .int (iI n), .ref (y 1), .ref (y 2), .ref (y 3), .ref (y 4), .ref (y 5), .ref (y 6), .ref (y 7), .ref (y 8), .ref (y 9), .int (iI st), .int (iI pe), .int (iI dr), .int (iI lf), .int (iI rt), .int (iI ra), .ref (y 10), .ref (y 11), .int (iI dp), .ref (y 12), .ref (y 13), .int (iI ov), .ref (y 14), .int (iI bs), .int (iI bo), .int (iI mo), .int (iI su)]))]) (wr := [((y 10), .inl (k.1, 9, .inl (iF fi)))]) (As := [.int (iI 2)]) (rest := []) ⟨hx, hb, hml, hown, hts⟩ (r_refuse l g k y 0 n st pe dr lf rt ra dp ov bs bo mo su H.size 2) (cwV 1 hts gX4_figure_X4_refuse rfl rfl rfl (by decide +kernel) ⟨Nat.le_of_ble_eq_true rfl, Nat.le_of_ble_eq_true rfl⟩) hK hP hD hS hA [0] [1] rfl (by decide) rfl (by decide) (by decide) (ci := 4) (q0 := 0) rfl rfl rfl rfl hl.1 (Nat.le_of_ble_eq_true rfl) ⟨Nat.le_of_ble_eq_true rfl, Nat.le_of_ble_eq_true rfl⟩ dX4_figure_39 (fun r39 u39 H locs hu39 hP hD hS => ?_)
        have hP : va_P g vwCl [((y 10), .inl (k.1, 9, .inl (iF fi))), ((y 0), .inr (4, [.int (iI 2), .int (iI n), .ref (y 1), .ref (y 2), .ref (y 3), .ref (y 4), .ref (y 5), .ref (y 6), .ref (y 7), .ref (y 8), .ref (y 9), .int (iI st), .int (iI pe), .int (iI dr), .int (iI lf), .int (iI rt), .int (iI ra), .ref (y 10), .ref (y 11), .int (iI dp), .ref (y 12), .ref (y 13), .int (iI ov), .ref (y 14), .int (iI bs), .int (iI bo), .int (iI mo), .int (iI su)]))] H := hP
        have hD : va_D A [((y 10), .inl (k.1, 9, .inl (iF fi))), ((y 0), .inr (4, [.int (iI 2), .int (iI n), .ref (y 1), .ref (y 2), .ref (y 3), .ref (y 4), .ref (y 5), .ref (y 6), .ref (y 7), .ref (y 8), .ref (y 9), .int (iI st), .int (iI pe), .int (iI dr), .int (iI lf), .int (iI rt), .int (iI ra), .ref (y 10), .ref (y 11), .int (iI dp), .ref (y 12), .ref (y 13), .int (iI ov), .ref (y 14), .int (iI bs), .int (iI bo), .int (iI mo), .int (iI su)]))] := hD
        have hP := hP.sub (ws' := [((y 0), .inr (4, [.int (iI 2), .int (iI n), .ref (y 1), .ref (y 2), .ref (y 3), .ref (y 4), .ref (y 5), .ref (y 6), .ref (y 7), .ref (y 8), .ref (y 9), .int (iI st), .int (iI pe), .int (iI dr), .int (iI lf), .int (iI rt), .int (iI ra), .ref (y 10), .ref (y 11), .int (iI dp), .ref (y 12), .ref (y 13), .int (iI ov), .ref (y 14), .int (iI bs), .int (iI bo), .int (iI mo), .int (iI su)])), ((y 10), .inl (k.1, 9, .inl (iF fi)))]) [1, 0] rfl
        have hD := hD.sub (ws' := [((y 0), .inr (4, [.int (iI 2), .int (iI n), .ref (y 1), .ref (y 2), .ref (y 3), .ref (y 4), .ref (y 5), .ref (y 6), .ref (y 7), .ref (y 8), .ref (y 9), .int (iI st), .int (iI pe), .int (iI dr), .int (iI lf), .int (iI rt), .int (iI ra), .ref (y 10), .ref (y 11), .int (iI dp), .ref (y 12), .ref (y 13), .int (iI ov), .ref (y 14), .int (iI bs), .int (iI bo), .int (iI mo), .int (iI su)])), ((y 10), .inl (k.1, 9, .inl (iF fi)))]) [1, 0] (by decide) rfl
        refine ri_top (y := iI 0) hu39 ?_
        exact hret (iI 0) 2 _ _ _ _ dX4_figure_42 (Or.inr (Or.inr ⟨by omega, by omega, rfl, rfl⟩)) hP hD hS
      · skip
        refine lv_aload_n hx hb dX4_figure_28 rfl (lv_at hl 0 rfl) ?_
        refine va_get (D := g) (ci := 4) (v := .ref (y 10)) (C := RX4) (T := TX4) (N := 28) hx hb hts inX4 hown hK.1 hP 0 rfl rfl 17 (by decide) f37 (fun _ h9 => h9) rfl dX4_figure_29 ?_
        refine lv_iload_n hx hb dX4_figure_32 rfl (lv_at hl 1 rfl) ?_
        refine ri_iald (F := fi) (i := w) hx hb hK.1 hP 1 0 rfl rfl (by omega) (by omega) dX4_figure_33 ?_
        refine lv_goto (tgt := 42) hx hb dX4_figure_34 (by decide) ?_
        exact hret (iI (fi w)) 0 _ _ _ _ dX4_figure_42 (Or.inl ⟨by omega, by omega, rfl, rfl⟩) hP hD hS
    · skip
      refine lv_aload_n hx hb dX4_figure_15 rfl (lv_at hl 0 rfl) ?_
      refine lv_iconst (v := iI 1) hx hb dX4_figure_16 rfl ?_
      refine rc_I (own := RX4) (q := (RX4, TX4, 28)) (wc := [((y 0), .inr (4, [.int (iI 0), .int (iI n), .ref (y 1), .ref (y 2), .ref (y 3), .ref (y 4), .ref (y 5), .ref (y 6), .ref (y 7), .ref (y 8), .ref (y 9), .int (iI st), .int (iI pe), .int (iI dr), .int (iI lf), .int (iI rt), .int (iI ra), .ref (y 10), .ref (y 11), .int (iI dp), .ref (y 12), .ref (y 13), .int (iI ov), .ref (y 14), .int (iI bs), .int (iI bo), .int (iI mo), .int (iI su)]))]) (wr := [((y 10), .inl (k.1, 9, .inl (iF fi)))]) (As := [.int (iI 1)]) (rest := []) ⟨hx, hb, hml, hown, hts⟩ (r_refuse l g k y 0 n st pe dr lf rt ra dp ov bs bo mo su H.size 1) (cwV 1 hts gX4_figure_X4_refuse rfl rfl rfl (by decide +kernel) ⟨Nat.le_of_ble_eq_true rfl, Nat.le_of_ble_eq_true rfl⟩) hK hP hD hS hA [0] [1] rfl (by decide) rfl (by decide) (by decide) (ci := 4) (q0 := 0) rfl rfl rfl rfl hl.1 (Nat.le_of_ble_eq_true rfl) ⟨Nat.le_of_ble_eq_true rfl, Nat.le_of_ble_eq_true rfl⟩ dX4_figure_17 (fun r17 u17 H locs hu17 hP hD hS => ?_)
      have hP : va_P g vwCl [((y 10), .inl (k.1, 9, .inl (iF fi))), ((y 0), .inr (4, [.int (iI 1), .int (iI n), .ref (y 1), .ref (y 2), .ref (y 3), .ref (y 4), .ref (y 5), .ref (y 6), .ref (y 7), .ref (y 8), .ref (y 9), .int (iI st), .int (iI pe), .int (iI dr), .int (iI lf), .int (iI rt), .int (iI ra), .ref (y 10), .ref (y 11), .int (iI dp), .ref (y 12), .ref (y 13), .int (iI ov), .ref (y 14), .int (iI bs), .int (iI bo), .int (iI mo), .int (iI su)]))] H := hP
      have hD : va_D A [((y 10), .inl (k.1, 9, .inl (iF fi))), ((y 0), .inr (4, [.int (iI 1), .int (iI n), .ref (y 1), .ref (y 2), .ref (y 3), .ref (y 4), .ref (y 5), .ref (y 6), .ref (y 7), .ref (y 8), .ref (y 9), .int (iI st), .int (iI pe), .int (iI dr), .int (iI lf), .int (iI rt), .int (iI ra), .ref (y 10), .ref (y 11), .int (iI dp), .ref (y 12), .ref (y 13), .int (iI ov), .ref (y 14), .int (iI bs), .int (iI bo), .int (iI mo), .int (iI su)]))] := hD
      have hP := hP.sub (ws' := [((y 0), .inr (4, [.int (iI 1), .int (iI n), .ref (y 1), .ref (y 2), .ref (y 3), .ref (y 4), .ref (y 5), .ref (y 6), .ref (y 7), .ref (y 8), .ref (y 9), .int (iI st), .int (iI pe), .int (iI dr), .int (iI lf), .int (iI rt), .int (iI ra), .ref (y 10), .ref (y 11), .int (iI dp), .ref (y 12), .ref (y 13), .int (iI ov), .ref (y 14), .int (iI bs), .int (iI bo), .int (iI mo), .int (iI su)])), ((y 10), .inl (k.1, 9, .inl (iF fi)))]) [1, 0] rfl
      have hD := hD.sub (ws' := [((y 0), .inr (4, [.int (iI 1), .int (iI n), .ref (y 1), .ref (y 2), .ref (y 3), .ref (y 4), .ref (y 5), .ref (y 6), .ref (y 7), .ref (y 8), .ref (y 9), .int (iI st), .int (iI pe), .int (iI dr), .int (iI lf), .int (iI rt), .int (iI ra), .ref (y 10), .ref (y 11), .int (iI dp), .ref (y 12), .ref (y 13), .int (iI ov), .ref (y 14), .int (iI bs), .int (iI bo), .int (iI mo), .int (iI su)])), ((y 10), .inl (k.1, 9, .inl (iF fi)))]) [1, 0] (by decide) rfl
      refine ri_top (y := iI 0) hu17 ?_
      exact hret (iI 0) 1 _ _ _ _ dX4_figure_20 (Or.inr (Or.inl ⟨by omega, rfl, rfl⟩)) hP hD hS

set_option maxHeartbeats 4000000 in
set_option maxRecDepth 100000 in
theorem r_cell (l : Launch) (g : va_G) (k : kT) (y : Nat → Nat) (thr n st pe dr lf rt ra dp ov bs bo mo su : Int) (ke t : Int → Int) (sz : Nat) (w : Int) (hra : ra = 0 ∨ ra = 1) (hke : ra = 1 → ke = tpM t) (ht0 : ∀ j, (j < -300 ∨ 300 < j) → t j = 0) (hr : -2147483648 ≤ w ∧ w < 2147483648) : cI l yX4_cell wsX4_cell rm_1 g k [yO y thr n st pe dr lf rt ra dp ov bs bo mo su, ((y 11), .inl (k.1, 620, .inl (iF ke)))] sz [.ref (y 0), .int (iI w)] 0 0 (fun u : Int => [yO y u n st pe dr lf rt ra dp ov bs bo mo su, ((y 11), .inl (k.1, 620, .inl (iF ke)))]) (fun r u => (¬ ra = 0 ∧ r = iI (t w) ∧ u = 0) ∨ (ra = 0 ∧ r = iI 0 ∧ u = 1)) := by
  refine st_I (by decide) rfl (Nat.le_of_ble_eq_true rfl) ?_
  intro p e s m below meth c Q A hx hb hml hown hts hA hP hD hS hK hret ls hl
  have hown : s.vm.findClass RX4 = some m.cls := hown
  have f59 := hts (.fieldLink RX4 59 "MachineTreeModel" "thrown" "I") (by decide +kernel)
  have inX4 := (by decide +kernel : ∀ w ∈ wsX40, w ∈ wsX4_cell)
  have f66 := hts (.fieldLink RX4 66 "MachineTreeModel" "ran" "Z") (by decide +kernel)
  have f40 := hts (.fieldLink RX4 40 "MachineTreeModel" "kept" "[I") (by decide +kernel)
  have hl : lv_has ls 2 [(0, .ref (y 0)), (1, .int (iI w))] := hl
  obtain ⟨H, hH⟩ : ∃ H, H = s.heap := ⟨_, rfl⟩
  obtain ⟨locs, hlo⟩ : ∃ L : List Loc, L = [] := ⟨_, rfl⟩
  rw [← hH] at hP
  have hS : va_S A s.heap H locs := by rw [hH, hlo]; exact hS
  rw [show W p l e rm_1 s m ([.ref (y 0), .int (iI w)] : List Value).toArray below meth c s.heap [] 0 0 Q (F0 m 0 ls []) = W p l e rm_1 s m ([.ref (y 0), .int (iI w)] : List Value).toArray below meth c H locs 0 0 Q (F0 m 0 ls []) by rw [hH, hlo]]
  clear hH hlo
  refine lv_aload_n hx hb dX4_cell_0 rfl (lv_at hl 0 rfl) ?_
  refine lv_iconst (v := iI 0) hx hb dX4_cell_1 rfl ?_
  refine va_put (D := g) (ci := 4) (v := .int (iI 0)) (ty := .int) (C := RX4) (T := TX4) (N := 28) hx hb hts inX4 tyX4 tyX4_ok nmX4 hown hK.1 hP hD hS 0 rfl rfl 0 (by decide) f59 (fun _ h9 => h9) rfl (by decide +kernel) rfl rfl (Nat.le_of_ble_eq_true rfl) dX4_cell_2 (fun H locs hP hD hS => ?_)
  have hP : va_P g vwCl [((y 0), .inr (4, [.int (iI 0), .int (iI n), .ref (y 1), .ref (y 2), .ref (y 3), .ref (y 4), .ref (y 5), .ref (y 6), .ref (y 7), .ref (y 8), .ref (y 9), .int (iI st), .int (iI pe), .int (iI dr), .int (iI lf), .int (iI rt), .int (iI ra), .ref (y 10), .ref (y 11), .int (iI dp), .ref (y 12), .ref (y 13), .int (iI ov), .ref (y 14), .int (iI bs), .int (iI bo), .int (iI mo), .int (iI su)])), ((y 11), .inl (k.1, 620, .inl (iF ke)))] H := hP
  have hD : va_D A [((y 0), .inr (4, [.int (iI 0), .int (iI n), .ref (y 1), .ref (y 2), .ref (y 3), .ref (y 4), .ref (y 5), .ref (y 6), .ref (y 7), .ref (y 8), .ref (y 9), .int (iI st), .int (iI pe), .int (iI dr), .int (iI lf), .int (iI rt), .int (iI ra), .ref (y 10), .ref (y 11), .int (iI dp), .ref (y 12), .ref (y 13), .int (iI ov), .ref (y 14), .int (iI bs), .int (iI bo), .int (iI mo), .int (iI su)])), ((y 11), .inl (k.1, 620, .inl (iF ke)))] := hD
  refine lv_aload_n hx hb dX4_cell_5 rfl (lv_at hl 0 rfl) ?_
  refine va_get (D := g) (ci := 4) (v := .int (iI ra)) (C := RX4) (T := TX4) (N := 28) hx hb hts inX4 hown hK.1 hP 0 rfl rfl 16 (by decide) f66 (fun _ h9 => h9) rfl dX4_cell_6 ?_
  refine ri_if_ne (a := ra) (tgt := 18) hx hb (by omega) dX4_cell_9 (by decide) (fun c9 => ?_) (fun c9 => ?_)
  · skip
    refine lv_iload_n hx hb dX4_cell_18 rfl (lv_at hl 1 rfl) ?_
    refine lv_sipush (v := iI (-300)) hx hb dX4_cell_19 (by decide) ?_
    refine ri_icmp_lt (a := w) (b := (-300)) (tgt := 32) hx hb (by omega) (by omega) dX4_cell_22 (by decide) (fun c22 => ?_) (fun c22 => ?_)
    · skip
      refine lv_iconst (v := iI 0) hx hb dX4_cell_32 rfl ?_
      refine lv_goto (tgt := 46) hx hb dX4_cell_33 (by decide) ?_
      exact hret (iI 0) 0 _ _ _ _ dX4_cell_46 (Or.inl ⟨by omega, by rw [ht0 w (by omega)], rfl⟩) hP hD hS
    · skip
      refine lv_iload_n hx hb dX4_cell_25 rfl (lv_at hl 1 rfl) ?_
      refine lv_sipush (v := iI 300) hx hb dX4_cell_26 (by decide) ?_
      refine ri_icmp_le (a := w) (b := 300) (tgt := 36) hx hb (by omega) (by omega) dX4_cell_29 (by decide) (fun c29 => ?_) (fun c29 => ?_)
      · skip
        refine lv_aload_n hx hb dX4_cell_36 rfl (lv_at hl 0 rfl) ?_
        refine va_get (D := g) (ci := 4) (v := .ref (y 11)) (C := RX4) (T := TX4) (N := 28) hx hb hts inX4 hown hK.1 hP 0 rfl rfl 18 (by decide) f40 (fun _ h9 => h9) rfl dX4_cell_37 ?_
        refine lv_sipush (v := iI 310) hx hb dX4_cell_40 (by decide) ?_
        refine lv_iload_n hx hb dX4_cell_43 rfl (lv_at hl 1 rfl) ?_
        refine ri_iadd (a := 310) (b := w) hx hb dX4_cell_44 ?_
        refine ri_iald (F := ke) (i := (310 + w)) hx hb hK.1 hP 1 0 rfl rfl (by omega) (by omega) dX4_cell_45 ?_
        exact hret (iI (ke (310 + w))) 0 _ _ _ _ dX4_cell_46 (Or.inl ⟨by omega, by rw [hke (by omega)]; show iI (tpM t (310 + w)) = _; unfold tpM; rw [show 310 + w - 310 = w by omega], rfl⟩) hP hD hS
      · skip
        refine lv_iconst (v := iI 0) hx hb dX4_cell_32 rfl ?_
        refine lv_goto (tgt := 46) hx hb dX4_cell_33 (by decide) ?_
        exact hret (iI 0) 0 _ _ _ _ dX4_cell_46 (Or.inl ⟨by omega, by rw [ht0 w (by omega)], rfl⟩) hP hD hS
  · skip
    refine lv_aload_n hx hb dX4_cell_12 rfl (lv_at hl 0 rfl) ?_
    refine lv_iconst (v := iI 1) hx hb dX4_cell_13 rfl ?_
    refine rc_I (own := RX4) (q := (RX4, TX4, 28)) (wc := [((y 0), .inr (4, [.int (iI 0), .int (iI n), .ref (y 1), .ref (y 2), .ref (y 3), .ref (y 4), .ref (y 5), .ref (y 6), .ref (y 7), .ref (y 8), .ref (y 9), .int (iI st), .int (iI pe), .int (iI dr), .int (iI lf), .int (iI rt), .int (iI ra), .ref (y 10), .ref (y 11), .int (iI dp), .ref (y 12), .ref (y 13), .int (iI ov), .ref (y 14), .int (iI bs), .int (iI bo), .int (iI mo), .int (iI su)]))]) (wr := [((y 11), .inl (k.1, 620, .inl (iF ke)))]) (As := [.int (iI 1)]) (rest := []) ⟨hx, hb, hml, hown, hts⟩ (r_refuse l g k y 0 n st pe dr lf rt ra dp ov bs bo mo su H.size 1) (cwV 1 hts gX4_cell_X4_refuse rfl rfl rfl (by decide +kernel) ⟨Nat.le_of_ble_eq_true rfl, Nat.le_of_ble_eq_true rfl⟩) hK hP hD hS hA [0] [1] rfl (by decide) rfl (by decide) (by decide) (ci := 4) (q0 := 0) rfl rfl rfl rfl hl.1 (Nat.le_of_ble_eq_true rfl) ⟨Nat.le_of_ble_eq_true rfl, Nat.le_of_ble_eq_true rfl⟩ dX4_cell_14 (fun r14 u14 H locs hu14 hP hD hS => ?_)
    have hP : va_P g vwCl [((y 11), .inl (k.1, 620, .inl (iF ke))), ((y 0), .inr (4, [.int (iI 1), .int (iI n), .ref (y 1), .ref (y 2), .ref (y 3), .ref (y 4), .ref (y 5), .ref (y 6), .ref (y 7), .ref (y 8), .ref (y 9), .int (iI st), .int (iI pe), .int (iI dr), .int (iI lf), .int (iI rt), .int (iI ra), .ref (y 10), .ref (y 11), .int (iI dp), .ref (y 12), .ref (y 13), .int (iI ov), .ref (y 14), .int (iI bs), .int (iI bo), .int (iI mo), .int (iI su)]))] H := hP
    have hD : va_D A [((y 11), .inl (k.1, 620, .inl (iF ke))), ((y 0), .inr (4, [.int (iI 1), .int (iI n), .ref (y 1), .ref (y 2), .ref (y 3), .ref (y 4), .ref (y 5), .ref (y 6), .ref (y 7), .ref (y 8), .ref (y 9), .int (iI st), .int (iI pe), .int (iI dr), .int (iI lf), .int (iI rt), .int (iI ra), .ref (y 10), .ref (y 11), .int (iI dp), .ref (y 12), .ref (y 13), .int (iI ov), .ref (y 14), .int (iI bs), .int (iI bo), .int (iI mo), .int (iI su)]))] := hD
    have hP := hP.sub (ws' := [((y 0), .inr (4, [.int (iI 1), .int (iI n), .ref (y 1), .ref (y 2), .ref (y 3), .ref (y 4), .ref (y 5), .ref (y 6), .ref (y 7), .ref (y 8), .ref (y 9), .int (iI st), .int (iI pe), .int (iI dr), .int (iI lf), .int (iI rt), .int (iI ra), .ref (y 10), .ref (y 11), .int (iI dp), .ref (y 12), .ref (y 13), .int (iI ov), .ref (y 14), .int (iI bs), .int (iI bo), .int (iI mo), .int (iI su)])), ((y 11), .inl (k.1, 620, .inl (iF ke)))]) [1, 0] rfl
    have hD := hD.sub (ws' := [((y 0), .inr (4, [.int (iI 1), .int (iI n), .ref (y 1), .ref (y 2), .ref (y 3), .ref (y 4), .ref (y 5), .ref (y 6), .ref (y 7), .ref (y 8), .ref (y 9), .int (iI st), .int (iI pe), .int (iI dr), .int (iI lf), .int (iI rt), .int (iI ra), .ref (y 10), .ref (y 11), .int (iI dp), .ref (y 12), .ref (y 13), .int (iI ov), .ref (y 14), .int (iI bs), .int (iI bo), .int (iI mo), .int (iI su)])), ((y 11), .inl (k.1, 620, .inl (iF ke)))]) [1, 0] (by decide) rfl
    refine ri_top (y := iI 0) hu14 ?_
    exact hret (iI 0) 1 _ _ _ _ dX4_cell_17 (Or.inr ⟨by omega, rfl, rfl⟩) hP hD hS

set_option maxHeartbeats 4000000 in
set_option maxRecDepth 100000 in
theorem r_share (l : Launch) (g : va_G) (k : kT) (y : Nat → Nat) (thr n st pe dr lf rt ra dp ov bs bo mo su : Int) (fi : Int → Int) (sz : Nat) (hra : ra = 0 ∨ ra = 1) (hnan : ra = 1 → vf_n32 (FP.fdiv (FP.i2f (iI (fi 6))) (FP.i2f (iI (fi 8 - fi 7 + 1))))) : cF l yX4_share wsX4_share rm_1 g k [yO y thr n st pe dr lf rt ra dp ov bs bo mo su, ((y 10), .inl (k.1, 9, .inl (iF fi)))] sz [.ref (y 0)] 0 0 (fun u : Int => [yO y u n st pe dr lf rt ra dp ov bs bo mo su, ((y 10), .inl (k.1, 9, .inl (iF fi)))]) (fun r u => (¬ ra = 0 ∧ r = FP.fdiv (FP.i2f (iI (fi 6))) (FP.i2f (iI (fi 8 - fi 7 + 1))) ∧ u = 0) ∨ (ra = 0 ∧ u = 1)) := by
  refine st_F (by decide) rfl (Nat.le_of_ble_eq_true rfl) ?_
  intro p e s m below meth c Q A hx hb hml hown hts hA hP hD hS hK hret ls hl
  have hown : s.vm.findClass RX4 = some m.cls := hown
  have f59 := hts (.fieldLink RX4 59 "MachineTreeModel" "thrown" "I") (by decide +kernel)
  have inX4 := (by decide +kernel : ∀ w ∈ wsX40, w ∈ wsX4_share)
  have f66 := hts (.fieldLink RX4 66 "MachineTreeModel" "ran" "Z") (by decide +kernel)
  have f37 := hts (.fieldLink RX4 37 "MachineTreeModel" "figures" "[I") (by decide +kernel)
  have hl : lv_has ls 1 [(0, .ref (y 0))] := hl
  obtain ⟨H, hH⟩ : ∃ H, H = s.heap := ⟨_, rfl⟩
  obtain ⟨locs, hlo⟩ : ∃ L : List Loc, L = [] := ⟨_, rfl⟩
  rw [← hH] at hP
  have hS : va_S A s.heap H locs := by rw [hH, hlo]; exact hS
  rw [show W p l e rm_1 s m ([.ref (y 0)] : List Value).toArray below meth c s.heap [] 0 0 Q (F0 m 0 ls []) = W p l e rm_1 s m ([.ref (y 0)] : List Value).toArray below meth c H locs 0 0 Q (F0 m 0 ls []) by rw [hH, hlo]]
  clear hH hlo
  refine lv_aload_n hx hb dX4_share_0 rfl (lv_at hl 0 rfl) ?_
  refine lv_iconst (v := iI 0) hx hb dX4_share_1 rfl ?_
  refine va_put (D := g) (ci := 4) (v := .int (iI 0)) (ty := .int) (C := RX4) (T := TX4) (N := 28) hx hb hts inX4 tyX4 tyX4_ok nmX4 hown hK.1 hP hD hS 0 rfl rfl 0 (by decide) f59 (fun _ h9 => h9) rfl (by decide +kernel) rfl rfl (Nat.le_of_ble_eq_true rfl) dX4_share_2 (fun H locs hP hD hS => ?_)
  have hP : va_P g vwCl [((y 0), .inr (4, [.int (iI 0), .int (iI n), .ref (y 1), .ref (y 2), .ref (y 3), .ref (y 4), .ref (y 5), .ref (y 6), .ref (y 7), .ref (y 8), .ref (y 9), .int (iI st), .int (iI pe), .int (iI dr), .int (iI lf), .int (iI rt), .int (iI ra), .ref (y 10), .ref (y 11), .int (iI dp), .ref (y 12), .ref (y 13), .int (iI ov), .ref (y 14), .int (iI bs), .int (iI bo), .int (iI mo), .int (iI su)])), ((y 10), .inl (k.1, 9, .inl (iF fi)))] H := hP
  have hD : va_D A [((y 0), .inr (4, [.int (iI 0), .int (iI n), .ref (y 1), .ref (y 2), .ref (y 3), .ref (y 4), .ref (y 5), .ref (y 6), .ref (y 7), .ref (y 8), .ref (y 9), .int (iI st), .int (iI pe), .int (iI dr), .int (iI lf), .int (iI rt), .int (iI ra), .ref (y 10), .ref (y 11), .int (iI dp), .ref (y 12), .ref (y 13), .int (iI ov), .ref (y 14), .int (iI bs), .int (iI bo), .int (iI mo), .int (iI su)])), ((y 10), .inl (k.1, 9, .inl (iF fi)))] := hD
  refine lv_aload_n hx hb dX4_share_5 rfl (lv_at hl 0 rfl) ?_
  refine va_get (D := g) (ci := 4) (v := .int (iI ra)) (C := RX4) (T := TX4) (N := 28) hx hb hts inX4 hown hK.1 hP 0 rfl rfl 16 (by decide) f66 (fun _ h9 => h9) rfl dX4_share_6 ?_
  refine ri_if_ne (a := ra) (tgt := 19) hx hb (by omega) dX4_share_9 (by decide) (fun c9 => ?_) (fun c9 => ?_)
  · skip
    refine lv_aload_n hx hb dX4_share_19 rfl (lv_at hl 0 rfl) ?_
    refine va_get (D := g) (ci := 4) (v := .ref (y 10)) (C := RX4) (T := TX4) (N := 28) hx hb hts inX4 hown hK.1 hP 0 rfl rfl 17 (by decide) f37 (fun _ h9 => h9) rfl dX4_share_20 ?_
    refine lv_bipush (v := iI 6) hx hb dX4_share_23 (by decide) ?_
    refine ri_iald (F := fi) (i := 6) hx hb hK.1 hP 1 0 rfl rfl (by omega) (by omega) dX4_share_25 ?_
    refine lv_i2f hx hb dX4_share_26 ?_
    refine lv_aload_n hx hb dX4_share_27 rfl (lv_at hl 0 rfl) ?_
    refine va_get (D := g) (ci := 4) (v := .ref (y 10)) (C := RX4) (T := TX4) (N := 28) hx hb hts inX4 hown hK.1 hP 0 rfl rfl 17 (by decide) f37 (fun _ h9 => h9) rfl dX4_share_28 ?_
    refine lv_bipush (v := iI 8) hx hb dX4_share_31 (by decide) ?_
    refine ri_iald (F := fi) (i := 8) hx hb hK.1 hP 1 0 rfl rfl (by omega) (by omega) dX4_share_33 ?_
    refine lv_aload_n hx hb dX4_share_34 rfl (lv_at hl 0 rfl) ?_
    refine va_get (D := g) (ci := 4) (v := .ref (y 10)) (C := RX4) (T := TX4) (N := 28) hx hb hts inX4 hown hK.1 hP 0 rfl rfl 17 (by decide) f37 (fun _ h9 => h9) rfl dX4_share_35 ?_
    refine lv_bipush (v := iI 7) hx hb dX4_share_38 (by decide) ?_
    refine ri_iald (F := fi) (i := 7) hx hb hK.1 hP 1 0 rfl rfl (by omega) (by omega) dX4_share_40 ?_
    refine ri_isub (a := (fi 8)) (b := (fi 7)) hx hb dX4_share_41 ?_
    refine lv_iconst (v := iI 1) hx hb dX4_share_42 rfl ?_
    refine ri_iadd (a := ((fi 8) - (fi 7))) (b := 1) hx hb dX4_share_43 ?_
    refine lv_i2f hx hb dX4_share_44 ?_
    refine lv_fdiv hx hb dX4_share_45 (hnan (by omega)) ?_
    exact hret (FP.fdiv (FP.i2f (iI (fi 6))) (FP.i2f (iI (((fi 8) - (fi 7)) + 1)))) 0 _ _ _ _ dX4_share_46 (Or.inl ⟨by omega, rfl, rfl⟩) hP hD hS
  · skip
    refine lv_aload_n hx hb dX4_share_12 rfl (lv_at hl 0 rfl) ?_
    refine lv_iconst (v := iI 1) hx hb dX4_share_13 rfl ?_
    refine rc_I (own := RX4) (q := (RX4, TX4, 28)) (wc := [((y 0), .inr (4, [.int (iI 0), .int (iI n), .ref (y 1), .ref (y 2), .ref (y 3), .ref (y 4), .ref (y 5), .ref (y 6), .ref (y 7), .ref (y 8), .ref (y 9), .int (iI st), .int (iI pe), .int (iI dr), .int (iI lf), .int (iI rt), .int (iI ra), .ref (y 10), .ref (y 11), .int (iI dp), .ref (y 12), .ref (y 13), .int (iI ov), .ref (y 14), .int (iI bs), .int (iI bo), .int (iI mo), .int (iI su)]))]) (wr := [((y 10), .inl (k.1, 9, .inl (iF fi)))]) (As := [.int (iI 1)]) (rest := []) ⟨hx, hb, hml, hown, hts⟩ (r_refuse l g k y 0 n st pe dr lf rt ra dp ov bs bo mo su H.size 1) (cwV 1 hts gX4_share_X4_refuse rfl rfl rfl (by decide +kernel) ⟨Nat.le_of_ble_eq_true rfl, Nat.le_of_ble_eq_true rfl⟩) hK hP hD hS hA [0] [1] rfl (by decide) rfl (by decide) (by decide) (ci := 4) (q0 := 0) rfl rfl rfl rfl hl.1 (Nat.le_of_ble_eq_true rfl) ⟨Nat.le_of_ble_eq_true rfl, Nat.le_of_ble_eq_true rfl⟩ dX4_share_14 (fun r14 u14 H locs hu14 hP hD hS => ?_)
    have hP : va_P g vwCl [((y 10), .inl (k.1, 9, .inl (iF fi))), ((y 0), .inr (4, [.int (iI 1), .int (iI n), .ref (y 1), .ref (y 2), .ref (y 3), .ref (y 4), .ref (y 5), .ref (y 6), .ref (y 7), .ref (y 8), .ref (y 9), .int (iI st), .int (iI pe), .int (iI dr), .int (iI lf), .int (iI rt), .int (iI ra), .ref (y 10), .ref (y 11), .int (iI dp), .ref (y 12), .ref (y 13), .int (iI ov), .ref (y 14), .int (iI bs), .int (iI bo), .int (iI mo), .int (iI su)]))] H := hP
    have hD : va_D A [((y 10), .inl (k.1, 9, .inl (iF fi))), ((y 0), .inr (4, [.int (iI 1), .int (iI n), .ref (y 1), .ref (y 2), .ref (y 3), .ref (y 4), .ref (y 5), .ref (y 6), .ref (y 7), .ref (y 8), .ref (y 9), .int (iI st), .int (iI pe), .int (iI dr), .int (iI lf), .int (iI rt), .int (iI ra), .ref (y 10), .ref (y 11), .int (iI dp), .ref (y 12), .ref (y 13), .int (iI ov), .ref (y 14), .int (iI bs), .int (iI bo), .int (iI mo), .int (iI su)]))] := hD
    have hP := hP.sub (ws' := [((y 0), .inr (4, [.int (iI 1), .int (iI n), .ref (y 1), .ref (y 2), .ref (y 3), .ref (y 4), .ref (y 5), .ref (y 6), .ref (y 7), .ref (y 8), .ref (y 9), .int (iI st), .int (iI pe), .int (iI dr), .int (iI lf), .int (iI rt), .int (iI ra), .ref (y 10), .ref (y 11), .int (iI dp), .ref (y 12), .ref (y 13), .int (iI ov), .ref (y 14), .int (iI bs), .int (iI bo), .int (iI mo), .int (iI su)])), ((y 10), .inl (k.1, 9, .inl (iF fi)))]) [1, 0] rfl
    have hD := hD.sub (ws' := [((y 0), .inr (4, [.int (iI 1), .int (iI n), .ref (y 1), .ref (y 2), .ref (y 3), .ref (y 4), .ref (y 5), .ref (y 6), .ref (y 7), .ref (y 8), .ref (y 9), .int (iI st), .int (iI pe), .int (iI dr), .int (iI lf), .int (iI rt), .int (iI ra), .ref (y 10), .ref (y 11), .int (iI dp), .ref (y 12), .ref (y 13), .int (iI ov), .ref (y 14), .int (iI bs), .int (iI bo), .int (iI mo), .int (iI su)])), ((y 10), .inl (k.1, 9, .inl (iF fi)))]) [1, 0] (by decide) rfl
    refine ri_top (y := iI 0) hu14 ?_
    refine lv_i2f hx hb dX4_share_17 ?_
    exact hret (FP.i2f (iI 0)) 1 _ _ _ _ dX4_share_18 (Or.inr ⟨by omega, rfl⟩) hP hD hS

theorem nz_s (F : Int → Int) (i : Int) (h : 0 ≤ i) : nz F (i + 1).toNat = nz F i.toNat + (if 0 ≤ F i then 1 else 0) := by
  rw [show (i + 1).toNat = i.toNat + 1 by omega]
  show nz F i.toNat + (if 0 ≤ F ((i.toNat : Nat) : Int) then 1 else 0) = _
  rw [Int.toNat_of_nonneg h]
theorem nz_b (F : Int → Int) : ∀ N : Nat, 0 ≤ nz F N ∧ nz F N ≤ N
  | 0 => ⟨Int.le_refl 0, Int.le_refl 0⟩
  | N + 1 => by
    have h := nz_b F N
    simp only [nz]
    split <;> omega
set_option maxHeartbeats 4000000 in
set_option maxRecDepth 100000 in
theorem r_actions (l : Launch) (g : va_G) (k : kT) (y : Nat → Nat) (thr n st pe dr lf rt ra dp ov bs bo mo su : Int) (tr : Int → Int) (hF : okC tr) : cP l yX4_actions wsX4_actions rm_0 g k [yO y thr n st pe dr lf rt ra dp ov bs bo mo su, ((y 2), .inl (k.1, 8, .inl (iF tr)))] [.ref (y 0)] (fun r => r = iI (nz tr 8)) := by
  refine st_P (by decide) rfl (Nat.le_of_ble_eq_true rfl) ?_
  intro p e s m below meth c Q hx hb hml hown hts hP hK hret ls hl
  have hown : s.vm.findClass RX4 = some m.cls := hown
  have f13 := hts (.fieldLink RX4 13 "MachineTreeModel" "tree" "[I") (by decide +kernel)
  have inX4 := (by decide +kernel : ∀ w ∈ wsX40, w ∈ wsX4_actions)
  have hl : lv_has ls 3 [(0, .ref (y 0))] := hl
  refine lv_iconst (v := iI 0) hx hb dX4_actions_0 rfl ?_
  refine lv_istore_n (lv' := [(1, .int (iI 0)), (0, .ref (y 0))]) hx hb dX4_actions_1 rfl hl (by decide) rfl (fun ls hl => ?_)
  refine lv_iconst (v := iI 0) hx hb dX4_actions_2 rfl ?_
  refine lv_istore_n (lv' := [(2, .int (iI 0)), (1, .int (iI 0)), (0, .ref (y 0))]) hx hb dX4_actions_3 rfl hl (by decide) rfl (fun ls hl => ?_)
  have J4 : ∀ (n9 : Nat) (i : Int) (x1 : Int), 8 - i < (n9 : Int) → (0 ≤ i ∧ i ≤ 8) → (x1 = nz tr i.toNat) → ∀ (ls : Array Slot), lv_has ls 3 [(0, .ref (y 0)), (1, .int (iI x1)), (2, .int (iI i))] → W p l e rm_0 s m ([.ref (y 0)] : List Value).toArray below meth c s.heap [] 0 0 Q (F0 m 4 ls []) := by
    intro n9
    induction n9 with
    | zero => intro i x1 hm9 hi hx9; exact absurd hm9 (by omega)
    | succ n9 ih =>
      intro i x1 hm9 hi hx9 ls hl
      have s9 := nz_b tr i.toNat
      refine lv_iload_n hx hb dX4_actions_4 rfl (lv_at hl 2 rfl) ?_
      refine lv_bipush (v := iI 8) hx hb dX4_actions_5 (by decide) ?_
      refine ri_icmp_ge (a := i) (b := 8) (tgt := 33) hx hb (by omega) (by omega) dX4_actions_7 (by decide) (fun c7 => ?_) (fun c7 => ?_)
      · skip
        refine lv_iload_n hx hb dX4_actions_33 rfl (lv_at hl 1 rfl) ?_
        exact hret (iI x1) _ _ dX4_actions_34 (by rw [hx9, show i.toNat = 8 by omega])
      · skip
        have J26 : ∀ (x : Int),  (x = nz tr (i + 1).toNat) → ∀ (ls : Array Slot), lv_has ls 3 [(0, .ref (y 0)), (2, .int (iI i))] → W p l e rm_0 s m ([.ref (y 0)] : List Value).toArray below meth c s.heap [] 0 0 Q (F0 m 26 ls [.int (iI x)]) := by
          intro x hx8 ls hl
          refine lv_istore_n (lv' := [(1, .int (iI x)), (0, .ref (y 0)), (2, .int (iI i))]) hx hb dX4_actions_26 rfl hl (by decide) rfl (fun ls hl => ?_)
          refine ri_iinc (x := i) (lv' := [(2, .int (iI (i + 1))), (1, .int (iI x)), (0, .ref (y 0))]) hx hb dX4_actions_27 hl (k := 2) rfl (by decide) rfl (fun ls hl => ?_)
          refine lv_goto (tgt := 4) hx hb dX4_actions_30 (by decide) ?_
          exact ih (i + 1) x (by omega) (by omega) hx8 _ (lv_sub hl [2, 1, 0] rfl)
        have t9 := hF i (by omega) (by omega)
        refine lv_aload_n hx hb dX4_actions_10 rfl (lv_at hl 0 rfl) ?_
        refine va_get (D := g) (ci := 4) (v := .ref (y 2)) (C := RX4) (T := TX4) (N := 28) hx hb hts inX4 hown hK.1 hP 0 rfl rfl 3 (by decide) f13 (fun _ h9 => h9) rfl dX4_actions_11 ?_
        refine lv_iload_n hx hb dX4_actions_14 rfl (lv_at hl 2 rfl) ?_
        refine ri_iald (F := tr) (i := i) hx hb hK.1 hP 1 0 rfl rfl (by omega) (by omega) dX4_actions_15 ?_
        refine ri_if_lt (a := (tr i)) (tgt := 25) hx hb (by omega) dX4_actions_16 (by decide) (fun c16 => ?_) (fun c16 => ?_)
        · skip
          refine lv_iload_n hx hb dX4_actions_25 rfl (lv_at hl 1 rfl) ?_
          exact J26 x1 (by rw [nz_s tr i (by omega), if_neg (by omega), hx9]; omega) _ (lv_sub hl [0, 2] rfl)
        · skip
          refine lv_iload_n hx hb dX4_actions_19 rfl (lv_at hl 1 rfl) ?_
          refine lv_iconst (v := iI 1) hx hb dX4_actions_20 rfl ?_
          refine ri_iadd (a := x1) (b := 1) hx hb dX4_actions_21 ?_
          refine lv_goto (tgt := 26) hx hb dX4_actions_22 (by decide) ?_
          exact J26 (x1 + 1) (by rw [nz_s tr i (by omega), if_pos (by omega), hx9]) _ (lv_sub hl [0, 2] rfl)
  exact J4 ((8 - 0 : Int).toNat.succ) 0 0 (by omega) (by omega) rfl _ (lv_sub hl [2, 1, 0] rfl)

set_option maxHeartbeats 4000000 in
set_option maxRecDepth 100000 in
theorem r_greatest (l : Launch) (g : va_G) (k : kT) (y : Nat → Nat) (thr n st pe dr lf rt ra dp ov bs bo mo su : Int) (tr : Int → Int) (hF : okC tr) : cP l yX4_greatest wsX4_greatest rm_0 g k [yO y thr n st pe dr lf rt ra dp ov bs bo mo su, ((y 2), .inl (k.1, 8, .inl (iF tr)))] [.ref (y 0)] (fun r => r = iI (gN tr 8)) := by
  refine st_P (by decide) rfl (Nat.le_of_ble_eq_true rfl) ?_
  intro p e s m below meth c Q hx hb hml hown hts hP hK hret ls hl
  have hown : s.vm.findClass RX4 = some m.cls := hown
  have f13 := hts (.fieldLink RX4 13 "MachineTreeModel" "tree" "[I") (by decide +kernel)
  have inX4 := (by decide +kernel : ∀ w ∈ wsX40, w ∈ wsX4_greatest)
  have hl : lv_has ls 3 [(0, .ref (y 0))] := hl
  refine lv_iconst (v := iI 0) hx hb dX4_greatest_0 rfl ?_
  refine lv_istore_n (lv' := [(1, .int (iI 0)), (0, .ref (y 0))]) hx hb dX4_greatest_1 rfl hl (by decide) rfl (fun ls hl => ?_)
  refine lv_iconst (v := iI 0) hx hb dX4_greatest_2 rfl ?_
  refine lv_istore_n (lv' := [(2, .int (iI 0)), (1, .int (iI 0)), (0, .ref (y 0))]) hx hb dX4_greatest_3 rfl hl (by decide) rfl (fun ls hl => ?_)
  have J4 : ∀ (n9 : Nat) (i : Int) (x1 : Int), 8 - i < (n9 : Int) → (0 ≤ i ∧ i ≤ 8) → (x1 = gN tr i.toNat) → ∀ (ls : Array Slot), lv_has ls 3 [(0, .ref (y 0)), (1, .int (iI x1)), (2, .int (iI i))] → W p l e rm_0 s m ([.ref (y 0)] : List Value).toArray below meth c s.heap [] 0 0 Q (F0 m 4 ls []) := by
    intro n9
    induction n9 with
    | zero => intro i x1 hm9 hi hx9; exact absurd hm9 (by omega)
    | succ n9 ih =>
      intro i x1 hm9 hi hx9 ls hl
      have s9 := gN_le tr hF i.toNat (by omega)
      refine lv_iload_n hx hb dX4_greatest_4 rfl (lv_at hl 2 rfl) ?_
      refine lv_bipush (v := iI 8) hx hb dX4_greatest_5 (by decide) ?_
      refine ri_icmp_ge (a := i) (b := 8) (tgt := 50) hx hb (by omega) (by omega) dX4_greatest_7 (by decide) (fun c7 => ?_) (fun c7 => ?_)
      · skip
        refine lv_iload_n hx hb dX4_greatest_50 rfl (lv_at hl 1 rfl) ?_
        exact hret (iI x1) _ _ dX4_greatest_51 (by rw [hx9, show i.toNat = 8 by omega])
      · skip
        have J43 : ∀ (x : Int),  (x = gN tr (i + 1).toNat) → ∀ (ls : Array Slot), lv_has ls 3 [(0, .ref (y 0)), (2, .int (iI i))] → W p l e rm_0 s m ([.ref (y 0)] : List Value).toArray below meth c s.heap [] 0 0 Q (F0 m 43 ls [.int (iI x)]) := by
          intro x hx8 ls hl
          refine lv_istore_n (lv' := [(1, .int (iI x)), (0, .ref (y 0)), (2, .int (iI i))]) hx hb dX4_greatest_43 rfl hl (by decide) rfl (fun ls hl => ?_)
          refine ri_iinc (x := i) (lv' := [(2, .int (iI (i + 1))), (1, .int (iI x)), (0, .ref (y 0))]) hx hb dX4_greatest_44 hl (k := 2) rfl (by decide) rfl (fun ls hl => ?_)
          refine lv_goto (tgt := 4) hx hb dX4_greatest_47 (by decide) ?_
          exact ih (i + 1) x (by omega) (by omega) hx8 _ (lv_sub hl [2, 1, 0] rfl)
        have t9 := hF i (by omega) (by omega)
        refine lv_aload_n hx hb dX4_greatest_10 rfl (lv_at hl 0 rfl) ?_
        refine va_get (D := g) (ci := 4) (v := .ref (y 2)) (C := RX4) (T := TX4) (N := 28) hx hb hts inX4 hown hK.1 hP 0 rfl rfl 3 (by decide) f13 (fun _ h9 => h9) rfl dX4_greatest_11 ?_
        refine lv_iload_n hx hb dX4_greatest_14 rfl (lv_at hl 2 rfl) ?_
        refine ri_iald (F := tr) (i := i) hx hb hK.1 hP 1 0 rfl rfl (by omega) (by omega) dX4_greatest_15 ?_
        refine ri_if_lt (a := (tr i)) (tgt := 42) hx hb (by omega) dX4_greatest_16 (by decide) (fun c16 => ?_) (fun c16 => ?_)
        · skip
          refine lv_iload_n hx hb dX4_greatest_42 rfl (lv_at hl 1 rfl) ?_
          exact J43 x1 (by rw [gN_s tr i (by omega), ← hx9]; omega) _ (lv_sub hl [0, 2] rfl)
        · skip
          refine lv_aload_n hx hb dX4_greatest_19 rfl (lv_at hl 0 rfl) ?_
          refine va_get (D := g) (ci := 4) (v := .ref (y 2)) (C := RX4) (T := TX4) (N := 28) hx hb hts inX4 hown hK.1 hP 0 rfl rfl 3 (by decide) f13 (fun _ h9 => h9) rfl dX4_greatest_20 ?_
          refine lv_iload_n hx hb dX4_greatest_23 rfl (lv_at hl 2 rfl) ?_
          refine ri_iald (F := tr) (i := i) hx hb hK.1 hP 1 0 rfl rfl (by omega) (by omega) dX4_greatest_24 ?_
          refine lv_iconst (v := iI 4) hx hb dX4_greatest_25 rfl ?_
          refine lv_idiv hx hb dX4_greatest_26 (by decide) ?_
          refine ri_top (iI_div (a := (tr i)) (b := 4) (by omega) (by decide)) ?_
          refine lv_iload_n hx hb dX4_greatest_27 rfl (lv_at hl 1 rfl) ?_
          refine ri_icmp_le (a := ((tr i) / 4)) (b := x1) (tgt := 42) hx hb (by omega) (by omega) dX4_greatest_28 (by decide) (fun c28 => ?_) (fun c28 => ?_)
          · skip
            refine lv_iload_n hx hb dX4_greatest_42 rfl (lv_at hl 1 rfl) ?_
            exact J43 x1 (by rw [gN_s tr i (by omega), ← hx9]; omega) _ (lv_sub hl [0, 2] rfl)
          · skip
            refine lv_aload_n hx hb dX4_greatest_31 rfl (lv_at hl 0 rfl) ?_
            refine va_get (D := g) (ci := 4) (v := .ref (y 2)) (C := RX4) (T := TX4) (N := 28) hx hb hts inX4 hown hK.1 hP 0 rfl rfl 3 (by decide) f13 (fun _ h9 => h9) rfl dX4_greatest_32 ?_
            refine lv_iload_n hx hb dX4_greatest_35 rfl (lv_at hl 2 rfl) ?_
            refine ri_iald (F := tr) (i := i) hx hb hK.1 hP 1 0 rfl rfl (by omega) (by omega) dX4_greatest_36 ?_
            refine lv_iconst (v := iI 4) hx hb dX4_greatest_37 rfl ?_
            refine lv_idiv hx hb dX4_greatest_38 (by decide) ?_
            refine ri_top (iI_div (a := (tr i)) (b := 4) (by omega) (by decide)) ?_
            refine lv_goto (tgt := 43) hx hb dX4_greatest_39 (by decide) ?_
            exact J43 ((tr i) / 4) (by rw [gN_s tr i (by omega), ← hx9]; omega) _ (lv_sub hl [0, 2] rfl)
  exact J4 ((8 - 0 : Int).toNat.succ) 0 0 (by omega) (by omega) rfl _ (lv_sub hl [2, 1, 0] rfl)

def coF (op ha cy df : Int) : Int → Int := fun j => if j = 0 then op else if j = 1 then ha else if j = 2 then cy else if j = 3 then df else 0
theorem coF_tk {op ha cy df bs bo mo w : Int} (h : 0 ≤ w ∧ w < 4) : iI (coF op ha cy df w) = iI (takF op ha cy df bs bo mo w) := by
  rcases (show w = 0 ∨ w = 1 ∨ w = 2 ∨ w = 3 by omega) with rfl | rfl | rfl | rfl <;> rfl
set_option maxHeartbeats 4000000 in
set_option maxRecDepth 100000 in
theorem r_taken (l : Launch) (g : va_G) (k : kT) (y : Nat → Nat) (thr n st pe dr lf rt ra dp ov bs bo mo su : Int) (op ha cy df : Int) (sz : Nat) (w : Int) (hr : -2147483648 ≤ w ∧ w < 2147483648) : cI l yX4_taken wsX4_taken rm_1 g k [yO y thr n st pe dr lf rt ra dp ov bs bo mo su, ((y 14), .inl (k.1, 4, .inl (iF (coF op ha cy df))))] sz [.ref (y 0), .int (iI w)] 0 0 (fun u : Int => [yO y u n st pe dr lf rt ra dp ov bs bo mo su, ((y 14), .inl (k.1, 4, .inl (iF (coF op ha cy df))))]) (fun r u => ((0 ≤ w ∧ w ≤ 6) ∧ r = iI (takF op ha cy df bs bo mo w) ∧ u = 0) ∨ (¬ (0 ≤ w ∧ w ≤ 6) ∧ r = iI 0 ∧ u = 1)) := by
  refine st_I (by decide) rfl (Nat.le_of_ble_eq_true rfl) ?_
  intro p e s m below meth c Q A hx hb hml hown hts hA hP hD hS hK hret ls hl
  have hown : s.vm.findClass RX4 = some m.cls := hown
  have f59 := hts (.fieldLink RX4 59 "MachineTreeModel" "thrown" "I") (by decide +kernel)
  have inX4 := (by decide +kernel : ∀ w ∈ wsX40, w ∈ wsX4_taken)
  have f114 := hts (.fieldLink RX4 114 "MachineTreeModel" "mostOnes" "I") (by decide +kernel)
  have f120 := hts (.fieldLink RX4 120 "MachineTreeModel" "championOnes" "I") (by decide +kernel)
  have f117 := hts (.fieldLink RX4 117 "MachineTreeModel" "championSteps" "I") (by decide +kernel)
  have f53 := hts (.fieldLink RX4 53 "MachineTreeModel" "counts" "[I") (by decide +kernel)
  have hl : lv_has ls 2 [(0, .ref (y 0)), (1, .int (iI w))] := hl
  obtain ⟨H, hH⟩ : ∃ H, H = s.heap := ⟨_, rfl⟩
  obtain ⟨locs, hlo⟩ : ∃ L : List Loc, L = [] := ⟨_, rfl⟩
  rw [← hH] at hP
  have hS : va_S A s.heap H locs := by rw [hH, hlo]; exact hS
  rw [show W p l e rm_1 s m ([.ref (y 0), .int (iI w)] : List Value).toArray below meth c s.heap [] 0 0 Q (F0 m 0 ls []) = W p l e rm_1 s m ([.ref (y 0), .int (iI w)] : List Value).toArray below meth c H locs 0 0 Q (F0 m 0 ls []) by rw [hH, hlo]]
  clear hH hlo
  refine lv_aload_n hx hb dX4_taken_0 rfl (lv_at hl 0 rfl) ?_
  refine lv_iconst (v := iI 0) hx hb dX4_taken_1 rfl ?_
  refine va_put (D := g) (ci := 4) (v := .int (iI 0)) (ty := .int) (C := RX4) (T := TX4) (N := 28) hx hb hts inX4 tyX4 tyX4_ok nmX4 hown hK.1 hP hD hS 0 rfl rfl 0 (by decide) f59 (fun _ h9 => h9) rfl (by decide +kernel) rfl rfl (Nat.le_of_ble_eq_true rfl) dX4_taken_2 (fun H locs hP hD hS => ?_)
  have hP : va_P g vwCl [((y 0), .inr (4, [.int (iI 0), .int (iI n), .ref (y 1), .ref (y 2), .ref (y 3), .ref (y 4), .ref (y 5), .ref (y 6), .ref (y 7), .ref (y 8), .ref (y 9), .int (iI st), .int (iI pe), .int (iI dr), .int (iI lf), .int (iI rt), .int (iI ra), .ref (y 10), .ref (y 11), .int (iI dp), .ref (y 12), .ref (y 13), .int (iI ov), .ref (y 14), .int (iI bs), .int (iI bo), .int (iI mo), .int (iI su)])), ((y 14), .inl (k.1, 4, .inl (iF (coF op ha cy df))))] H := hP
  have hD : va_D A [((y 0), .inr (4, [.int (iI 0), .int (iI n), .ref (y 1), .ref (y 2), .ref (y 3), .ref (y 4), .ref (y 5), .ref (y 6), .ref (y 7), .ref (y 8), .ref (y 9), .int (iI st), .int (iI pe), .int (iI dr), .int (iI lf), .int (iI rt), .int (iI ra), .ref (y 10), .ref (y 11), .int (iI dp), .ref (y 12), .ref (y 13), .int (iI ov), .ref (y 14), .int (iI bs), .int (iI bo), .int (iI mo), .int (iI su)])), ((y 14), .inl (k.1, 4, .inl (iF (coF op ha cy df))))] := hD
  refine lv_iload_n hx hb dX4_taken_5 rfl (lv_at hl 1 rfl) ?_
  refine ri_if_lt (a := w) (tgt := 15) hx hb (by omega) dX4_taken_6 (by decide) (fun c6 => ?_) (fun c6 => ?_)
  · skip
    refine lv_aload_n hx hb dX4_taken_15 rfl (lv_at hl 0 rfl) ?_
    refine lv_iconst (v := iI 1) hx hb dX4_taken_16 rfl ?_
    refine rc_I (own := RX4) (q := (RX4, TX4, 28)) (wc := [((y 0), .inr (4, [.int (iI 0), .int (iI n), .ref (y 1), .ref (y 2), .ref (y 3), .ref (y 4), .ref (y 5), .ref (y 6), .ref (y 7), .ref (y 8), .ref (y 9), .int (iI st), .int (iI pe), .int (iI dr), .int (iI lf), .int (iI rt), .int (iI ra), .ref (y 10), .ref (y 11), .int (iI dp), .ref (y 12), .ref (y 13), .int (iI ov), .ref (y 14), .int (iI bs), .int (iI bo), .int (iI mo), .int (iI su)]))]) (wr := [((y 14), .inl (k.1, 4, .inl (iF (coF op ha cy df))))]) (As := [.int (iI 1)]) (rest := []) ⟨hx, hb, hml, hown, hts⟩ (r_refuse l g k y 0 n st pe dr lf rt ra dp ov bs bo mo su H.size 1) (cwV 1 hts gX4_taken_X4_refuse rfl rfl rfl (by decide +kernel) ⟨Nat.le_of_ble_eq_true rfl, Nat.le_of_ble_eq_true rfl⟩) hK hP hD hS hA [0] [1] rfl (by decide) rfl (by decide) (by decide) (ci := 4) (q0 := 0) rfl rfl rfl rfl hl.1 (Nat.le_of_ble_eq_true rfl) ⟨Nat.le_of_ble_eq_true rfl, Nat.le_of_ble_eq_true rfl⟩ dX4_taken_17 (fun r17 u17 H locs hu17 hP hD hS => ?_)
    have hP : va_P g vwCl [((y 14), .inl (k.1, 4, .inl (iF (coF op ha cy df)))), ((y 0), .inr (4, [.int (iI 1), .int (iI n), .ref (y 1), .ref (y 2), .ref (y 3), .ref (y 4), .ref (y 5), .ref (y 6), .ref (y 7), .ref (y 8), .ref (y 9), .int (iI st), .int (iI pe), .int (iI dr), .int (iI lf), .int (iI rt), .int (iI ra), .ref (y 10), .ref (y 11), .int (iI dp), .ref (y 12), .ref (y 13), .int (iI ov), .ref (y 14), .int (iI bs), .int (iI bo), .int (iI mo), .int (iI su)]))] H := hP
    have hD : va_D A [((y 14), .inl (k.1, 4, .inl (iF (coF op ha cy df)))), ((y 0), .inr (4, [.int (iI 1), .int (iI n), .ref (y 1), .ref (y 2), .ref (y 3), .ref (y 4), .ref (y 5), .ref (y 6), .ref (y 7), .ref (y 8), .ref (y 9), .int (iI st), .int (iI pe), .int (iI dr), .int (iI lf), .int (iI rt), .int (iI ra), .ref (y 10), .ref (y 11), .int (iI dp), .ref (y 12), .ref (y 13), .int (iI ov), .ref (y 14), .int (iI bs), .int (iI bo), .int (iI mo), .int (iI su)]))] := hD
    have hP := hP.sub (ws' := [((y 0), .inr (4, [.int (iI 1), .int (iI n), .ref (y 1), .ref (y 2), .ref (y 3), .ref (y 4), .ref (y 5), .ref (y 6), .ref (y 7), .ref (y 8), .ref (y 9), .int (iI st), .int (iI pe), .int (iI dr), .int (iI lf), .int (iI rt), .int (iI ra), .ref (y 10), .ref (y 11), .int (iI dp), .ref (y 12), .ref (y 13), .int (iI ov), .ref (y 14), .int (iI bs), .int (iI bo), .int (iI mo), .int (iI su)])), ((y 14), .inl (k.1, 4, .inl (iF (coF op ha cy df))))]) [1, 0] rfl
    have hD := hD.sub (ws' := [((y 0), .inr (4, [.int (iI 1), .int (iI n), .ref (y 1), .ref (y 2), .ref (y 3), .ref (y 4), .ref (y 5), .ref (y 6), .ref (y 7), .ref (y 8), .ref (y 9), .int (iI st), .int (iI pe), .int (iI dr), .int (iI lf), .int (iI rt), .int (iI ra), .ref (y 10), .ref (y 11), .int (iI dp), .ref (y 12), .ref (y 13), .int (iI ov), .ref (y 14), .int (iI bs), .int (iI bo), .int (iI mo), .int (iI su)])), ((y 14), .inl (k.1, 4, .inl (iF (coF op ha cy df))))]) [1, 0] (by decide) rfl
    refine ri_top (y := iI 0) hu17 ?_
    exact hret (iI 0) 1 _ _ _ _ dX4_taken_20 (Or.inr ⟨by omega, rfl, rfl⟩) hP hD hS
  · skip
    refine lv_iload_n hx hb dX4_taken_9 rfl (lv_at hl 1 rfl) ?_
    refine lv_bipush (v := iI 6) hx hb dX4_taken_10 (by decide) ?_
    refine ri_icmp_le (a := w) (b := 6) (tgt := 21) hx hb (by omega) (by omega) dX4_taken_12 (by decide) (fun c12 => ?_) (fun c12 => ?_)
    · skip
      refine lv_iload_n hx hb dX4_taken_21 rfl (lv_at hl 1 rfl) ?_
      refine lv_iconst (v := iI 4) hx hb dX4_taken_22 rfl ?_
      refine ri_icmp_ge (a := w) (b := 4) (tgt := 33) hx hb (by omega) (by omega) dX4_taken_23 (by decide) (fun c23 => ?_) (fun c23 => ?_)
      · skip
        refine lv_iload_n hx hb dX4_taken_33 rfl (lv_at hl 1 rfl) ?_
        refine lv_iconst (v := iI 4) hx hb dX4_taken_34 rfl ?_
        refine ri_icmp_ne (a := w) (b := 4) (tgt := 45) hx hb (by omega) (by omega) dX4_taken_35 (by decide) (fun c35 => ?_) (fun c35 => ?_)
        · skip
          refine lv_iload_n hx hb dX4_taken_45 rfl (lv_at hl 1 rfl) ?_
          refine lv_iconst (v := iI 5) hx hb dX4_taken_46 rfl ?_
          refine ri_icmp_ne (a := w) (b := 5) (tgt := 57) hx hb (by omega) (by omega) dX4_taken_47 (by decide) (fun c47 => ?_) (fun c47 => ?_)
          · skip
            refine lv_aload_n hx hb dX4_taken_57 rfl (lv_at hl 0 rfl) ?_
            refine va_get (D := g) (ci := 4) (v := .int (iI mo)) (C := RX4) (T := TX4) (N := 28) hx hb hts inX4 hown hK.1 hP 0 rfl rfl 26 (by decide) f114 (fun _ h9 => h9) rfl dX4_taken_58 ?_
            exact hret (iI mo) 0 _ _ _ _ dX4_taken_61 (Or.inl ⟨by omega, by unfold takF; rw [if_neg (by omega), if_neg (by omega), if_neg (by omega), if_neg (by omega), if_neg (by omega), if_neg (by omega)], rfl⟩) hP hD hS
          · skip
            refine lv_aload_n hx hb dX4_taken_50 rfl (lv_at hl 0 rfl) ?_
            refine va_get (D := g) (ci := 4) (v := .int (iI bo)) (C := RX4) (T := TX4) (N := 28) hx hb hts inX4 hown hK.1 hP 0 rfl rfl 25 (by decide) f120 (fun _ h9 => h9) rfl dX4_taken_51 ?_
            refine lv_goto (tgt := 61) hx hb dX4_taken_54 (by decide) ?_
            exact hret (iI bo) 0 _ _ _ _ dX4_taken_61 (Or.inl ⟨by omega, by unfold takF; rw [if_neg (by omega), if_neg (by omega), if_neg (by omega), if_neg (by omega), if_neg (by omega), if_pos (by omega)], rfl⟩) hP hD hS
        · skip
          refine lv_aload_n hx hb dX4_taken_38 rfl (lv_at hl 0 rfl) ?_
          refine va_get (D := g) (ci := 4) (v := .int (iI bs)) (C := RX4) (T := TX4) (N := 28) hx hb hts inX4 hown hK.1 hP 0 rfl rfl 24 (by decide) f117 (fun _ h9 => h9) rfl dX4_taken_39 ?_
          refine lv_goto (tgt := 61) hx hb dX4_taken_42 (by decide) ?_
          exact hret (iI bs) 0 _ _ _ _ dX4_taken_61 (Or.inl ⟨by omega, by unfold takF; rw [if_neg (by omega), if_neg (by omega), if_neg (by omega), if_neg (by omega), if_pos (by omega)], rfl⟩) hP hD hS
      · skip
        refine lv_aload_n hx hb dX4_taken_26 rfl (lv_at hl 0 rfl) ?_
        refine va_get (D := g) (ci := 4) (v := .ref (y 14)) (C := RX4) (T := TX4) (N := 28) hx hb hts inX4 hown hK.1 hP 0 rfl rfl 23 (by decide) f53 (fun _ h9 => h9) rfl dX4_taken_27 ?_
        refine lv_iload_n hx hb dX4_taken_30 rfl (lv_at hl 1 rfl) ?_
        refine ri_iald (F := (coF op ha cy df)) (i := w) hx hb hK.1 hP 1 0 rfl rfl (by omega) (by omega) dX4_taken_31 ?_
        exact hret (iI ((coF op ha cy df) w)) 0 _ _ _ _ dX4_taken_32 (Or.inl ⟨by omega, coF_tk (by omega), rfl⟩) hP hD hS
    · skip
      refine lv_aload_n hx hb dX4_taken_15 rfl (lv_at hl 0 rfl) ?_
      refine lv_iconst (v := iI 1) hx hb dX4_taken_16 rfl ?_
      refine rc_I (own := RX4) (q := (RX4, TX4, 28)) (wc := [((y 0), .inr (4, [.int (iI 0), .int (iI n), .ref (y 1), .ref (y 2), .ref (y 3), .ref (y 4), .ref (y 5), .ref (y 6), .ref (y 7), .ref (y 8), .ref (y 9), .int (iI st), .int (iI pe), .int (iI dr), .int (iI lf), .int (iI rt), .int (iI ra), .ref (y 10), .ref (y 11), .int (iI dp), .ref (y 12), .ref (y 13), .int (iI ov), .ref (y 14), .int (iI bs), .int (iI bo), .int (iI mo), .int (iI su)]))]) (wr := [((y 14), .inl (k.1, 4, .inl (iF (coF op ha cy df))))]) (As := [.int (iI 1)]) (rest := []) ⟨hx, hb, hml, hown, hts⟩ (r_refuse l g k y 0 n st pe dr lf rt ra dp ov bs bo mo su H.size 1) (cwV 1 hts gX4_taken_X4_refuse rfl rfl rfl (by decide +kernel) ⟨Nat.le_of_ble_eq_true rfl, Nat.le_of_ble_eq_true rfl⟩) hK hP hD hS hA [0] [1] rfl (by decide) rfl (by decide) (by decide) (ci := 4) (q0 := 0) rfl rfl rfl rfl hl.1 (Nat.le_of_ble_eq_true rfl) ⟨Nat.le_of_ble_eq_true rfl, Nat.le_of_ble_eq_true rfl⟩ dX4_taken_17 (fun r17 u17 H locs hu17 hP hD hS => ?_)
      have hP : va_P g vwCl [((y 14), .inl (k.1, 4, .inl (iF (coF op ha cy df)))), ((y 0), .inr (4, [.int (iI 1), .int (iI n), .ref (y 1), .ref (y 2), .ref (y 3), .ref (y 4), .ref (y 5), .ref (y 6), .ref (y 7), .ref (y 8), .ref (y 9), .int (iI st), .int (iI pe), .int (iI dr), .int (iI lf), .int (iI rt), .int (iI ra), .ref (y 10), .ref (y 11), .int (iI dp), .ref (y 12), .ref (y 13), .int (iI ov), .ref (y 14), .int (iI bs), .int (iI bo), .int (iI mo), .int (iI su)]))] H := hP
      have hD : va_D A [((y 14), .inl (k.1, 4, .inl (iF (coF op ha cy df)))), ((y 0), .inr (4, [.int (iI 1), .int (iI n), .ref (y 1), .ref (y 2), .ref (y 3), .ref (y 4), .ref (y 5), .ref (y 6), .ref (y 7), .ref (y 8), .ref (y 9), .int (iI st), .int (iI pe), .int (iI dr), .int (iI lf), .int (iI rt), .int (iI ra), .ref (y 10), .ref (y 11), .int (iI dp), .ref (y 12), .ref (y 13), .int (iI ov), .ref (y 14), .int (iI bs), .int (iI bo), .int (iI mo), .int (iI su)]))] := hD
      have hP := hP.sub (ws' := [((y 0), .inr (4, [.int (iI 1), .int (iI n), .ref (y 1), .ref (y 2), .ref (y 3), .ref (y 4), .ref (y 5), .ref (y 6), .ref (y 7), .ref (y 8), .ref (y 9), .int (iI st), .int (iI pe), .int (iI dr), .int (iI lf), .int (iI rt), .int (iI ra), .ref (y 10), .ref (y 11), .int (iI dp), .ref (y 12), .ref (y 13), .int (iI ov), .ref (y 14), .int (iI bs), .int (iI bo), .int (iI mo), .int (iI su)])), ((y 14), .inl (k.1, 4, .inl (iF (coF op ha cy df))))]) [1, 0] rfl
      have hD := hD.sub (ws' := [((y 0), .inr (4, [.int (iI 1), .int (iI n), .ref (y 1), .ref (y 2), .ref (y 3), .ref (y 4), .ref (y 5), .ref (y 6), .ref (y 7), .ref (y 8), .ref (y 9), .int (iI st), .int (iI pe), .int (iI dr), .int (iI lf), .int (iI rt), .int (iI ra), .ref (y 10), .ref (y 11), .int (iI dp), .ref (y 12), .ref (y 13), .int (iI ov), .ref (y 14), .int (iI bs), .int (iI bo), .int (iI mo), .int (iI su)])), ((y 14), .inl (k.1, 4, .inl (iF (coF op ha cy df))))]) [1, 0] (by decide) rfl
      refine ri_top (y := iI 0) hu17 ?_
      exact hret (iI 0) 1 _ _ _ _ dX4_taken_20 (Or.inr ⟨by omega, rfl, rfl⟩) hP hD hS

set_option maxHeartbeats 4000000 in
set_option maxRecDepth 100000 in
theorem r_champion (l : Launch) (g : va_G) (k : kT) (y : Nat → Nat) (thr n st pe dr lf rt ra dp ov bs bo mo su : Int) (be : Int → Int) (sz : Nat) (st9 sy : Int) (hn : 2 ≤ n ∧ n ≤ 4) (hr : (-2147483648 ≤ st9 ∧ st9 < 2147483648) ∧ (-2147483648 ≤ sy ∧ sy < 2147483648)) : cI l yX4_champion wsX4_champion rm_1 g k [yO y thr n st pe dr lf rt ra dp ov bs bo mo su, ((y 3), .inl (k.1, 8, .inl (iF be)))] sz [.ref (y 0), .int (iI st9), .int (iI sy)] 0 0 (fun u : Int => [yO y u n st pe dr lf rt ra dp ov bs bo mo su, ((y 3), .inl (k.1, 8, .inl (iF be)))]) (fun r u => ((0 ≤ st9 ∧ st9 < n ∧ (sy = 0 ∨ sy = 1)) ∧ r = iI (be (2 * st9 + sy)) ∧ u = 0) ∨ (¬ (0 ≤ st9 ∧ st9 < n ∧ (sy = 0 ∨ sy = 1)) ∧ r = iI 0 ∧ u = 1)) := by
  refine st_I (by decide) rfl (Nat.le_of_ble_eq_true rfl) ?_
  intro p e s m below meth c Q A hx hb hml hown hts hA hP hD hS hK hret ls hl
  have hown : s.vm.findClass RX4 = some m.cls := hown
  have f59 := hts (.fieldLink RX4 59 "MachineTreeModel" "thrown" "I") (by decide +kernel)
  have inX4 := (by decide +kernel : ∀ w ∈ wsX40, w ∈ wsX4_champion)
  have f56 := hts (.fieldLink RX4 56 "MachineTreeModel" "n" "I") (by decide +kernel)
  have f16 := hts (.fieldLink RX4 16 "MachineTreeModel" "best" "[I") (by decide +kernel)
  have hl : lv_has ls 3 [(0, .ref (y 0)), (1, .int (iI st9)), (2, .int (iI sy))] := hl
  obtain ⟨H, hH⟩ : ∃ H, H = s.heap := ⟨_, rfl⟩
  obtain ⟨locs, hlo⟩ : ∃ L : List Loc, L = [] := ⟨_, rfl⟩
  rw [← hH] at hP
  have hS : va_S A s.heap H locs := by rw [hH, hlo]; exact hS
  rw [show W p l e rm_1 s m ([.ref (y 0), .int (iI st9), .int (iI sy)] : List Value).toArray below meth c s.heap [] 0 0 Q (F0 m 0 ls []) = W p l e rm_1 s m ([.ref (y 0), .int (iI st9), .int (iI sy)] : List Value).toArray below meth c H locs 0 0 Q (F0 m 0 ls []) by rw [hH, hlo]]
  clear hH hlo
  refine lv_aload_n hx hb dX4_champion_0 rfl (lv_at hl 0 rfl) ?_
  refine lv_iconst (v := iI 0) hx hb dX4_champion_1 rfl ?_
  refine va_put (D := g) (ci := 4) (v := .int (iI 0)) (ty := .int) (C := RX4) (T := TX4) (N := 28) hx hb hts inX4 tyX4 tyX4_ok nmX4 hown hK.1 hP hD hS 0 rfl rfl 0 (by decide) f59 (fun _ h9 => h9) rfl (by decide +kernel) rfl rfl (Nat.le_of_ble_eq_true rfl) dX4_champion_2 (fun H locs hP hD hS => ?_)
  have hP : va_P g vwCl [((y 0), .inr (4, [.int (iI 0), .int (iI n), .ref (y 1), .ref (y 2), .ref (y 3), .ref (y 4), .ref (y 5), .ref (y 6), .ref (y 7), .ref (y 8), .ref (y 9), .int (iI st), .int (iI pe), .int (iI dr), .int (iI lf), .int (iI rt), .int (iI ra), .ref (y 10), .ref (y 11), .int (iI dp), .ref (y 12), .ref (y 13), .int (iI ov), .ref (y 14), .int (iI bs), .int (iI bo), .int (iI mo), .int (iI su)])), ((y 3), .inl (k.1, 8, .inl (iF be)))] H := hP
  have hD : va_D A [((y 0), .inr (4, [.int (iI 0), .int (iI n), .ref (y 1), .ref (y 2), .ref (y 3), .ref (y 4), .ref (y 5), .ref (y 6), .ref (y 7), .ref (y 8), .ref (y 9), .int (iI st), .int (iI pe), .int (iI dr), .int (iI lf), .int (iI rt), .int (iI ra), .ref (y 10), .ref (y 11), .int (iI dp), .ref (y 12), .ref (y 13), .int (iI ov), .ref (y 14), .int (iI bs), .int (iI bo), .int (iI mo), .int (iI su)])), ((y 3), .inl (k.1, 8, .inl (iF be)))] := hD
  refine lv_iload_n hx hb dX4_champion_5 rfl (lv_at hl 1 rfl) ?_
  refine ri_if_lt (a := st9) (tgt := 26) hx hb (by omega) dX4_champion_6 (by decide) (fun c6 => ?_) (fun c6 => ?_)
  · skip
    refine lv_aload_n hx hb dX4_champion_26 rfl (lv_at hl 0 rfl) ?_
    refine lv_iconst (v := iI 1) hx hb dX4_champion_27 rfl ?_
    refine rc_I (own := RX4) (q := (RX4, TX4, 28)) (wc := [((y 0), .inr (4, [.int (iI 0), .int (iI n), .ref (y 1), .ref (y 2), .ref (y 3), .ref (y 4), .ref (y 5), .ref (y 6), .ref (y 7), .ref (y 8), .ref (y 9), .int (iI st), .int (iI pe), .int (iI dr), .int (iI lf), .int (iI rt), .int (iI ra), .ref (y 10), .ref (y 11), .int (iI dp), .ref (y 12), .ref (y 13), .int (iI ov), .ref (y 14), .int (iI bs), .int (iI bo), .int (iI mo), .int (iI su)]))]) (wr := [((y 3), .inl (k.1, 8, .inl (iF be)))]) (As := [.int (iI 1)]) (rest := []) ⟨hx, hb, hml, hown, hts⟩ (r_refuse l g k y 0 n st pe dr lf rt ra dp ov bs bo mo su H.size 1) (cwV 1 hts gX4_champion_X4_refuse rfl rfl rfl (by decide +kernel) ⟨Nat.le_of_ble_eq_true rfl, Nat.le_of_ble_eq_true rfl⟩) hK hP hD hS hA [0] [1] rfl (by decide) rfl (by decide) (by decide) (ci := 4) (q0 := 0) rfl rfl rfl rfl hl.1 (Nat.le_of_ble_eq_true rfl) ⟨Nat.le_of_ble_eq_true rfl, Nat.le_of_ble_eq_true rfl⟩ dX4_champion_28 (fun r28 u28 H locs hu28 hP hD hS => ?_)
    have hP : va_P g vwCl [((y 3), .inl (k.1, 8, .inl (iF be))), ((y 0), .inr (4, [.int (iI 1), .int (iI n), .ref (y 1), .ref (y 2), .ref (y 3), .ref (y 4), .ref (y 5), .ref (y 6), .ref (y 7), .ref (y 8), .ref (y 9), .int (iI st), .int (iI pe), .int (iI dr), .int (iI lf), .int (iI rt), .int (iI ra), .ref (y 10), .ref (y 11), .int (iI dp), .ref (y 12), .ref (y 13), .int (iI ov), .ref (y 14), .int (iI bs), .int (iI bo), .int (iI mo), .int (iI su)]))] H := hP
    have hD : va_D A [((y 3), .inl (k.1, 8, .inl (iF be))), ((y 0), .inr (4, [.int (iI 1), .int (iI n), .ref (y 1), .ref (y 2), .ref (y 3), .ref (y 4), .ref (y 5), .ref (y 6), .ref (y 7), .ref (y 8), .ref (y 9), .int (iI st), .int (iI pe), .int (iI dr), .int (iI lf), .int (iI rt), .int (iI ra), .ref (y 10), .ref (y 11), .int (iI dp), .ref (y 12), .ref (y 13), .int (iI ov), .ref (y 14), .int (iI bs), .int (iI bo), .int (iI mo), .int (iI su)]))] := hD
    have hP := hP.sub (ws' := [((y 0), .inr (4, [.int (iI 1), .int (iI n), .ref (y 1), .ref (y 2), .ref (y 3), .ref (y 4), .ref (y 5), .ref (y 6), .ref (y 7), .ref (y 8), .ref (y 9), .int (iI st), .int (iI pe), .int (iI dr), .int (iI lf), .int (iI rt), .int (iI ra), .ref (y 10), .ref (y 11), .int (iI dp), .ref (y 12), .ref (y 13), .int (iI ov), .ref (y 14), .int (iI bs), .int (iI bo), .int (iI mo), .int (iI su)])), ((y 3), .inl (k.1, 8, .inl (iF be)))]) [1, 0] rfl
    have hD := hD.sub (ws' := [((y 0), .inr (4, [.int (iI 1), .int (iI n), .ref (y 1), .ref (y 2), .ref (y 3), .ref (y 4), .ref (y 5), .ref (y 6), .ref (y 7), .ref (y 8), .ref (y 9), .int (iI st), .int (iI pe), .int (iI dr), .int (iI lf), .int (iI rt), .int (iI ra), .ref (y 10), .ref (y 11), .int (iI dp), .ref (y 12), .ref (y 13), .int (iI ov), .ref (y 14), .int (iI bs), .int (iI bo), .int (iI mo), .int (iI su)])), ((y 3), .inl (k.1, 8, .inl (iF be)))]) [1, 0] (by decide) rfl
    refine ri_top (y := iI 0) hu28 ?_
    exact hret (iI 0) 1 _ _ _ _ dX4_champion_31 (Or.inr ⟨by omega, rfl, rfl⟩) hP hD hS
  · skip
    refine lv_iload_n hx hb dX4_champion_9 rfl (lv_at hl 1 rfl) ?_
    refine lv_aload_n hx hb dX4_champion_10 rfl (lv_at hl 0 rfl) ?_
    refine va_get (D := g) (ci := 4) (v := .int (iI n)) (C := RX4) (T := TX4) (N := 28) hx hb hts inX4 hown hK.1 hP 0 rfl rfl 1 (by decide) f56 (fun _ h9 => h9) rfl dX4_champion_11 ?_
    refine ri_icmp_ge (a := st9) (b := n) (tgt := 26) hx hb (by omega) (by omega) dX4_champion_14 (by decide) (fun c14 => ?_) (fun c14 => ?_)
    · skip
      refine lv_aload_n hx hb dX4_champion_26 rfl (lv_at hl 0 rfl) ?_
      refine lv_iconst (v := iI 1) hx hb dX4_champion_27 rfl ?_
      refine rc_I (own := RX4) (q := (RX4, TX4, 28)) (wc := [((y 0), .inr (4, [.int (iI 0), .int (iI n), .ref (y 1), .ref (y 2), .ref (y 3), .ref (y 4), .ref (y 5), .ref (y 6), .ref (y 7), .ref (y 8), .ref (y 9), .int (iI st), .int (iI pe), .int (iI dr), .int (iI lf), .int (iI rt), .int (iI ra), .ref (y 10), .ref (y 11), .int (iI dp), .ref (y 12), .ref (y 13), .int (iI ov), .ref (y 14), .int (iI bs), .int (iI bo), .int (iI mo), .int (iI su)]))]) (wr := [((y 3), .inl (k.1, 8, .inl (iF be)))]) (As := [.int (iI 1)]) (rest := []) ⟨hx, hb, hml, hown, hts⟩ (r_refuse l g k y 0 n st pe dr lf rt ra dp ov bs bo mo su H.size 1) (cwV 1 hts gX4_champion_X4_refuse rfl rfl rfl (by decide +kernel) ⟨Nat.le_of_ble_eq_true rfl, Nat.le_of_ble_eq_true rfl⟩) hK hP hD hS hA [0] [1] rfl (by decide) rfl (by decide) (by decide) (ci := 4) (q0 := 0) rfl rfl rfl rfl hl.1 (Nat.le_of_ble_eq_true rfl) ⟨Nat.le_of_ble_eq_true rfl, Nat.le_of_ble_eq_true rfl⟩ dX4_champion_28 (fun r28 u28 H locs hu28 hP hD hS => ?_)
      have hP : va_P g vwCl [((y 3), .inl (k.1, 8, .inl (iF be))), ((y 0), .inr (4, [.int (iI 1), .int (iI n), .ref (y 1), .ref (y 2), .ref (y 3), .ref (y 4), .ref (y 5), .ref (y 6), .ref (y 7), .ref (y 8), .ref (y 9), .int (iI st), .int (iI pe), .int (iI dr), .int (iI lf), .int (iI rt), .int (iI ra), .ref (y 10), .ref (y 11), .int (iI dp), .ref (y 12), .ref (y 13), .int (iI ov), .ref (y 14), .int (iI bs), .int (iI bo), .int (iI mo), .int (iI su)]))] H := hP
      have hD : va_D A [((y 3), .inl (k.1, 8, .inl (iF be))), ((y 0), .inr (4, [.int (iI 1), .int (iI n), .ref (y 1), .ref (y 2), .ref (y 3), .ref (y 4), .ref (y 5), .ref (y 6), .ref (y 7), .ref (y 8), .ref (y 9), .int (iI st), .int (iI pe), .int (iI dr), .int (iI lf), .int (iI rt), .int (iI ra), .ref (y 10), .ref (y 11), .int (iI dp), .ref (y 12), .ref (y 13), .int (iI ov), .ref (y 14), .int (iI bs), .int (iI bo), .int (iI mo), .int (iI su)]))] := hD
      have hP := hP.sub (ws' := [((y 0), .inr (4, [.int (iI 1), .int (iI n), .ref (y 1), .ref (y 2), .ref (y 3), .ref (y 4), .ref (y 5), .ref (y 6), .ref (y 7), .ref (y 8), .ref (y 9), .int (iI st), .int (iI pe), .int (iI dr), .int (iI lf), .int (iI rt), .int (iI ra), .ref (y 10), .ref (y 11), .int (iI dp), .ref (y 12), .ref (y 13), .int (iI ov), .ref (y 14), .int (iI bs), .int (iI bo), .int (iI mo), .int (iI su)])), ((y 3), .inl (k.1, 8, .inl (iF be)))]) [1, 0] rfl
      have hD := hD.sub (ws' := [((y 0), .inr (4, [.int (iI 1), .int (iI n), .ref (y 1), .ref (y 2), .ref (y 3), .ref (y 4), .ref (y 5), .ref (y 6), .ref (y 7), .ref (y 8), .ref (y 9), .int (iI st), .int (iI pe), .int (iI dr), .int (iI lf), .int (iI rt), .int (iI ra), .ref (y 10), .ref (y 11), .int (iI dp), .ref (y 12), .ref (y 13), .int (iI ov), .ref (y 14), .int (iI bs), .int (iI bo), .int (iI mo), .int (iI su)])), ((y 3), .inl (k.1, 8, .inl (iF be)))]) [1, 0] (by decide) rfl
      refine ri_top (y := iI 0) hu28 ?_
      exact hret (iI 0) 1 _ _ _ _ dX4_champion_31 (Or.inr ⟨by omega, rfl, rfl⟩) hP hD hS
    · skip
      refine lv_iload_n hx hb dX4_champion_17 rfl (lv_at hl 2 rfl) ?_
      refine ri_if_lt (a := sy) (tgt := 26) hx hb (by omega) dX4_champion_18 (by decide) (fun c18 => ?_) (fun c18 => ?_)
      · skip
        refine lv_aload_n hx hb dX4_champion_26 rfl (lv_at hl 0 rfl) ?_
        refine lv_iconst (v := iI 1) hx hb dX4_champion_27 rfl ?_
        refine rc_I (own := RX4) (q := (RX4, TX4, 28)) (wc := [((y 0), .inr (4, [.int (iI 0), .int (iI n), .ref (y 1), .ref (y 2), .ref (y 3), .ref (y 4), .ref (y 5), .ref (y 6), .ref (y 7), .ref (y 8), .ref (y 9), .int (iI st), .int (iI pe), .int (iI dr), .int (iI lf), .int (iI rt), .int (iI ra), .ref (y 10), .ref (y 11), .int (iI dp), .ref (y 12), .ref (y 13), .int (iI ov), .ref (y 14), .int (iI bs), .int (iI bo), .int (iI mo), .int (iI su)]))]) (wr := [((y 3), .inl (k.1, 8, .inl (iF be)))]) (As := [.int (iI 1)]) (rest := []) ⟨hx, hb, hml, hown, hts⟩ (r_refuse l g k y 0 n st pe dr lf rt ra dp ov bs bo mo su H.size 1) (cwV 1 hts gX4_champion_X4_refuse rfl rfl rfl (by decide +kernel) ⟨Nat.le_of_ble_eq_true rfl, Nat.le_of_ble_eq_true rfl⟩) hK hP hD hS hA [0] [1] rfl (by decide) rfl (by decide) (by decide) (ci := 4) (q0 := 0) rfl rfl rfl rfl hl.1 (Nat.le_of_ble_eq_true rfl) ⟨Nat.le_of_ble_eq_true rfl, Nat.le_of_ble_eq_true rfl⟩ dX4_champion_28 (fun r28 u28 H locs hu28 hP hD hS => ?_)
        have hP : va_P g vwCl [((y 3), .inl (k.1, 8, .inl (iF be))), ((y 0), .inr (4, [.int (iI 1), .int (iI n), .ref (y 1), .ref (y 2), .ref (y 3), .ref (y 4), .ref (y 5), .ref (y 6), .ref (y 7), .ref (y 8), .ref (y 9), .int (iI st), .int (iI pe), .int (iI dr), .int (iI lf), .int (iI rt), .int (iI ra), .ref (y 10), .ref (y 11), .int (iI dp), .ref (y 12), .ref (y 13), .int (iI ov), .ref (y 14), .int (iI bs), .int (iI bo), .int (iI mo), .int (iI su)]))] H := hP
        have hD : va_D A [((y 3), .inl (k.1, 8, .inl (iF be))), ((y 0), .inr (4, [.int (iI 1), .int (iI n), .ref (y 1), .ref (y 2), .ref (y 3), .ref (y 4), .ref (y 5), .ref (y 6), .ref (y 7), .ref (y 8), .ref (y 9), .int (iI st), .int (iI pe), .int (iI dr), .int (iI lf), .int (iI rt), .int (iI ra), .ref (y 10), .ref (y 11), .int (iI dp), .ref (y 12), .ref (y 13), .int (iI ov), .ref (y 14), .int (iI bs), .int (iI bo), .int (iI mo), .int (iI su)]))] := hD
        have hP := hP.sub (ws' := [((y 0), .inr (4, [.int (iI 1), .int (iI n), .ref (y 1), .ref (y 2), .ref (y 3), .ref (y 4), .ref (y 5), .ref (y 6), .ref (y 7), .ref (y 8), .ref (y 9), .int (iI st), .int (iI pe), .int (iI dr), .int (iI lf), .int (iI rt), .int (iI ra), .ref (y 10), .ref (y 11), .int (iI dp), .ref (y 12), .ref (y 13), .int (iI ov), .ref (y 14), .int (iI bs), .int (iI bo), .int (iI mo), .int (iI su)])), ((y 3), .inl (k.1, 8, .inl (iF be)))]) [1, 0] rfl
        have hD := hD.sub (ws' := [((y 0), .inr (4, [.int (iI 1), .int (iI n), .ref (y 1), .ref (y 2), .ref (y 3), .ref (y 4), .ref (y 5), .ref (y 6), .ref (y 7), .ref (y 8), .ref (y 9), .int (iI st), .int (iI pe), .int (iI dr), .int (iI lf), .int (iI rt), .int (iI ra), .ref (y 10), .ref (y 11), .int (iI dp), .ref (y 12), .ref (y 13), .int (iI ov), .ref (y 14), .int (iI bs), .int (iI bo), .int (iI mo), .int (iI su)])), ((y 3), .inl (k.1, 8, .inl (iF be)))]) [1, 0] (by decide) rfl
        refine ri_top (y := iI 0) hu28 ?_
        exact hret (iI 0) 1 _ _ _ _ dX4_champion_31 (Or.inr ⟨by omega, rfl, rfl⟩) hP hD hS
      · skip
        refine lv_iload_n hx hb dX4_champion_21 rfl (lv_at hl 2 rfl) ?_
        refine lv_iconst (v := iI 1) hx hb dX4_champion_22 rfl ?_
        refine ri_icmp_le (a := sy) (b := 1) (tgt := 32) hx hb (by omega) (by omega) dX4_champion_23 (by decide) (fun c23 => ?_) (fun c23 => ?_)
        · skip
          refine lv_aload_n hx hb dX4_champion_32 rfl (lv_at hl 0 rfl) ?_
          refine va_get (D := g) (ci := 4) (v := .ref (y 3)) (C := RX4) (T := TX4) (N := 28) hx hb hts inX4 hown hK.1 hP 0 rfl rfl 4 (by decide) f16 (fun _ h9 => h9) rfl dX4_champion_33 ?_
          refine lv_iconst (v := iI 2) hx hb dX4_champion_36 rfl ?_
          refine lv_iload_n hx hb dX4_champion_37 rfl (lv_at hl 1 rfl) ?_
          refine ri_imul (a := 2) (b := st9) hx hb dX4_champion_38 ?_
          refine lv_iload_n hx hb dX4_champion_39 rfl (lv_at hl 2 rfl) ?_
          refine ri_iadd (a := (2 * st9)) (b := sy) hx hb dX4_champion_40 ?_
          refine ri_iald (F := be) (i := ((2 * st9) + sy)) hx hb hK.1 hP 1 0 rfl rfl (by omega) (by omega) dX4_champion_41 ?_
          exact hret (iI (be ((2 * st9) + sy))) 0 _ _ _ _ dX4_champion_42 (Or.inl ⟨by omega, rfl, rfl⟩) hP hD hS
        · skip
          refine lv_aload_n hx hb dX4_champion_26 rfl (lv_at hl 0 rfl) ?_
          refine lv_iconst (v := iI 1) hx hb dX4_champion_27 rfl ?_
          refine rc_I (own := RX4) (q := (RX4, TX4, 28)) (wc := [((y 0), .inr (4, [.int (iI 0), .int (iI n), .ref (y 1), .ref (y 2), .ref (y 3), .ref (y 4), .ref (y 5), .ref (y 6), .ref (y 7), .ref (y 8), .ref (y 9), .int (iI st), .int (iI pe), .int (iI dr), .int (iI lf), .int (iI rt), .int (iI ra), .ref (y 10), .ref (y 11), .int (iI dp), .ref (y 12), .ref (y 13), .int (iI ov), .ref (y 14), .int (iI bs), .int (iI bo), .int (iI mo), .int (iI su)]))]) (wr := [((y 3), .inl (k.1, 8, .inl (iF be)))]) (As := [.int (iI 1)]) (rest := []) ⟨hx, hb, hml, hown, hts⟩ (r_refuse l g k y 0 n st pe dr lf rt ra dp ov bs bo mo su H.size 1) (cwV 1 hts gX4_champion_X4_refuse rfl rfl rfl (by decide +kernel) ⟨Nat.le_of_ble_eq_true rfl, Nat.le_of_ble_eq_true rfl⟩) hK hP hD hS hA [0] [1] rfl (by decide) rfl (by decide) (by decide) (ci := 4) (q0 := 0) rfl rfl rfl rfl hl.1 (Nat.le_of_ble_eq_true rfl) ⟨Nat.le_of_ble_eq_true rfl, Nat.le_of_ble_eq_true rfl⟩ dX4_champion_28 (fun r28 u28 H locs hu28 hP hD hS => ?_)
          have hP : va_P g vwCl [((y 3), .inl (k.1, 8, .inl (iF be))), ((y 0), .inr (4, [.int (iI 1), .int (iI n), .ref (y 1), .ref (y 2), .ref (y 3), .ref (y 4), .ref (y 5), .ref (y 6), .ref (y 7), .ref (y 8), .ref (y 9), .int (iI st), .int (iI pe), .int (iI dr), .int (iI lf), .int (iI rt), .int (iI ra), .ref (y 10), .ref (y 11), .int (iI dp), .ref (y 12), .ref (y 13), .int (iI ov), .ref (y 14), .int (iI bs), .int (iI bo), .int (iI mo), .int (iI su)]))] H := hP
          have hD : va_D A [((y 3), .inl (k.1, 8, .inl (iF be))), ((y 0), .inr (4, [.int (iI 1), .int (iI n), .ref (y 1), .ref (y 2), .ref (y 3), .ref (y 4), .ref (y 5), .ref (y 6), .ref (y 7), .ref (y 8), .ref (y 9), .int (iI st), .int (iI pe), .int (iI dr), .int (iI lf), .int (iI rt), .int (iI ra), .ref (y 10), .ref (y 11), .int (iI dp), .ref (y 12), .ref (y 13), .int (iI ov), .ref (y 14), .int (iI bs), .int (iI bo), .int (iI mo), .int (iI su)]))] := hD
          have hP := hP.sub (ws' := [((y 0), .inr (4, [.int (iI 1), .int (iI n), .ref (y 1), .ref (y 2), .ref (y 3), .ref (y 4), .ref (y 5), .ref (y 6), .ref (y 7), .ref (y 8), .ref (y 9), .int (iI st), .int (iI pe), .int (iI dr), .int (iI lf), .int (iI rt), .int (iI ra), .ref (y 10), .ref (y 11), .int (iI dp), .ref (y 12), .ref (y 13), .int (iI ov), .ref (y 14), .int (iI bs), .int (iI bo), .int (iI mo), .int (iI su)])), ((y 3), .inl (k.1, 8, .inl (iF be)))]) [1, 0] rfl
          have hD := hD.sub (ws' := [((y 0), .inr (4, [.int (iI 1), .int (iI n), .ref (y 1), .ref (y 2), .ref (y 3), .ref (y 4), .ref (y 5), .ref (y 6), .ref (y 7), .ref (y 8), .ref (y 9), .int (iI st), .int (iI pe), .int (iI dr), .int (iI lf), .int (iI rt), .int (iI ra), .ref (y 10), .ref (y 11), .int (iI dp), .ref (y 12), .ref (y 13), .int (iI ov), .ref (y 14), .int (iI bs), .int (iI bo), .int (iI mo), .int (iI su)])), ((y 3), .inl (k.1, 8, .inl (iF be)))]) [1, 0] (by decide) rfl
          refine ri_top (y := iI 0) hu28 ?_
          exact hret (iI 0) 1 _ _ _ _ dX4_champion_31 (Or.inr ⟨by omega, rfl, rfl⟩) hP hD hS

set_option maxHeartbeats 4000000 in
set_option maxRecDepth 100000 in
theorem r_mean (l : Launch) (g : va_G) (k : kT) (y : Nat → Nat) (thr n st pe dr lf rt ra dp ov bs bo mo su : Int) (op ha cy df : Int) (sz : Nat) (hh : 0 ≤ ha ∧ ha < 1000000) (hnan : 0 < ha → vf_n32 (FP.fdiv (FP.i2f (iI su)) (FP.i2f (iI ha)))) : cF l yX4_mean wsX4_mean rm_1 g k [yO y thr n st pe dr lf rt ra dp ov bs bo mo su, ((y 14), .inl (k.1, 4, .inl (iF (coF op ha cy df))))] sz [.ref (y 0)] 0 0 (fun u : Int => [yO y u n st pe dr lf rt ra dp ov bs bo mo su, ((y 14), .inl (k.1, 4, .inl (iF (coF op ha cy df))))]) (fun r u => (0 < ha ∧ r = FP.fdiv (FP.i2f (iI su)) (FP.i2f (iI ha)) ∧ u = 0) ∨ (ha = 0 ∧ u = 1)) := by
  refine st_F (by decide) rfl (Nat.le_of_ble_eq_true rfl) ?_
  intro p e s m below meth c Q A hx hb hml hown hts hA hP hD hS hK hret ls hl
  have hown : s.vm.findClass RX4 = some m.cls := hown
  have f59 := hts (.fieldLink RX4 59 "MachineTreeModel" "thrown" "I") (by decide +kernel)
  have inX4 := (by decide +kernel : ∀ w ∈ wsX40, w ∈ wsX4_mean)
  have f53 := hts (.fieldLink RX4 53 "MachineTreeModel" "counts" "[I") (by decide +kernel)
  have f111 := hts (.fieldLink RX4 111 "MachineTreeModel" "sum" "I") (by decide +kernel)
  have hl : lv_has ls 1 [(0, .ref (y 0))] := hl
  obtain ⟨H, hH⟩ : ∃ H, H = s.heap := ⟨_, rfl⟩
  obtain ⟨locs, hlo⟩ : ∃ L : List Loc, L = [] := ⟨_, rfl⟩
  rw [← hH] at hP
  have hS : va_S A s.heap H locs := by rw [hH, hlo]; exact hS
  rw [show W p l e rm_1 s m ([.ref (y 0)] : List Value).toArray below meth c s.heap [] 0 0 Q (F0 m 0 ls []) = W p l e rm_1 s m ([.ref (y 0)] : List Value).toArray below meth c H locs 0 0 Q (F0 m 0 ls []) by rw [hH, hlo]]
  clear hH hlo
  refine lv_aload_n hx hb dX4_mean_0 rfl (lv_at hl 0 rfl) ?_
  refine lv_iconst (v := iI 0) hx hb dX4_mean_1 rfl ?_
  refine va_put (D := g) (ci := 4) (v := .int (iI 0)) (ty := .int) (C := RX4) (T := TX4) (N := 28) hx hb hts inX4 tyX4 tyX4_ok nmX4 hown hK.1 hP hD hS 0 rfl rfl 0 (by decide) f59 (fun _ h9 => h9) rfl (by decide +kernel) rfl rfl (Nat.le_of_ble_eq_true rfl) dX4_mean_2 (fun H locs hP hD hS => ?_)
  have hP : va_P g vwCl [((y 0), .inr (4, [.int (iI 0), .int (iI n), .ref (y 1), .ref (y 2), .ref (y 3), .ref (y 4), .ref (y 5), .ref (y 6), .ref (y 7), .ref (y 8), .ref (y 9), .int (iI st), .int (iI pe), .int (iI dr), .int (iI lf), .int (iI rt), .int (iI ra), .ref (y 10), .ref (y 11), .int (iI dp), .ref (y 12), .ref (y 13), .int (iI ov), .ref (y 14), .int (iI bs), .int (iI bo), .int (iI mo), .int (iI su)])), ((y 14), .inl (k.1, 4, .inl (iF (coF op ha cy df))))] H := hP
  have hD : va_D A [((y 0), .inr (4, [.int (iI 0), .int (iI n), .ref (y 1), .ref (y 2), .ref (y 3), .ref (y 4), .ref (y 5), .ref (y 6), .ref (y 7), .ref (y 8), .ref (y 9), .int (iI st), .int (iI pe), .int (iI dr), .int (iI lf), .int (iI rt), .int (iI ra), .ref (y 10), .ref (y 11), .int (iI dp), .ref (y 12), .ref (y 13), .int (iI ov), .ref (y 14), .int (iI bs), .int (iI bo), .int (iI mo), .int (iI su)])), ((y 14), .inl (k.1, 4, .inl (iF (coF op ha cy df))))] := hD
  refine lv_aload_n hx hb dX4_mean_5 rfl (lv_at hl 0 rfl) ?_
  refine va_get (D := g) (ci := 4) (v := .ref (y 14)) (C := RX4) (T := TX4) (N := 28) hx hb hts inX4 hown hK.1 hP 0 rfl rfl 23 (by decide) f53 (fun _ h9 => h9) rfl dX4_mean_6 ?_
  refine lv_iconst (v := iI 1) hx hb dX4_mean_9 rfl ?_
  refine ri_iald (F := (coF op ha cy df)) (i := 1) hx hb hK.1 hP 1 0 rfl rfl (by omega) (by omega) dX4_mean_10 ?_
  refine ri_ex (b := ha) rfl ?_
  refine ri_if_ne (a := ha) (tgt := 21) hx hb (by omega) dX4_mean_11 (by decide) (fun c11 => ?_) (fun c11 => ?_)
  · skip
    refine lv_aload_n hx hb dX4_mean_21 rfl (lv_at hl 0 rfl) ?_
    refine va_get (D := g) (ci := 4) (v := .int (iI su)) (C := RX4) (T := TX4) (N := 28) hx hb hts inX4 hown hK.1 hP 0 rfl rfl 27 (by decide) f111 (fun _ h9 => h9) rfl dX4_mean_22 ?_
    refine lv_i2f hx hb dX4_mean_25 ?_
    refine lv_aload_n hx hb dX4_mean_26 rfl (lv_at hl 0 rfl) ?_
    refine va_get (D := g) (ci := 4) (v := .ref (y 14)) (C := RX4) (T := TX4) (N := 28) hx hb hts inX4 hown hK.1 hP 0 rfl rfl 23 (by decide) f53 (fun _ h9 => h9) rfl dX4_mean_27 ?_
    refine lv_iconst (v := iI 1) hx hb dX4_mean_30 rfl ?_
    refine ri_iald (F := (coF op ha cy df)) (i := 1) hx hb hK.1 hP 1 0 rfl rfl (by omega) (by omega) dX4_mean_31 ?_
    refine ri_ex (b := ha) rfl ?_
    refine lv_i2f hx hb dX4_mean_32 ?_
    refine lv_fdiv hx hb dX4_mean_33 (hnan (by omega)) ?_
    exact hret (FP.fdiv (FP.i2f (iI su)) (FP.i2f (iI ha))) 0 _ _ _ _ dX4_mean_34 (Or.inl ⟨by omega, rfl, rfl⟩) hP hD hS
  · skip
    refine lv_aload_n hx hb dX4_mean_14 rfl (lv_at hl 0 rfl) ?_
    refine lv_iconst (v := iI 1) hx hb dX4_mean_15 rfl ?_
    refine rc_I (own := RX4) (q := (RX4, TX4, 28)) (wc := [((y 0), .inr (4, [.int (iI 0), .int (iI n), .ref (y 1), .ref (y 2), .ref (y 3), .ref (y 4), .ref (y 5), .ref (y 6), .ref (y 7), .ref (y 8), .ref (y 9), .int (iI st), .int (iI pe), .int (iI dr), .int (iI lf), .int (iI rt), .int (iI ra), .ref (y 10), .ref (y 11), .int (iI dp), .ref (y 12), .ref (y 13), .int (iI ov), .ref (y 14), .int (iI bs), .int (iI bo), .int (iI mo), .int (iI su)]))]) (wr := [((y 14), .inl (k.1, 4, .inl (iF (coF op ha cy df))))]) (As := [.int (iI 1)]) (rest := []) ⟨hx, hb, hml, hown, hts⟩ (r_refuse l g k y 0 n st pe dr lf rt ra dp ov bs bo mo su H.size 1) (cwV 1 hts gX4_mean_X4_refuse rfl rfl rfl (by decide +kernel) ⟨Nat.le_of_ble_eq_true rfl, Nat.le_of_ble_eq_true rfl⟩) hK hP hD hS hA [0] [1] rfl (by decide) rfl (by decide) (by decide) (ci := 4) (q0 := 0) rfl rfl rfl rfl hl.1 (Nat.le_of_ble_eq_true rfl) ⟨Nat.le_of_ble_eq_true rfl, Nat.le_of_ble_eq_true rfl⟩ dX4_mean_16 (fun r16 u16 H locs hu16 hP hD hS => ?_)
    have hP : va_P g vwCl [((y 14), .inl (k.1, 4, .inl (iF (coF op ha cy df)))), ((y 0), .inr (4, [.int (iI 1), .int (iI n), .ref (y 1), .ref (y 2), .ref (y 3), .ref (y 4), .ref (y 5), .ref (y 6), .ref (y 7), .ref (y 8), .ref (y 9), .int (iI st), .int (iI pe), .int (iI dr), .int (iI lf), .int (iI rt), .int (iI ra), .ref (y 10), .ref (y 11), .int (iI dp), .ref (y 12), .ref (y 13), .int (iI ov), .ref (y 14), .int (iI bs), .int (iI bo), .int (iI mo), .int (iI su)]))] H := hP
    have hD : va_D A [((y 14), .inl (k.1, 4, .inl (iF (coF op ha cy df)))), ((y 0), .inr (4, [.int (iI 1), .int (iI n), .ref (y 1), .ref (y 2), .ref (y 3), .ref (y 4), .ref (y 5), .ref (y 6), .ref (y 7), .ref (y 8), .ref (y 9), .int (iI st), .int (iI pe), .int (iI dr), .int (iI lf), .int (iI rt), .int (iI ra), .ref (y 10), .ref (y 11), .int (iI dp), .ref (y 12), .ref (y 13), .int (iI ov), .ref (y 14), .int (iI bs), .int (iI bo), .int (iI mo), .int (iI su)]))] := hD
    have hP := hP.sub (ws' := [((y 0), .inr (4, [.int (iI 1), .int (iI n), .ref (y 1), .ref (y 2), .ref (y 3), .ref (y 4), .ref (y 5), .ref (y 6), .ref (y 7), .ref (y 8), .ref (y 9), .int (iI st), .int (iI pe), .int (iI dr), .int (iI lf), .int (iI rt), .int (iI ra), .ref (y 10), .ref (y 11), .int (iI dp), .ref (y 12), .ref (y 13), .int (iI ov), .ref (y 14), .int (iI bs), .int (iI bo), .int (iI mo), .int (iI su)])), ((y 14), .inl (k.1, 4, .inl (iF (coF op ha cy df))))]) [1, 0] rfl
    have hD := hD.sub (ws' := [((y 0), .inr (4, [.int (iI 1), .int (iI n), .ref (y 1), .ref (y 2), .ref (y 3), .ref (y 4), .ref (y 5), .ref (y 6), .ref (y 7), .ref (y 8), .ref (y 9), .int (iI st), .int (iI pe), .int (iI dr), .int (iI lf), .int (iI rt), .int (iI ra), .ref (y 10), .ref (y 11), .int (iI dp), .ref (y 12), .ref (y 13), .int (iI ov), .ref (y 14), .int (iI bs), .int (iI bo), .int (iI mo), .int (iI su)])), ((y 14), .inl (k.1, 4, .inl (iF (coF op ha cy df))))]) [1, 0] (by decide) rfl
    refine ri_top (y := iI 0) hu16 ?_
    refine lv_i2f hx hb dX4_mean_19 ?_
    exact hret (FP.i2f (iI 0)) 1 _ _ _ _ dX4_mean_20 (Or.inr ⟨by omega, rfl⟩) hP hD hS

