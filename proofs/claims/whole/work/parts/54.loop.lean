/-! THE LAW'S LOOP -/
theorem and15 (x : Int32) : ∃ v : Int, (0 ≤ v ∧ v ≤ 15) ∧ x &&& iI 15 = iI v := by
  refine ⟨(x &&& iI 15).toInt, ?_, iI_of _⟩
  have h15 : (iI 15).toBitVec.toNat = 15 := by decide
  have h : (x &&& iI 15).toBitVec.toNat ≤ 15 := by
    rw [Int32.toBitVec_and, BitVec.toNat_and, h15]
    exact Nat.and_le_right
  have e : (x &&& iI 15).toInt = ((x &&& iI 15).toBitVec.toNat : Int) := BitVec.toInt_eq_toNat_of_lt (by omega)
  omega
set_option maxHeartbeats 4000000 in
set_option maxRecDepth 100000 in
theorem w_loop (p : Program) (l : Launch) (e : Env) (s : State) (m : MethodId) (below : List Frame) (meth : Method) (c : Code) (Q : State → Prop) (A : Nat → Prop) (g : va_G) (k : kT) (z x y : Nat → Nat) (oa od b L : Nat) (xs : Nat → Int32) (n : Int) (C : lawC p l s m c g k b L xs A) (hn : 2 ≤ n ∧ n ≤ 4) (hret : ∀ (H : Heap) (locs : List Loc) (ls : Array Slot) (cells slots : Nat), va_S A s.heap H locs → cells ≤ 601024 → slots ≤ 7293000 → W p l e room_1 s m ([Value.ref b] : List Value).toArray below meth c H locs cells slots Q (F0 m 671 ls [.int (iI 1)])) : ∀ (f q : Nat) (u : va_W), L + 1 ≤ 4 * q + f → 4 * q ≤ L → lawI k z x y oa od n q u → ∀ (H : Heap) (locs : List Loc), va_P g vwCl u H → va_D A u → va_S A s.heap H locs → ∀ (ls : Array Slot), lv_has ls 8 [(0, .ref b), (1, .ref (z 0)), (2, .ref (y 0)), (3, .ref oa), (4, .ref od), (5, .int (iI (4 * (q : Int) + 1)))] → W p l e room_1 s m ([Value.ref b] : List Value).toArray below meth c H locs (40 + q) (8029 + 6 * q) Q (F0 m 38 ls []) := by
  intro f
  induction f with
  | zero =>
    intro q u h1 h2
    exact absurd h1 (by omega)
  | succ f ih =>
    intro q u h1 h2 hI H locs hP hD hS ls hl
    have C0 := C
    obtain ⟨hl0, hx, hb, hml, hown, hts, hX, hbl, hL9, hK, hE, hG, hH, hbA, hA⟩ := C
    refine lv_iload hx hb dL_law_38 (lv_at hl 5 rfl) ?_
    refine lv_aload_n hx hb dL_law_40 rfl (lv_at hl 0 rfl) ?_
    refine ri_slen hx hb hX hbl hbA hS dL_law_41 ?_
    refine lv_iconst (v := iI 4) hx hb dL_law_42 rfl ?_
    refine ri_isub (a := (L : Int)) (b := 4) hx hb dL_law_43 ?_
    refine ri_icmp_gt (a := (4 * (q : Int) + 1)) (b := ((L : Int) - 4)) (tgt := 670) hx hb (by omega) (by omega) dL_law_44 (by decide) (fun c44 => ?_) (fun c44 => ?_)
    · refine lv_iconst (v := iI 1) hx hb dL_law_670 rfl ?_
      exact hret _ _ _ _ _ hS (by omega) (by omega)
    · have hk : ∀ (u : va_W) (H : Heap) (locs : List Loc) (ls : Array Slot), lawI k z x y oa od n (q + 1) u → va_P g vwCl u H → va_D A u → va_S A s.heap H locs → lv_has ls 8 [(0, .ref b), (1, .ref (z 0)), (2, .ref (y 0)), (3, .ref oa), (4, .ref od), (5, .int (iI (4 * (q : Int) + 1)))] → W p l e room_1 s m ([Value.ref b] : List Value).toArray below meth c H locs (40 + q + 1) (8029 + 6 * q + 6) Q (F0 m 664 ls []) := by
        intro u H locs ls hI hP hD hS hl
        refine ri_iinc (x := (4 * (q : Int) + 1)) (lv' := [(5, .int (iI ((4 * (q : Int) + 1) + 4))), (0, .ref b), (1, .ref (z 0)), (2, .ref (y 0)), (3, .ref oa), (4, .ref od)]) hx hb dL_law_664 hl (k := 5) rfl (by decide) rfl (fun ls hl => ?_)
        refine lv_goto (tgt := 38) hx hb dL_law_667 (by decide) ?_
        have hl : lv_has ls 8 [(0, .ref b), (1, .ref (z 0)), (2, .ref (y 0)), (3, .ref oa), (4, .ref od), (5, .int (iI ((4 * (q : Int) + 1) + 4)))] := lv_sub hl [1, 2, 3, 4, 5, 0] rfl
        have e0 : (4 * (q : Int) + 1) + 4 = 4 * ((q + 1 : Nat) : Int) + 1 := by omega
        have e1 : 40 + q + 1 = 40 + (q + 1) := by omega
        have e2 : 8029 + 6 * q + 6 = 8029 + 6 * (q + 1) := by omega
        rw [e0] at hl
        rw [e1, e2]
        exact ih (q + 1) u (by omega) (by omega) hI H locs hP hD hS ls hl
      refine lv_aload_n hx hb dL_law_47 rfl (lv_at hl 0 rfl) ?_
      refine lv_iload hx hb dL_law_48 (lv_at hl 5 rfl) ?_
      refine ri_sld (i := (4 * (q : Int) + 1)) hx hb hX hbl hbA hS (by omega) (by omega) dL_law_50 ?_
      refine lv_bipush (v := iI 15) hx hb dL_law_51 (by decide) ?_
      refine lv_iand hx hb dL_law_53 ?_
      obtain ⟨v, hv, ev⟩ := and15 (iI (xI xs (4 * (q : Int) + 1)))
      refine ri_top (y := iI v) ev ?_
      obtain ⟨cs, wk, o, st, pe, dr, sta, hd, on, lf, rt, t, tps, hs, ss, sd, G, ctr1, cps1, cpy1, cla1, cd1, bg1, en1, o1, st1, pe1, dr1, sta1, hd1, on1, lf1, rt1, t1, tps1, hs1, ss1, sd1, thr, st3, pe3, dr3, lf3, rt3, dp, trr, T3, B3, ss3, hs3, rc3, ch3, fi, ke, ol, fd, rfl, hcs, hwk, h01, ht0, hlr, hfi, hW, hR, h0, hd7, hha⟩ := hI
      rcases (show v = 0 ∨ v = 1 ∨ v = 2 ∨ v = 3 ∨ v = 4 ∨ v = 5 ∨ v = 6 ∨ v = 7 ∨ v = 8 ∨ (v < 0 ∨ 8 < v) by omega) with hsw | hsw | hsw | hsw | hsw | hsw | hsw | hsw | hsw | hsw
      · refine ri_tabIn (a := v) (v := 0) (tgt := 104) hx hb hsw (by decide) dL_law_54 (by decide) rfl (by decide) ?_
        exact w_set p l e s m below meth c Q A g k z x y oa od b L xs n q C0 hn (by omega) cs wk o st pe dr sta hd on lf rt t tps hs ss sd G ctr1 cps1 cpy1 cla1 cd1 bg1 en1 o1 st1 pe1 dr1 sta1 hd1 on1 lf1 rt1 t1 tps1 hs1 ss1 sd1 thr st3 pe3 dr3 lf3 rt3 dp trr T3 B3 ss3 hs3 rc3 ch3 fi ke ol fd hcs hwk h01 ht0 hlr hfi hW hR h0 hd7 hha H locs hP hD hS ls hl hk
      · refine ri_tabIn (a := v) (v := 1) (tgt := 184) hx hb hsw (by decide) dL_law_54 (by decide) rfl (by decide) ?_
        exact w_run p l e s m below meth c Q A g k z x y oa od b L xs n q C0 hn (by omega) cs wk o st pe dr sta hd on lf rt t tps hs ss sd G ctr1 cps1 cpy1 cla1 cd1 bg1 en1 o1 st1 pe1 dr1 sta1 hd1 on1 lf1 rt1 t1 tps1 hs1 ss1 sd1 thr st3 pe3 dr3 lf3 rt3 dp trr T3 B3 ss3 hs3 rc3 ch3 fi ke ol fd hcs hwk h01 ht0 hlr hfi hW hR h0 hd7 hha H locs hP hD hS ls hl hk
      · refine ri_tabIn (a := v) (v := 2) (tgt := 240) hx hb hsw (by decide) dL_law_54 (by decide) rfl (by decide) ?_
        exact w_figure p l e s m below meth c Q A g k z x y oa od b L xs n q C0 hn (by omega) cs wk o st pe dr sta hd on lf rt t tps hs ss sd G ctr1 cps1 cpy1 cla1 cd1 bg1 en1 o1 st1 pe1 dr1 sta1 hd1 on1 lf1 rt1 t1 tps1 hs1 ss1 sd1 thr st3 pe3 dr3 lf3 rt3 dp trr T3 B3 ss3 hs3 rc3 ch3 fi ke ol fd hcs hwk h01 ht0 hlr hfi hW hR h0 hd7 hha H locs hP hD hS ls hl hk
      · refine ri_tabIn (a := v) (v := 3) (tgt := 296) hx hb hsw (by decide) dL_law_54 (by decide) rfl (by decide) ?_
        exact w_cell p l e s m below meth c Q A g k z x y oa od b L xs n q C0 hn (by omega) cs wk o st pe dr sta hd on lf rt t tps hs ss sd G ctr1 cps1 cpy1 cla1 cd1 bg1 en1 o1 st1 pe1 dr1 sta1 hd1 on1 lf1 rt1 t1 tps1 hs1 ss1 sd1 thr st3 pe3 dr3 lf3 rt3 dp trr T3 B3 ss3 hs3 rc3 ch3 fi ke ol fd hcs hwk h01 ht0 hlr hfi hW hR h0 hd7 hha H locs hP hD hS ls hl hk
      · refine ri_tabIn (a := v) (v := 4) (tgt := 352) hx hb hsw (by decide) dL_law_54 (by decide) rfl (by decide) ?_
        exact w_share p l e s m below meth c Q A g k z x y oa od b L xs n q C0 hn (by omega) cs wk o st pe dr sta hd on lf rt t tps hs ss sd G ctr1 cps1 cpy1 cla1 cd1 bg1 en1 o1 st1 pe1 dr1 sta1 hd1 on1 lf1 rt1 t1 tps1 hs1 ss1 sd1 thr st3 pe3 dr3 lf3 rt3 dp trr T3 B3 ss3 hs3 rc3 ch3 fi ke ol fd hcs hwk h01 ht0 hlr hfi hW hR h0 hd7 hha H locs hP hD hS ls hl hk
      · refine ri_tabIn (a := v) (v := 5) (tgt := 418) hx hb hsw (by decide) dL_law_54 (by decide) rfl (by decide) ?_
        exact w_grow p l e s m below meth c Q A g k z x y oa od b L xs n q C0 hn (by omega) cs wk o st pe dr sta hd on lf rt t tps hs ss sd G ctr1 cps1 cpy1 cla1 cd1 bg1 en1 o1 st1 pe1 dr1 sta1 hd1 on1 lf1 rt1 t1 tps1 hs1 ss1 sd1 thr st3 pe3 dr3 lf3 rt3 dp trr T3 B3 ss3 hs3 rc3 ch3 fi ke ol fd hcs hwk h01 ht0 hlr hfi hW hR h0 hd7 hha H locs hP hD hS ls hl hk
      · refine ri_tabIn (a := v) (v := 6) (tgt := 474) hx hb hsw (by decide) dL_law_54 (by decide) rfl (by decide) ?_
        exact w_taken p l e s m below meth c Q A g k z x y oa od b L xs n q C0 hn (by omega) cs wk o st pe dr sta hd on lf rt t tps hs ss sd G ctr1 cps1 cpy1 cla1 cd1 bg1 en1 o1 st1 pe1 dr1 sta1 hd1 on1 lf1 rt1 t1 tps1 hs1 ss1 sd1 thr st3 pe3 dr3 lf3 rt3 dp trr T3 B3 ss3 hs3 rc3 ch3 fi ke ol fd hcs hwk h01 ht0 hlr hfi hW hR h0 hd7 hha H locs hP hD hS ls hl hk
      · refine ri_tabIn (a := v) (v := 7) (tgt := 530) hx hb hsw (by decide) dL_law_54 (by decide) rfl (by decide) ?_
        exact w_champion p l e s m below meth c Q A g k z x y oa od b L xs n q C0 hn (by omega) cs wk o st pe dr sta hd on lf rt t tps hs ss sd G ctr1 cps1 cpy1 cla1 cd1 bg1 en1 o1 st1 pe1 dr1 sta1 hd1 on1 lf1 rt1 t1 tps1 hs1 ss1 sd1 thr st3 pe3 dr3 lf3 rt3 dp trr T3 B3 ss3 hs3 rc3 ch3 fi ke ol fd hcs hwk h01 ht0 hlr hfi hW hR h0 hd7 hha H locs hP hD hS ls hl hk
      · refine ri_tabIn (a := v) (v := 8) (tgt := 598) hx hb hsw (by decide) dL_law_54 (by decide) rfl (by decide) ?_
        exact w_mean p l e s m below meth c Q A g k z x y oa od b L xs n q C0 hn (by omega) cs wk o st pe dr sta hd on lf rt t tps hs ss sd G ctr1 cps1 cpy1 cla1 cd1 bg1 en1 o1 st1 pe1 dr1 sta1 hd1 on1 lf1 rt1 t1 tps1 hs1 ss1 sd1 thr st3 pe3 dr3 lf3 rt3 dp trr T3 B3 ss3 hs3 rc3 ch3 fi ke ol fd hcs hwk h01 ht0 hlr hfi hW hR h0 hd7 hha H locs hP hD hS ls hl hk
      · refine ri_tabOut (a := v) (tgt := 664) hx hb (by omega) dL_law_54 hsw (by decide) ?_
        refine W.widen (k := 40 + q + 1) (n := 8029 + 6 * q + 6) (by omega) (by omega) ?_
        exact hk _ _ _ _ ⟨cs, wk, o, st, pe, dr, sta, hd, on, lf, rt, t, tps, hs, ss, sd, G, ctr1, cps1, cpy1, cla1, cd1, bg1, en1, o1, st1, pe1, dr1, sta1, hd1, on1, lf1, rt1, t1, tps1, hs1, ss1, sd1, thr, st3, pe3, dr3, lf3, rt3, dp, trr, T3, B3, ss3, hs3, rc3, ch3, fi, ke, ol, fd, rfl, hcs, hwk, h01, ht0, hlr, hfi, hW, hR, h0, hd7, by omega⟩ hP hD hS hl

