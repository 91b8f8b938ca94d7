/-! THE CLASS MachineTree: its methods, but for grow -/
abbrev rm_X : Room := { frames := 6, cells := 1, slots := 6, locals := 180 }
abbrev rm_Y : Room := { frames := 7, cells := 1, slots := 6, locals := 220 }
abbrev zO (z x : Nat → Nat) (wk : Int) : Nat × va_E := ((z 0), .inr (3, [.ref (z 1), .ref (z 3), .ref (x 0), .int (iI wk)]))
set_option maxHeartbeats 4000000 in
set_option maxRecDepth 100000 in
theorem c_needWalk (l : Launch) (hl0 : l.stackTraces = false) (g : va_G) (k : kT) (z x : Nat → Nat) (sz : Nat) (wk : Int) (hwk : wk = 0 ∨ wk = 1) : cXV l yX3_needWalk wsX3_needWalk rm_X g k [zO z x wk] sz [.ref (z 0)] (fun _ : Unit => [zO z x wk]) (fun _ => ¬ wk = 0) (fun E => E = "java/lang/IllegalStateException" ∧ wk = 0) := by
  refine sx_V (cls := "java/lang/IllegalStateException") (ik := 144) (ic := 148) hl0 (by decide) rfl rfl (Nat.le_of_ble_eq_true rfl) (by decide) (by decide +kernel) (by decide +kernel) xS_o (by decide) ?_
  intro p e s m below meth c Q A hx hb hml hown hts hA hP hD hS hK hE hH hret hexc hthr ls hl
  have f41 := hts (.fieldLink RX3 41 "MachineTree" "walked" "Z") (by decide +kernel)
  have inX3 := (by decide +kernel : ∀ w ∈ wsX30, w ∈ wsX3_needWalk)
  have hl : lv_has ls 1 [(0, .ref (z 0))] := hl
  refine lv_aload_n hx hb dX3_needWalk_0 rfl (lv_at hl 0 rfl) ?_
  refine va_get (D := g) (ci := 3) (v := .int (iI wk)) (C := RX3) (T := TX3) (N := 4) hx hb hts inX3 hown hK.1 hP 0 rfl rfl 3 (by decide) f41 (fun _ h9 => h9) rfl dX3_needWalk_1 ?_
  refine ri_if_ne (a := wk) (tgt := 17) hx hb (by omega) dX3_needWalk_4 (by decide) (fun c4 => ?_) (fun c4 => ?_)
  · skip
    exact hret () _ _ _ _ _ _ dX3_needWalk_17 (by decide) c4 hP hD hS
  · skip
    exact hthr ⟨rfl, c4⟩ 152 7 "not run since the machine was changed" _ (by decide) hl.1 dX3_needWalk_7 dX3_needWalk_10 dX3_needWalk_11 dX3_needWalk_13 dX3_needWalk_16

set_option maxHeartbeats 4000000 in
set_option maxRecDepth 100000 in
theorem c_set (l : Launch) (hl0 : l.stackTraces = false) (g : va_G) (k : kT) (z x : Nat → Nat) (sz : Nat) (wk : Int) (n : Int) (cs : Int → Int) (st sy co : Int) (hn : 2 ≤ n ∧ n ≤ 4) (hr : (-2147483648 ≤ st ∧ st < 2147483648) ∧ (-2147483648 ≤ sy ∧ sy < 2147483648) ∧ (-2147483648 ≤ co ∧ co < 2147483648)) : cXI l yX3_set wsX3_set rm_X g k ([zO z x wk] ++ wMa k (z 1) (z 2) n cs) sz [.ref (z 0), .int (iI st), .int (iI sy), .int (iI co)] (fun _ : Unit => [zO z x 0] ++ wMa k (z 1) (z 2) n (up cs (2 * st + sy) co)) (fun r _ => ((0 ≤ st ∧ st < n ∧ (sy = 0 ∨ sy = 1)) ∧ (-1 ≤ co ∧ co < 4 * n)) ∧ r = iI (cs (2 * st + sy))) (fun E => E = "java/lang/IllegalArgumentException" ∧ ¬ ((0 ≤ st ∧ st < n ∧ (sy = 0 ∨ sy = 1)) ∧ (-1 ≤ co ∧ co < 4 * n))) := by
  refine sx_I (cls := "java/lang/IllegalArgumentException") (ik := 49) (ic := 53) hl0 (by decide) rfl rfl (Nat.le_of_ble_eq_true rfl) (by decide) (by decide +kernel) (by decide +kernel) xA_o (by decide) ?_
  intro p e s m below meth c Q A hx hb hml hown hts hA hP hD hS hK hE hH hret hexc hthr ls hl
  have f23 := hts (.fieldLink RX3 23 "MachineTree" "machine" "LMachineTree$Machine;") (by decide +kernel)
  have inX3 := (by decide +kernel : ∀ w ∈ wsX30, w ∈ wsX3_set)
  have f41 := hts (.fieldLink RX3 41 "MachineTree" "walked" "Z") (by decide +kernel)
  have hl : lv_has ls 5 [(0, .ref (z 0)), (1, .int (iI st)), (2, .int (iI sy)), (3, .int (iI co))] := hl
  refine lv_aload_n hx hb dX3_set_0 rfl (lv_at hl 0 rfl) ?_
  refine va_get (D := g) (ci := 3) (v := .ref (z 1)) (C := RX3) (T := TX3) (N := 4) hx hb hts inX3 hown hK.1 hP 0 rfl rfl 0 (by decide) f23 (fun _ h9 => h9) rfl dX3_set_1 ?_
  refine lv_iload_n hx hb dX3_set_4 rfl (lv_at hl 1 rfl) ?_
  refine lv_iload_n hx hb dX3_set_5 rfl (lv_at hl 2 rfl) ?_
  refine rc_P (own := RX3) (q := (RX0, TX0, 2)) (wc := [((z 1), .inr (0, [.int (iI n), .ref (z 2)])), ((z 2), .inl (k.1, 8, .inl (iF cs)))]) (As := [.int (iI st), .int (iI sy)]) (rest := []) ⟨hx, hb, hml, hown, hts⟩ (c_hasPlace l g k (z 1) (z 2) n cs st sy hn (by omega) (by omega)) (cwV 2 hts gX3_set_X0_hasPlace rfl rfl rfl (by decide +kernel) ⟨Nat.le_of_ble_eq_true rfl, Nat.le_of_ble_eq_true rfl⟩) hK hP [1, 2] rfl (ci := 0) (q0 := 0) rfl rfl rfl rfl hl.1 (Nat.le_of_ble_eq_true rfl) ⟨Nat.le_of_ble_eq_true rfl, Nat.le_of_ble_eq_true rfl⟩ dX3_set_6 (fun r6 hr6 => ?_)
  refine ri_top (y := iI (if 0 ≤ st ∧ st < n ∧ (sy = 0 ∨ sy = 1) then 1 else 0)) hr6 ?_
  have q6 : (if 0 ≤ st ∧ st < n ∧ (sy = 0 ∨ sy = 1) then (1 : Int) else 0) = 1 ∧ (0 ≤ st ∧ st < n ∧ (sy = 0 ∨ sy = 1)) ∨ (if 0 ≤ st ∧ st < n ∧ (sy = 0 ∨ sy = 1) then (1 : Int) else 0) = 0 ∧ ¬ (0 ≤ st ∧ st < n ∧ (sy = 0 ∨ sy = 1)) := by by_cases q : 0 ≤ st ∧ st < n ∧ (sy = 0 ∨ sy = 1) <;> simp [q]
  generalize (if 0 ≤ st ∧ st < n ∧ (sy = 0 ∨ sy = 1) then (1 : Int) else 0) = v6 at q6 ⊢
  refine ri_if_ne (a := v6) (tgt := 22) hx hb (by omega) dX3_set_9 (by decide) (fun c9 => ?_) (fun c9 => ?_)
  · skip
    refine lv_aload_n hx hb dX3_set_22 rfl (lv_at hl 0 rfl) ?_
    refine va_get (D := g) (ci := 3) (v := .ref (z 1)) (C := RX3) (T := TX3) (N := 4) hx hb hts inX3 hown hK.1 hP 0 rfl rfl 0 (by decide) f23 (fun _ h9 => h9) rfl dX3_set_23 ?_
    refine lv_iload_n hx hb dX3_set_26 rfl (lv_at hl 3 rfl) ?_
    refine rc_P (own := RX3) (q := (RX0, TX0, 2)) (wc := [((z 1), .inr (0, [.int (iI n), .ref (z 2)])), ((z 2), .inl (k.1, 8, .inl (iF cs)))]) (As := [.int (iI co)]) (rest := []) ⟨hx, hb, hml, hown, hts⟩ (c_allows l g k (z 1) (z 2) n cs co hn (by omega)) (cwV 1 hts gX3_set_X0_allows rfl rfl rfl (by decide +kernel) ⟨Nat.le_of_ble_eq_true rfl, Nat.le_of_ble_eq_true rfl⟩) hK hP [1, 2] rfl (ci := 0) (q0 := 0) rfl rfl rfl rfl hl.1 (Nat.le_of_ble_eq_true rfl) ⟨Nat.le_of_ble_eq_true rfl, Nat.le_of_ble_eq_true rfl⟩ dX3_set_27 (fun r27 hr27 => ?_)
    refine ri_top (y := iI (if -1 ≤ co ∧ co < 4 * n then 1 else 0)) hr27 ?_
    have q27 : (if -1 ≤ co ∧ co < 4 * n then (1 : Int) else 0) = 1 ∧ (-1 ≤ co ∧ co < 4 * n) ∨ (if -1 ≤ co ∧ co < 4 * n then (1 : Int) else 0) = 0 ∧ ¬ (-1 ≤ co ∧ co < 4 * n) := by by_cases q : -1 ≤ co ∧ co < 4 * n <;> simp [q]
    generalize (if -1 ≤ co ∧ co < 4 * n then (1 : Int) else 0) = v27 at q27 ⊢
    refine ri_if_ne (a := v27) (tgt := 43) hx hb (by omega) dX3_set_30 (by decide) (fun c30 => ?_) (fun c30 => ?_)
    · skip
      refine lv_aload_n hx hb dX3_set_43 rfl (lv_at hl 0 rfl) ?_
      refine va_get (D := g) (ci := 3) (v := .ref (z 1)) (C := RX3) (T := TX3) (N := 4) hx hb hts inX3 hown hK.1 hP 0 rfl rfl 0 (by decide) f23 (fun _ h9 => h9) rfl dX3_set_44 ?_
      refine lv_iload_n hx hb dX3_set_47 rfl (lv_at hl 1 rfl) ?_
      refine lv_iload_n hx hb dX3_set_48 rfl (lv_at hl 2 rfl) ?_
      refine rc_P (own := RX3) (q := (RX0, TX0, 2)) (wc := [((z 1), .inr (0, [.int (iI n), .ref (z 2)])), ((z 2), .inl (k.1, 8, .inl (iF cs)))]) (As := [.int (iI st), .int (iI sy)]) (rest := []) ⟨hx, hb, hml, hown, hts⟩ (c_codeAt l g k (z 1) (z 2) n cs st sy (by omega)) (cwV 2 hts gX3_set_X0_codeAt rfl rfl rfl (by decide +kernel) ⟨Nat.le_of_ble_eq_true rfl, Nat.le_of_ble_eq_true rfl⟩) hK hP [1, 2] rfl (ci := 0) (q0 := 0) rfl rfl rfl rfl hl.1 (Nat.le_of_ble_eq_true rfl) ⟨Nat.le_of_ble_eq_true rfl, Nat.le_of_ble_eq_true rfl⟩ dX3_set_49 (fun r49 hr49 => ?_)
      refine ri_top (y := iI (cs (2 * st + sy))) hr49 ?_
      refine lv_istore (lv' := [(4, .int (iI (cs (2 * st + sy)))), (0, .ref (z 0)), (1, .int (iI st)), (2, .int (iI sy)), (3, .int (iI co))]) hx hb dX3_set_52 hl (by decide) rfl (fun ls hl => ?_)
      refine lv_aload_n hx hb dX3_set_54 rfl (lv_at hl 1 rfl) ?_
      refine va_get (D := g) (ci := 3) (v := .ref (z 1)) (C := RX3) (T := TX3) (N := 4) hx hb hts inX3 hown hK.1 hP 0 rfl rfl 0 (by decide) f23 (fun _ h9 => h9) rfl dX3_set_55 ?_
      refine lv_iload_n hx hb dX3_set_58 rfl (lv_at hl 2 rfl) ?_
      refine lv_iload_n hx hb dX3_set_59 rfl (lv_at hl 3 rfl) ?_
      refine lv_iload_n hx hb dX3_set_60 rfl (lv_at hl 4 rfl) ?_
      refine rc_V (own := RX3) (q := (RX0, TX0, 2)) (wc := [((z 1), .inr (0, [.int (iI n), .ref (z 2)])), ((z 2), .inl (k.1, 8, .inl (iF cs)))]) (wr := [((z 0), .inr (3, [.ref (z 1), .ref (z 3), .ref (x 0), .int (iI wk)]))]) (As := [.int (iI st), .int (iI sy), .int (iI co)]) (rest := []) ⟨hx, hb, hml, hown, hts⟩ (c_put l g k (z 1) (z 2) n cs s.heap.size st sy co (by omega)) (cwV 3 hts gX3_set_X0_put rfl rfl rfl (by decide +kernel) ⟨Nat.le_of_ble_eq_true rfl, Nat.le_of_ble_eq_true rfl⟩) hK hP hD hS hA [1, 2] [0] rfl (by decide) rfl (by decide) (by decide) (ci := 0) (q0 := 0) rfl rfl rfl rfl hl.1 (Nat.le_of_ble_eq_true rfl) ⟨Nat.le_of_ble_eq_true rfl, Nat.le_of_ble_eq_true rfl⟩ dX3_set_61 (fun u61 H locs hu61 hP hD hS => ?_)
      have hP : va_P g vwCl [((z 0), .inr (3, [.ref (z 1), .ref (z 3), .ref (x 0), .int (iI wk)])), ((z 1), .inr (0, [.int (iI n), .ref (z 2)])), ((z 2), .inl (k.1, 8, .inl (iF (up cs (2 * st + sy) co))))] H := hP
      have hD : va_D A [((z 0), .inr (3, [.ref (z 1), .ref (z 3), .ref (x 0), .int (iI wk)])), ((z 1), .inr (0, [.int (iI n), .ref (z 2)])), ((z 2), .inl (k.1, 8, .inl (iF (up cs (2 * st + sy) co))))] := hD
      have hP := hP.sub (ws' := [((z 0), .inr (3, [.ref (z 1), .ref (z 3), .ref (x 0), .int (iI wk)])), ((z 1), .inr (0, [.int (iI n), .ref (z 2)])), ((z 2), .inl (k.1, 8, .inl (iF (up cs (2 * st + sy) co))))]) [0, 1, 2] rfl
      have hD := hD.sub (ws' := [((z 0), .inr (3, [.ref (z 1), .ref (z 3), .ref (x 0), .int (iI wk)])), ((z 1), .inr (0, [.int (iI n), .ref (z 2)])), ((z 2), .inl (k.1, 8, .inl (iF (up cs (2 * st + sy) co))))]) [0, 1, 2] (by decide) rfl
      refine lv_aload_n hx hb dX3_set_64 rfl (lv_at hl 1 rfl) ?_
      refine lv_iconst (v := iI 0) hx hb dX3_set_65 rfl ?_
      refine va_put (D := g) (ci := 3) (v := .int (iI 0)) (ty := .boolean) (C := RX3) (T := TX3) (N := 4) hx hb hts inX3 tyX3 tyX3_ok nmX3 hown hK.1 hP hD hS 0 rfl rfl 3 (by decide) f41 (fun _ h9 => h9) rfl (by decide +kernel) rfl rfl (Nat.le_of_ble_eq_true rfl) dX3_set_66 (fun H locs hP hD hS => ?_)
      have hP : va_P g vwCl [((z 0), .inr (3, [.ref (z 1), .ref (z 3), .ref (x 0), .int (iI 0)])), ((z 1), .inr (0, [.int (iI n), .ref (z 2)])), ((z 2), .inl (k.1, 8, .inl (iF (up cs (2 * st + sy) co))))] H := hP
      have hD : va_D A [((z 0), .inr (3, [.ref (z 1), .ref (z 3), .ref (x 0), .int (iI 0)])), ((z 1), .inr (0, [.int (iI n), .ref (z 2)])), ((z 2), .inl (k.1, 8, .inl (iF (up cs (2 * st + sy) co))))] := hD
      refine lv_iload hx hb dX3_set_69 (lv_at hl 0 rfl) ?_
      exact hret (iI (cs (2 * st + sy))) () _ _ _ _ _ _ dX3_set_71 (by decide) ⟨by omega, rfl⟩ hP hD hS
    · skip
      exact hthr ⟨rfl, by omega⟩ 60 33 "no such code" _ (by decide) hl.1 dX3_set_33 dX3_set_36 dX3_set_37 dX3_set_39 dX3_set_42
  · skip
    exact hthr ⟨rfl, by omega⟩ 51 12 "no such state or symbol" _ (by decide) hl.1 dX3_set_12 dX3_set_15 dX3_set_16 dX3_set_18 dX3_set_21

set_option maxHeartbeats 4000000 in
set_option maxRecDepth 100000 in
theorem c_run (l : Launch) (hl0 : l.stackTraces = false) (g : va_G) (k : kT) (z x : Nat → Nat) (sz : Nat) (wk : Int) (n : Int) (cs : Int → Int) (o st pe dr sta hd on lf rt : Int) (tp tps : Nat → Int64) (hs ss sd : Int → Int) (L : Int) (hc : okC cs) (hr : -2147483648 ≤ L ∧ L < 2147483648) : cXI l yX3_run wsX3_run rm_X g k ([zO z x wk] ++ wMa k (z 1) (z 2) n cs ++ wW300 k (z 3) (z 4) (z 5) (z 6) (z 7) (z 8) o st pe dr sta hd on lf rt tp tps hs ss sd) sz [.ref (z 0), .int (iI L)] (fun u : (Nat → Int64) × (Int → Int) × (Int → Int) × (Int → Int) => [zO z x 1] ++ wMa k (z 1) (z 2) n cs ++ wE300 k (z 3) (z 4) (z 5) (z 6) (z 7) (z 8) cs L.toNat u) (fun r _ => (1 ≤ L ∧ L ≤ 300) ∧ r = iI (runF cs L.toNat 0).1 ∧ alive cs (kF (runF cs L.toNat 0))) (fun E => E = "java/lang/IllegalArgumentException" ∧ ¬ (1 ≤ L ∧ L ≤ 300)) := by
  refine sx_I (cls := "java/lang/IllegalArgumentException") (ik := 49) (ic := 53) hl0 (by decide) rfl rfl (Nat.le_of_ble_eq_true rfl) (by decide) (by decide +kernel) (by decide +kernel) xA_o (by decide) ?_
  intro p e s m below meth c Q A hx hb hml hown hts hA hP hD hS hK hE hH hret hexc hthr ls hl
  have f30 := hts (.fieldLink RX3 30 "MachineTree" "walk" "LMachineTree$Walk;") (by decide +kernel)
  have inX3 := (by decide +kernel : ∀ w ∈ wsX30, w ∈ wsX3_run)
  have f23 := hts (.fieldLink RX3 23 "MachineTree" "machine" "LMachineTree$Machine;") (by decide +kernel)
  have f41 := hts (.fieldLink RX3 41 "MachineTree" "walked" "Z") (by decide +kernel)
  have f75 := hK.2 ("MachineTree", 75, "MachineTree$Walk", "outcome", "I") (by decide)
  have inX2 := (by decide +kernel : ∀ w ∈ wsX20, w ∈ wsX3_run)
  have hl : lv_has ls 2 [(0, .ref (z 0)), (1, .int (iI L))] := hl
  refine lv_iload_n hx hb dX3_run_0 rfl (lv_at hl 1 rfl) ?_
  refine lv_iconst (v := iI 1) hx hb dX3_run_1 rfl ?_
  refine ri_icmp_lt (a := L) (b := 1) (tgt := 12) hx hb (by omega) (by omega) dX3_run_2 (by decide) (fun c2 => ?_) (fun c2 => ?_)
  · skip
    exact hthr ⟨rfl, by omega⟩ 69 12 "the limit is not 1 to 300" _ (by decide) hl.1 dX3_run_12 dX3_run_15 dX3_run_16 dX3_run_18 dX3_run_21
  · skip
    refine lv_iload_n hx hb dX3_run_5 rfl (lv_at hl 1 rfl) ?_
    refine lv_sipush (v := iI 300) hx hb dX3_run_6 (by decide) ?_
    refine ri_icmp_le (a := L) (b := 300) (tgt := 22) hx hb (by omega) (by omega) dX3_run_9 (by decide) (fun c9 => ?_) (fun c9 => ?_)
    · skip
      refine lv_aload_n hx hb dX3_run_22 rfl (lv_at hl 0 rfl) ?_
      refine va_get (D := g) (ci := 3) (v := .ref (z 3)) (C := RX3) (T := TX3) (N := 4) hx hb hts inX3 hown hK.1 hP 0 rfl rfl 1 (by decide) f30 (fun _ h9 => h9) rfl dX3_run_23 ?_
      refine lv_aload_n hx hb dX3_run_26 rfl (lv_at hl 0 rfl) ?_
      refine va_get (D := g) (ci := 3) (v := .ref (z 1)) (C := RX3) (T := TX3) (N := 4) hx hb hts inX3 hown hK.1 hP 0 rfl rfl 0 (by decide) f23 (fun _ h9 => h9) rfl dX3_run_27 ?_
      refine lv_iload_n hx hb dX3_run_30 rfl (lv_at hl 1 rfl) ?_
      refine rc_V (own := RX3) (q := (RX2, TX2, 16)) (wc := [((z 1), .inr (0, [.int (iI n), .ref (z 2)])), ((z 2), .inl (k.1, 8, .inl (iF cs))), ((z 3), .inr (2, [.int (iI 300), .int (iI 10), .ref (z 4), .ref (z 5), .ref (z 6), .ref (z 7), .ref (z 8), .int (iI o), .int (iI st), .int (iI pe), .int (iI dr), .int (iI sta), .int (iI hd), .int (iI on), .int (iI lf), .int (iI rt)])), ((z 4), .inl (k.2.1, 10, .inr (.inl tp))), ((z 5), .inl (k.2.1, 3010, .inr (.inl tps))), ((z 6), .inl (k.1, 301, .inl (iF hs))), ((z 7), .inl (k.1, 301, .inl (iF ss))), ((z 8), .inl (k.1, 301, .inl (iF sd)))]) (wr := [((z 0), .inr (3, [.ref (z 1), .ref (z 3), .ref (x 0), .int (iI wk)]))]) (As := [.ref (z 1), .int (iI L)]) (rest := []) ⟨hx, hb, hml, hown, hts⟩ (by have h := c_follow300 l g k (z 3) (z 4) (z 5) (z 6) (z 7) (z 8) o st pe dr sta hd on lf rt tp tps hs ss sd (z 1) (z 2) n cs hc L.toNat (by omega) s.heap.size; rw [Int.toNat_of_nonneg (by omega)] at h; exact h) (cwV 2 hts gX3_run_X2_follow rfl rfl rfl (by decide +kernel) ⟨Nat.le_of_ble_eq_true rfl, Nat.le_of_ble_eq_true rfl⟩) hK hP hD hS hA [1, 2, 3, 4, 5, 6, 7, 8] [0] rfl (by decide) rfl (by decide) (by decide) (ci := 2) (q0 := 2) rfl rfl rfl rfl hl.1 (Nat.le_of_ble_eq_true rfl) ⟨Nat.le_of_ble_eq_true rfl, Nat.le_of_ble_eq_true rfl⟩ dX3_run_31 (fun u31 H locs hu31 hP hD hS => ?_)
      have hP : va_P g vwCl [((z 0), .inr (3, [.ref (z 1), .ref (z 3), .ref (x 0), .int (iI wk)])), ((z 1), .inr (0, [.int (iI n), .ref (z 2)])), ((z 2), .inl (k.1, 8, .inl (iF cs))), ((z 3), .inr (2, [.int (iI 300), .int (iI 10), .ref (z 4), .ref (z 5), .ref (z 6), .ref (z 7), .ref (z 8), .int (iI ((runF cs L.toNat 0).1)), .int (iI ((runF cs L.toNat 0).2.1 : Int)), .int (iI ((runF cs L.toNat 0).2.2.1)), .int (iI ((runF cs L.toNat 0).2.2.2)), .int (iI (sS cs (kF (runF cs L.toNat 0)))), .int (iI (sH cs (kF (runF cs L.toNat 0)))), .int (iI (sO cs (kF (runF cs L.toNat 0)))), .int (iI (sL cs (kF (runF cs L.toNat 0)))), .int (iI (sU cs (kF (runF cs L.toNat 0))))])), ((z 4), .inl (k.2.1, 10, .inr (.inl (bW 300 (sT cs (kF (runF cs L.toNat 0))))))), ((z 5), .inl (k.2.1, 3010, .inr (.inl u31.1))), ((z 6), .inl (k.1, 301, .inl (iF u31.2.1))), ((z 7), .inl (k.1, 301, .inl (iF u31.2.2.1))), ((z 8), .inl (k.1, 301, .inl (iF u31.2.2.2)))] H := hP
      have hD : va_D A [((z 0), .inr (3, [.ref (z 1), .ref (z 3), .ref (x 0), .int (iI wk)])), ((z 1), .inr (0, [.int (iI n), .ref (z 2)])), ((z 2), .inl (k.1, 8, .inl (iF cs))), ((z 3), .inr (2, [.int (iI 300), .int (iI 10), .ref (z 4), .ref (z 5), .ref (z 6), .ref (z 7), .ref (z 8), .int (iI ((runF cs L.toNat 0).1)), .int (iI ((runF cs L.toNat 0).2.1 : Int)), .int (iI ((runF cs L.toNat 0).2.2.1)), .int (iI ((runF cs L.toNat 0).2.2.2)), .int (iI (sS cs (kF (runF cs L.toNat 0)))), .int (iI (sH cs (kF (runF cs L.toNat 0)))), .int (iI (sO cs (kF (runF cs L.toNat 0)))), .int (iI (sL cs (kF (runF cs L.toNat 0)))), .int (iI (sU cs (kF (runF cs L.toNat 0))))])), ((z 4), .inl (k.2.1, 10, .inr (.inl (bW 300 (sT cs (kF (runF cs L.toNat 0))))))), ((z 5), .inl (k.2.1, 3010, .inr (.inl u31.1))), ((z 6), .inl (k.1, 301, .inl (iF u31.2.1))), ((z 7), .inl (k.1, 301, .inl (iF u31.2.2.1))), ((z 8), .inl (k.1, 301, .inl (iF u31.2.2.2)))] := hD
      have hP := hP.sub (ws' := [((z 0), .inr (3, [.ref (z 1), .ref (z 3), .ref (x 0), .int (iI wk)])), ((z 1), .inr (0, [.int (iI n), .ref (z 2)])), ((z 2), .inl (k.1, 8, .inl (iF cs))), ((z 3), .inr (2, [.int (iI 300), .int (iI 10), .ref (z 4), .ref (z 5), .ref (z 6), .ref (z 7), .ref (z 8), .int (iI ((runF cs L.toNat 0).1)), .int (iI ((runF cs L.toNat 0).2.1 : Int)), .int (iI ((runF cs L.toNat 0).2.2.1)), .int (iI ((runF cs L.toNat 0).2.2.2)), .int (iI (sS cs (kF (runF cs L.toNat 0)))), .int (iI (sH cs (kF (runF cs L.toNat 0)))), .int (iI (sO cs (kF (runF cs L.toNat 0)))), .int (iI (sL cs (kF (runF cs L.toNat 0)))), .int (iI (sU cs (kF (runF cs L.toNat 0))))])), ((z 4), .inl (k.2.1, 10, .inr (.inl (bW 300 (sT cs (kF (runF cs L.toNat 0))))))), ((z 5), .inl (k.2.1, 3010, .inr (.inl u31.1))), ((z 6), .inl (k.1, 301, .inl (iF u31.2.1))), ((z 7), .inl (k.1, 301, .inl (iF u31.2.2.1))), ((z 8), .inl (k.1, 301, .inl (iF u31.2.2.2)))]) [0, 1, 2, 3, 4, 5, 6, 7, 8] rfl
      have hD := hD.sub (ws' := [((z 0), .inr (3, [.ref (z 1), .ref (z 3), .ref (x 0), .int (iI wk)])), ((z 1), .inr (0, [.int (iI n), .ref (z 2)])), ((z 2), .inl (k.1, 8, .inl (iF cs))), ((z 3), .inr (2, [.int (iI 300), .int (iI 10), .ref (z 4), .ref (z 5), .ref (z 6), .ref (z 7), .ref (z 8), .int (iI ((runF cs L.toNat 0).1)), .int (iI ((runF cs L.toNat 0).2.1 : Int)), .int (iI ((runF cs L.toNat 0).2.2.1)), .int (iI ((runF cs L.toNat 0).2.2.2)), .int (iI (sS cs (kF (runF cs L.toNat 0)))), .int (iI (sH cs (kF (runF cs L.toNat 0)))), .int (iI (sO cs (kF (runF cs L.toNat 0)))), .int (iI (sL cs (kF (runF cs L.toNat 0)))), .int (iI (sU cs (kF (runF cs L.toNat 0))))])), ((z 4), .inl (k.2.1, 10, .inr (.inl (bW 300 (sT cs (kF (runF cs L.toNat 0))))))), ((z 5), .inl (k.2.1, 3010, .inr (.inl u31.1))), ((z 6), .inl (k.1, 301, .inl (iF u31.2.1))), ((z 7), .inl (k.1, 301, .inl (iF u31.2.2.1))), ((z 8), .inl (k.1, 301, .inl (iF u31.2.2.2)))]) [0, 1, 2, 3, 4, 5, 6, 7, 8] (by decide) rfl
      refine lv_aload_n hx hb dX3_run_34 rfl (lv_at hl 0 rfl) ?_
      refine lv_iconst (v := iI 1) hx hb dX3_run_35 rfl ?_
      refine va_put (D := g) (ci := 3) (v := .int (iI 1)) (ty := .boolean) (C := RX3) (T := TX3) (N := 4) hx hb hts inX3 tyX3 tyX3_ok nmX3 hown hK.1 hP hD hS 0 rfl rfl 3 (by decide) f41 (fun _ h9 => h9) rfl (by decide +kernel) rfl rfl (Nat.le_of_ble_eq_true rfl) dX3_run_36 (fun H locs hP hD hS => ?_)
      have hP : va_P g vwCl [((z 0), .inr (3, [.ref (z 1), .ref (z 3), .ref (x 0), .int (iI 1)])), ((z 1), .inr (0, [.int (iI n), .ref (z 2)])), ((z 2), .inl (k.1, 8, .inl (iF cs))), ((z 3), .inr (2, [.int (iI 300), .int (iI 10), .ref (z 4), .ref (z 5), .ref (z 6), .ref (z 7), .ref (z 8), .int (iI ((runF cs L.toNat 0).1)), .int (iI ((runF cs L.toNat 0).2.1 : Int)), .int (iI ((runF cs L.toNat 0).2.2.1)), .int (iI ((runF cs L.toNat 0).2.2.2)), .int (iI (sS cs (kF (runF cs L.toNat 0)))), .int (iI (sH cs (kF (runF cs L.toNat 0)))), .int (iI (sO cs (kF (runF cs L.toNat 0)))), .int (iI (sL cs (kF (runF cs L.toNat 0)))), .int (iI (sU cs (kF (runF cs L.toNat 0))))])), ((z 4), .inl (k.2.1, 10, .inr (.inl (bW 300 (sT cs (kF (runF cs L.toNat 0))))))), ((z 5), .inl (k.2.1, 3010, .inr (.inl u31.1))), ((z 6), .inl (k.1, 301, .inl (iF u31.2.1))), ((z 7), .inl (k.1, 301, .inl (iF u31.2.2.1))), ((z 8), .inl (k.1, 301, .inl (iF u31.2.2.2)))] H := hP
      have hD : va_D A [((z 0), .inr (3, [.ref (z 1), .ref (z 3), .ref (x 0), .int (iI 1)])), ((z 1), .inr (0, [.int (iI n), .ref (z 2)])), ((z 2), .inl (k.1, 8, .inl (iF cs))), ((z 3), .inr (2, [.int (iI 300), .int (iI 10), .ref (z 4), .ref (z 5), .ref (z 6), .ref (z 7), .ref (z 8), .int (iI ((runF cs L.toNat 0).1)), .int (iI ((runF cs L.toNat 0).2.1 : Int)), .int (iI ((runF cs L.toNat 0).2.2.1)), .int (iI ((runF cs L.toNat 0).2.2.2)), .int (iI (sS cs (kF (runF cs L.toNat 0)))), .int (iI (sH cs (kF (runF cs L.toNat 0)))), .int (iI (sO cs (kF (runF cs L.toNat 0)))), .int (iI (sL cs (kF (runF cs L.toNat 0)))), .int (iI (sU cs (kF (runF cs L.toNat 0))))])), ((z 4), .inl (k.2.1, 10, .inr (.inl (bW 300 (sT cs (kF (runF cs L.toNat 0))))))), ((z 5), .inl (k.2.1, 3010, .inr (.inl u31.1))), ((z 6), .inl (k.1, 301, .inl (iF u31.2.1))), ((z 7), .inl (k.1, 301, .inl (iF u31.2.2.1))), ((z 8), .inl (k.1, 301, .inl (iF u31.2.2.2)))] := hD
      refine lv_aload_n hx hb dX3_run_39 rfl (lv_at hl 0 rfl) ?_
      refine va_get (D := g) (ci := 3) (v := .ref (z 3)) (C := RX3) (T := TX3) (N := 4) hx hb hts inX3 hown hK.1 hP 0 rfl rfl 1 (by decide) f30 (fun _ h9 => h9) rfl dX3_run_40 ?_
      refine va_getN (D := g) (ci := 2) (v := .int (iI ((runF cs L.toNat 0).1))) (C := RX2) (T := TX2) (N := 16) hx hb hts inX2 hown hK.1 hP 3 rfl rfl 7 (by decide) (va_Nw.use rfl f75) (fun _ h9 => h9) rfl dX3_run_43 ?_
      exact hret (iI ((runF cs L.toNat 0).1)) u31 _ _ _ _ _ _ dX3_run_46 (by decide) ⟨by omega, rfl, hu31⟩ hP hD hS
    · skip
      exact hthr ⟨rfl, by omega⟩ 69 12 "the limit is not 1 to 300" _ (by decide) hl.1 dX3_run_12 dX3_run_15 dX3_run_16 dX3_run_18 dX3_run_21

def figF (o st pe dr sta hd on lf rt w : Int) : Int := if w = 0 then o else if w = 1 then st else if w = 2 then pe else if w = 3 then dr else if w = 4 then sta else if w = 5 then hd else if w = 6 then on else if w = 7 then lf else rt
set_option maxHeartbeats 4000000 in
set_option maxRecDepth 100000 in
theorem c_figure (l : Launch) (hl0 : l.stackTraces = false) (g : va_G) (k : kT) (z x : Nat → Nat) (sz : Nat) (wk : Int) (o st pe dr sta hd on lf rt : Int) (w : Int) (hwk : wk = 0 ∨ wk = 1) (hr : -2147483648 ≤ w ∧ w < 2147483648) : cXI l yX3_figure wsX3_figure rm_Y g k [zO z x wk, wO300 (z 3) (z 4) (z 5) (z 6) (z 7) (z 8) o st pe dr sta hd on lf rt] sz [.ref (z 0), .int (iI w)] (fun _ : Unit => [zO z x wk, wO300 (z 3) (z 4) (z 5) (z 6) (z 7) (z 8) o st pe dr sta hd on lf rt]) (fun r _ => (0 ≤ w ∧ w ≤ 8) ∧ ¬ wk = 0 ∧ r = iI (figF o st pe dr sta hd on lf rt w)) (fun E => (E = "java/lang/IllegalArgumentException" ∧ ¬ (0 ≤ w ∧ w ≤ 8)) ∨ (E = "java/lang/IllegalStateException" ∧ (0 ≤ w ∧ w ≤ 8) ∧ wk = 0)) := by
  refine sx_I (cls := "java/lang/IllegalArgumentException") (ik := 49) (ic := 53) hl0 (by decide) rfl rfl (Nat.le_of_ble_eq_true rfl) (by decide) (by decide +kernel) (by decide +kernel) xA_o (by decide) ?_
  intro p e s m below meth c Q A hx hb hml hown hts hA hP hD hS hK hE hH hret hexc hthr ls hl
  have f30 := hts (.fieldLink RX3 30 "MachineTree" "walk" "LMachineTree$Walk;") (by decide +kernel)
  have inX3 := (by decide +kernel : ∀ w ∈ wsX30, w ∈ wsX3_figure)
  have f75 := hK.2 ("MachineTree", 75, "MachineTree$Walk", "outcome", "I") (by decide)
  have inX2 := (by decide +kernel : ∀ w ∈ wsX20, w ∈ wsX3_figure)
  have f84 := hK.2 ("MachineTree", 84, "MachineTree$Walk", "steps", "I") (by decide)
  have f87 := hK.2 ("MachineTree", 87, "MachineTree$Walk", "period", "I") (by decide)
  have f90 := hK.2 ("MachineTree", 90, "MachineTree$Walk", "drift", "I") (by decide)
  have f93 := hK.2 ("MachineTree", 93, "MachineTree$Walk", "state", "I") (by decide)
  have f96 := hK.2 ("MachineTree", 96, "MachineTree$Walk", "head", "I") (by decide)
  have f99 := hK.2 ("MachineTree", 99, "MachineTree$Walk", "ones", "I") (by decide)
  have f102 := hK.2 ("MachineTree", 102, "MachineTree$Walk", "left", "I") (by decide)
  have f105 := hK.2 ("MachineTree", 105, "MachineTree$Walk", "right", "I") (by decide)
  have hl : lv_has ls 2 [(0, .ref (z 0)), (1, .int (iI w))] := hl
  refine lv_iload_n hx hb dX3_figure_0 rfl (lv_at hl 1 rfl) ?_
  refine ri_if_lt (a := w) (tgt := 10) hx hb (by omega) dX3_figure_1 (by decide) (fun c1 => ?_) (fun c1 => ?_)
  · skip
    exact hthr (Or.inl ⟨rfl, by omega⟩) 79 10 "no such figure" _ (by decide) hl.1 dX3_figure_10 dX3_figure_13 dX3_figure_14 dX3_figure_16 dX3_figure_19
  · skip
    refine lv_iload_n hx hb dX3_figure_4 rfl (lv_at hl 1 rfl) ?_
    refine lv_bipush (v := iI 8) hx hb dX3_figure_5 (by decide) ?_
    refine ri_icmp_le (a := w) (b := 8) (tgt := 20) hx hb (by omega) (by omega) dX3_figure_7 (by decide) (fun c7 => ?_) (fun c7 => ?_)
    · skip
      refine lv_aload_n hx hb dX3_figure_20 rfl (lv_at hl 0 rfl) ?_
      refine rx_V (own := RX3) (q := (RX3, TX3, 4)) (wc := [((z 0), .inr (3, [.ref (z 1), .ref (z 3), .ref (x 0), .int (iI wk)]))]) (wr := [((z 3), .inr (2, [.int (iI 300), .int (iI 10), .ref (z 4), .ref (z 5), .ref (z 6), .ref (z 7), .ref (z 8), .int (iI o), .int (iI st), .int (iI pe), .int (iI dr), .int (iI sta), .int (iI hd), .int (iI on), .int (iI lf), .int (iI rt)]))]) (As := []) (rest := []) ⟨hx, hb, hml, hown, hts⟩ (c_needWalk l hl0 g k z x s.heap.size wk hwk) (cwV 0 hts gX3_figure_X3_needWalk rfl rfl rfl (by decide +kernel) ⟨Nat.le_of_ble_eq_true rfl, Nat.le_of_ble_eq_true rfl⟩) hK hE hH hS.1 hP hD hS hA [0] [1] rfl (by decide) rfl (by decide) (by decide) (ci := 3) (q0 := 0) rfl rfl rfl rfl hl.1 (Nat.le_of_ble_eq_true rfl) ⟨Nat.le_of_ble_eq_true rfl, Nat.le_of_ble_eq_true rfl⟩ dX3_figure_21 (fun E ce q9 H locs h1 h2 h3 px hP hD hS => hexc E ce q9 H locs _ _ _ ls _ h1 h2 h3 (Or.inr ⟨px.1, by omega, px.2⟩) (by decide) (hP.sub (ws' := [((z 0), .inr (3, [.ref (z 1), .ref (z 3), .ref (x 0), .int (iI wk)])), ((z 3), .inr (2, [.int (iI 300), .int (iI 10), .ref (z 4), .ref (z 5), .ref (z 6), .ref (z 7), .ref (z 8), .int (iI o), .int (iI st), .int (iI pe), .int (iI dr), .int (iI sta), .int (iI hd), .int (iI on), .int (iI lf), .int (iI rt)]))]) [1, 0] rfl) (hD.sub (ws' := [((z 0), .inr (3, [.ref (z 1), .ref (z 3), .ref (x 0), .int (iI wk)])), ((z 3), .inr (2, [.int (iI 300), .int (iI 10), .ref (z 4), .ref (z 5), .ref (z 6), .ref (z 7), .ref (z 8), .int (iI o), .int (iI st), .int (iI pe), .int (iI dr), .int (iI sta), .int (iI hd), .int (iI on), .int (iI lf), .int (iI rt)]))]) [1, 0] (by decide) rfl) hS) (fun u21 H locs hu21 hP hD hS => ?_)
      have hP := hP.sub (ws' := [((z 0), .inr (3, [.ref (z 1), .ref (z 3), .ref (x 0), .int (iI wk)])), ((z 3), .inr (2, [.int (iI 300), .int (iI 10), .ref (z 4), .ref (z 5), .ref (z 6), .ref (z 7), .ref (z 8), .int (iI o), .int (iI st), .int (iI pe), .int (iI dr), .int (iI sta), .int (iI hd), .int (iI on), .int (iI lf), .int (iI rt)]))]) [1, 0] rfl
      have hD := hD.sub (ws' := [((z 0), .inr (3, [.ref (z 1), .ref (z 3), .ref (x 0), .int (iI wk)])), ((z 3), .inr (2, [.int (iI 300), .int (iI 10), .ref (z 4), .ref (z 5), .ref (z 6), .ref (z 7), .ref (z 8), .int (iI o), .int (iI st), .int (iI pe), .int (iI dr), .int (iI sta), .int (iI hd), .int (iI on), .int (iI lf), .int (iI rt)]))]) [1, 0] (by decide) rfl
      refine lv_iload_n hx hb dX3_figure_24 rfl (lv_at hl 1 rfl) ?_
      rcases (show w = 0 ∨ w = 1 ∨ w = 2 ∨ w = 3 ∨ w = 4 ∨ w = 5 ∨ w = 6 ∨ w = 7 ∨ (w < 0 ∨ 7 < w) by omega) with hsw25 | hsw25 | hsw25 | hsw25 | hsw25 | hsw25 | hsw25 | hsw25 | hsw25
      · skip
        refine ri_tabIn (a := w) (v := 0) (tgt := 72) hx hb hsw25 (by decide) dX3_figure_25 (by decide) rfl (by decide) ?_
        refine lv_aload_n hx hb dX3_figure_72 rfl (lv_at hl 0 rfl) ?_
        refine va_get (D := g) (ci := 3) (v := .ref (z 3)) (C := RX3) (T := TX3) (N := 4) hx hb hts inX3 hown hK.1 hP 0 rfl rfl 1 (by decide) f30 (fun _ h9 => h9) rfl dX3_figure_73 ?_
        refine va_getN (D := g) (ci := 2) (v := .int (iI o)) (C := RX2) (T := TX2) (N := 16) hx hb hts inX2 hown hK.1 hP 1 rfl rfl 7 (by decide) (va_Nw.use rfl f75) (fun _ h9 => h9) rfl dX3_figure_76 ?_
        exact hret (iI o) () _ _ _ _ _ _ dX3_figure_79 (by decide) ⟨by omega, hu21, by unfold figF; first | rw [hsw25]; rfl | (rw [if_neg (by omega), if_neg (by omega), if_neg (by omega), if_neg (by omega), if_neg (by omega), if_neg (by omega), if_neg (by omega), if_neg (by omega)])⟩ hP hD hS
      · skip
        refine ri_tabIn (a := w) (v := 1) (tgt := 80) hx hb hsw25 (by decide) dX3_figure_25 (by decide) rfl (by decide) ?_
        refine lv_aload_n hx hb dX3_figure_80 rfl (lv_at hl 0 rfl) ?_
        refine va_get (D := g) (ci := 3) (v := .ref (z 3)) (C := RX3) (T := TX3) (N := 4) hx hb hts inX3 hown hK.1 hP 0 rfl rfl 1 (by decide) f30 (fun _ h9 => h9) rfl dX3_figure_81 ?_
        refine va_getN (D := g) (ci := 2) (v := .int (iI st)) (C := RX2) (T := TX2) (N := 16) hx hb hts inX2 hown hK.1 hP 1 rfl rfl 8 (by decide) (va_Nw.use rfl f84) (fun _ h9 => h9) rfl dX3_figure_84 ?_
        exact hret (iI st) () _ _ _ _ _ _ dX3_figure_87 (by decide) ⟨by omega, hu21, by unfold figF; first | rw [hsw25]; rfl | (rw [if_neg (by omega), if_neg (by omega), if_neg (by omega), if_neg (by omega), if_neg (by omega), if_neg (by omega), if_neg (by omega), if_neg (by omega)])⟩ hP hD hS
      · skip
        refine ri_tabIn (a := w) (v := 2) (tgt := 88) hx hb hsw25 (by decide) dX3_figure_25 (by decide) rfl (by decide) ?_
        refine lv_aload_n hx hb dX3_figure_88 rfl (lv_at hl 0 rfl) ?_
        refine va_get (D := g) (ci := 3) (v := .ref (z 3)) (C := RX3) (T := TX3) (N := 4) hx hb hts inX3 hown hK.1 hP 0 rfl rfl 1 (by decide) f30 (fun _ h9 => h9) rfl dX3_figure_89 ?_
        refine va_getN (D := g) (ci := 2) (v := .int (iI pe)) (C := RX2) (T := TX2) (N := 16) hx hb hts inX2 hown hK.1 hP 1 rfl rfl 9 (by decide) (va_Nw.use rfl f87) (fun _ h9 => h9) rfl dX3_figure_92 ?_
        exact hret (iI pe) () _ _ _ _ _ _ dX3_figure_95 (by decide) ⟨by omega, hu21, by unfold figF; first | rw [hsw25]; rfl | (rw [if_neg (by omega), if_neg (by omega), if_neg (by omega), if_neg (by omega), if_neg (by omega), if_neg (by omega), if_neg (by omega), if_neg (by omega)])⟩ hP hD hS
      · skip
        refine ri_tabIn (a := w) (v := 3) (tgt := 96) hx hb hsw25 (by decide) dX3_figure_25 (by decide) rfl (by decide) ?_
        refine lv_aload_n hx hb dX3_figure_96 rfl (lv_at hl 0 rfl) ?_
        refine va_get (D := g) (ci := 3) (v := .ref (z 3)) (C := RX3) (T := TX3) (N := 4) hx hb hts inX3 hown hK.1 hP 0 rfl rfl 1 (by decide) f30 (fun _ h9 => h9) rfl dX3_figure_97 ?_
        refine va_getN (D := g) (ci := 2) (v := .int (iI dr)) (C := RX2) (T := TX2) (N := 16) hx hb hts inX2 hown hK.1 hP 1 rfl rfl 10 (by decide) (va_Nw.use rfl f90) (fun _ h9 => h9) rfl dX3_figure_100 ?_
        exact hret (iI dr) () _ _ _ _ _ _ dX3_figure_103 (by decide) ⟨by omega, hu21, by unfold figF; first | rw [hsw25]; rfl | (rw [if_neg (by omega), if_neg (by omega), if_neg (by omega), if_neg (by omega), if_neg (by omega), if_neg (by omega), if_neg (by omega), if_neg (by omega)])⟩ hP hD hS
      · skip
        refine ri_tabIn (a := w) (v := 4) (tgt := 104) hx hb hsw25 (by decide) dX3_figure_25 (by decide) rfl (by decide) ?_
        refine lv_aload_n hx hb dX3_figure_104 rfl (lv_at hl 0 rfl) ?_
        refine va_get (D := g) (ci := 3) (v := .ref (z 3)) (C := RX3) (T := TX3) (N := 4) hx hb hts inX3 hown hK.1 hP 0 rfl rfl 1 (by decide) f30 (fun _ h9 => h9) rfl dX3_figure_105 ?_
        refine va_getN (D := g) (ci := 2) (v := .int (iI sta)) (C := RX2) (T := TX2) (N := 16) hx hb hts inX2 hown hK.1 hP 1 rfl rfl 11 (by decide) (va_Nw.use rfl f93) (fun _ h9 => h9) rfl dX3_figure_108 ?_
        exact hret (iI sta) () _ _ _ _ _ _ dX3_figure_111 (by decide) ⟨by omega, hu21, by unfold figF; first | rw [hsw25]; rfl | (rw [if_neg (by omega), if_neg (by omega), if_neg (by omega), if_neg (by omega), if_neg (by omega), if_neg (by omega), if_neg (by omega), if_neg (by omega)])⟩ hP hD hS
      · skip
        refine ri_tabIn (a := w) (v := 5) (tgt := 112) hx hb hsw25 (by decide) dX3_figure_25 (by decide) rfl (by decide) ?_
        refine lv_aload_n hx hb dX3_figure_112 rfl (lv_at hl 0 rfl) ?_
        refine va_get (D := g) (ci := 3) (v := .ref (z 3)) (C := RX3) (T := TX3) (N := 4) hx hb hts inX3 hown hK.1 hP 0 rfl rfl 1 (by decide) f30 (fun _ h9 => h9) rfl dX3_figure_113 ?_
        refine va_getN (D := g) (ci := 2) (v := .int (iI hd)) (C := RX2) (T := TX2) (N := 16) hx hb hts inX2 hown hK.1 hP 1 rfl rfl 12 (by decide) (va_Nw.use rfl f96) (fun _ h9 => h9) rfl dX3_figure_116 ?_
        exact hret (iI hd) () _ _ _ _ _ _ dX3_figure_119 (by decide) ⟨by omega, hu21, by unfold figF; first | rw [hsw25]; rfl | (rw [if_neg (by omega), if_neg (by omega), if_neg (by omega), if_neg (by omega), if_neg (by omega), if_neg (by omega), if_neg (by omega), if_neg (by omega)])⟩ hP hD hS
      · skip
        refine ri_tabIn (a := w) (v := 6) (tgt := 120) hx hb hsw25 (by decide) dX3_figure_25 (by decide) rfl (by decide) ?_
        refine lv_aload_n hx hb dX3_figure_120 rfl (lv_at hl 0 rfl) ?_
        refine va_get (D := g) (ci := 3) (v := .ref (z 3)) (C := RX3) (T := TX3) (N := 4) hx hb hts inX3 hown hK.1 hP 0 rfl rfl 1 (by decide) f30 (fun _ h9 => h9) rfl dX3_figure_121 ?_
        refine va_getN (D := g) (ci := 2) (v := .int (iI on)) (C := RX2) (T := TX2) (N := 16) hx hb hts inX2 hown hK.1 hP 1 rfl rfl 13 (by decide) (va_Nw.use rfl f99) (fun _ h9 => h9) rfl dX3_figure_124 ?_
        exact hret (iI on) () _ _ _ _ _ _ dX3_figure_127 (by decide) ⟨by omega, hu21, by unfold figF; first | rw [hsw25]; rfl | (rw [if_neg (by omega), if_neg (by omega), if_neg (by omega), if_neg (by omega), if_neg (by omega), if_neg (by omega), if_neg (by omega), if_neg (by omega)])⟩ hP hD hS
      · skip
        refine ri_tabIn (a := w) (v := 7) (tgt := 128) hx hb hsw25 (by decide) dX3_figure_25 (by decide) rfl (by decide) ?_
        refine lv_aload_n hx hb dX3_figure_128 rfl (lv_at hl 0 rfl) ?_
        refine va_get (D := g) (ci := 3) (v := .ref (z 3)) (C := RX3) (T := TX3) (N := 4) hx hb hts inX3 hown hK.1 hP 0 rfl rfl 1 (by decide) f30 (fun _ h9 => h9) rfl dX3_figure_129 ?_
        refine va_getN (D := g) (ci := 2) (v := .int (iI lf)) (C := RX2) (T := TX2) (N := 16) hx hb hts inX2 hown hK.1 hP 1 rfl rfl 14 (by decide) (va_Nw.use rfl f102) (fun _ h9 => h9) rfl dX3_figure_132 ?_
        exact hret (iI lf) () _ _ _ _ _ _ dX3_figure_135 (by decide) ⟨by omega, hu21, by unfold figF; first | rw [hsw25]; rfl | (rw [if_neg (by omega), if_neg (by omega), if_neg (by omega), if_neg (by omega), if_neg (by omega), if_neg (by omega), if_neg (by omega), if_neg (by omega)])⟩ hP hD hS
      · skip
        refine ri_tabOut (a := w) (tgt := 136) hx hb (by omega) dX3_figure_25 hsw25 (by decide) ?_
        refine lv_aload_n hx hb dX3_figure_136 rfl (lv_at hl 0 rfl) ?_
        refine va_get (D := g) (ci := 3) (v := .ref (z 3)) (C := RX3) (T := TX3) (N := 4) hx hb hts inX3 hown hK.1 hP 0 rfl rfl 1 (by decide) f30 (fun _ h9 => h9) rfl dX3_figure_137 ?_
        refine va_getN (D := g) (ci := 2) (v := .int (iI rt)) (C := RX2) (T := TX2) (N := 16) hx hb hts inX2 hown hK.1 hP 1 rfl rfl 15 (by decide) (va_Nw.use rfl f105) (fun _ h9 => h9) rfl dX3_figure_140 ?_
        exact hret (iI rt) () _ _ _ _ _ _ dX3_figure_143 (by decide) ⟨by omega, hu21, by unfold figF; first | rw [hsw25]; rfl | (rw [if_neg (by omega), if_neg (by omega), if_neg (by omega), if_neg (by omega), if_neg (by omega), if_neg (by omega), if_neg (by omega), if_neg (by omega)])⟩ hP hD hS
    · skip
      exact hthr (Or.inl ⟨rfl, by omega⟩) 79 10 "no such figure" _ (by decide) hl.1 dX3_figure_10 dX3_figure_13 dX3_figure_14 dX3_figure_16 dX3_figure_19

set_option maxHeartbeats 4000000 in
set_option maxRecDepth 100000 in
theorem c_cell (l : Launch) (hl0 : l.stackTraces = false) (g : va_G) (k : kT) (z x : Nat → Nat) (sz : Nat) (wk : Int) (o st pe dr sta hd on lf rt : Int) (w : Int) (hwk : wk = 0 ∨ wk = 1) (t : Int → Int) (h01 : ∀ j, t j = 0 ∨ t j = 1) (ht0 : ∀ j, (j < -300 ∨ 300 < j) → t j = 0) (hr : -2147483648 ≤ w ∧ w < 2147483648) : cXI l yX3_cell wsX3_cell rm_Y g k [zO z x wk, wO300 (z 3) (z 4) (z 5) (z 6) (z 7) (z 8) o st pe dr sta hd on lf rt, (z 4, .inl (k.2.1, 10, .inr (.inl (bW 300 t))))] sz [.ref (z 0), .int (iI w)] (fun _ : Unit => [zO z x wk, wO300 (z 3) (z 4) (z 5) (z 6) (z 7) (z 8) o st pe dr sta hd on lf rt, (z 4, .inl (k.2.1, 10, .inr (.inl (bW 300 t))))]) (fun r _ => ¬ wk = 0 ∧ r = iI (t w)) (fun E => E = "java/lang/IllegalStateException" ∧ wk = 0) := by
  refine sn_I hl0 (by decide) rfl rfl (Nat.le_of_ble_eq_true rfl) ?_
  intro p e s m below meth c Q A hx hb hml hown hts hA hP hD hS hK hE hH hret hexc ls hl
  have f30 := hts (.fieldLink RX3 30 "MachineTree" "walk" "LMachineTree$Walk;") (by decide +kernel)
  have inX3 := (by decide +kernel : ∀ w ∈ wsX30, w ∈ wsX3_cell)
  have hl : lv_has ls 2 [(0, .ref (z 0)), (1, .int (iI w))] := hl
  refine lv_aload_n hx hb dX3_cell_0 rfl (lv_at hl 0 rfl) ?_
  refine rx_V (own := RX3) (q := (RX3, TX3, 4)) (wc := [((z 0), .inr (3, [.ref (z 1), .ref (z 3), .ref (x 0), .int (iI wk)]))]) (wr := [((z 3), .inr (2, [.int (iI 300), .int (iI 10), .ref (z 4), .ref (z 5), .ref (z 6), .ref (z 7), .ref (z 8), .int (iI o), .int (iI st), .int (iI pe), .int (iI dr), .int (iI sta), .int (iI hd), .int (iI on), .int (iI lf), .int (iI rt)])), ((z 4), .inl (k.2.1, 10, .inr (.inl (bW 300 t))))]) (As := []) (rest := []) ⟨hx, hb, hml, hown, hts⟩ (c_needWalk l hl0 g k z x s.heap.size wk hwk) (cwV 0 hts gX3_cell_X3_needWalk rfl rfl rfl (by decide +kernel) ⟨Nat.le_of_ble_eq_true rfl, Nat.le_of_ble_eq_true rfl⟩) hK hE hH hS.1 hP hD hS hA [0] [1, 2] rfl (by decide) rfl (by decide) (by decide) (ci := 3) (q0 := 0) rfl rfl rfl rfl hl.1 (Nat.le_of_ble_eq_true rfl) ⟨Nat.le_of_ble_eq_true rfl, Nat.le_of_ble_eq_true rfl⟩ dX3_cell_1 (fun E ce q9 H locs h1 h2 h3 px hP hD hS => hexc E ce q9 H locs _ _ _ ls _ h1 h2 h3 px (by decide) (hP.sub (ws' := [((z 0), .inr (3, [.ref (z 1), .ref (z 3), .ref (x 0), .int (iI wk)])), ((z 3), .inr (2, [.int (iI 300), .int (iI 10), .ref (z 4), .ref (z 5), .ref (z 6), .ref (z 7), .ref (z 8), .int (iI o), .int (iI st), .int (iI pe), .int (iI dr), .int (iI sta), .int (iI hd), .int (iI on), .int (iI lf), .int (iI rt)])), ((z 4), .inl (k.2.1, 10, .inr (.inl (bW 300 t))))]) [2, 0, 1] rfl) (hD.sub (ws' := [((z 0), .inr (3, [.ref (z 1), .ref (z 3), .ref (x 0), .int (iI wk)])), ((z 3), .inr (2, [.int (iI 300), .int (iI 10), .ref (z 4), .ref (z 5), .ref (z 6), .ref (z 7), .ref (z 8), .int (iI o), .int (iI st), .int (iI pe), .int (iI dr), .int (iI sta), .int (iI hd), .int (iI on), .int (iI lf), .int (iI rt)])), ((z 4), .inl (k.2.1, 10, .inr (.inl (bW 300 t))))]) [2, 0, 1] (by decide) rfl) hS) (fun u1 H locs hu1 hP hD hS => ?_)
  have hP := hP.sub (ws' := [((z 0), .inr (3, [.ref (z 1), .ref (z 3), .ref (x 0), .int (iI wk)])), ((z 3), .inr (2, [.int (iI 300), .int (iI 10), .ref (z 4), .ref (z 5), .ref (z 6), .ref (z 7), .ref (z 8), .int (iI o), .int (iI st), .int (iI pe), .int (iI dr), .int (iI sta), .int (iI hd), .int (iI on), .int (iI lf), .int (iI rt)])), ((z 4), .inl (k.2.1, 10, .inr (.inl (bW 300 t))))]) [2, 0, 1] rfl
  have hD := hD.sub (ws' := [((z 0), .inr (3, [.ref (z 1), .ref (z 3), .ref (x 0), .int (iI wk)])), ((z 3), .inr (2, [.int (iI 300), .int (iI 10), .ref (z 4), .ref (z 5), .ref (z 6), .ref (z 7), .ref (z 8), .int (iI o), .int (iI st), .int (iI pe), .int (iI dr), .int (iI sta), .int (iI hd), .int (iI on), .int (iI lf), .int (iI rt)])), ((z 4), .inl (k.2.1, 10, .inr (.inl (bW 300 t))))]) [2, 0, 1] (by decide) rfl
  refine lv_aload_n hx hb dX3_cell_4 rfl (lv_at hl 0 rfl) ?_
  refine va_get (D := g) (ci := 3) (v := .ref (z 3)) (C := RX3) (T := TX3) (N := 4) hx hb hts inX3 hown hK.1 hP 0 rfl rfl 1 (by decide) f30 (fun _ h9 => h9) rfl dX3_cell_5 ?_
  refine lv_iload_n hx hb dX3_cell_8 rfl (lv_at hl 1 rfl) ?_
  refine rc_P (own := RX3) (q := (RX2, TX2, 16)) (wc := [((z 3), .inr (2, [.int (iI 300), .int (iI 10), .ref (z 4), .ref (z 5), .ref (z 6), .ref (z 7), .ref (z 8), .int (iI o), .int (iI st), .int (iI pe), .int (iI dr), .int (iI sta), .int (iI hd), .int (iI on), .int (iI lf), .int (iI rt)])), ((z 4), .inl (k.2.1, 10, .inr (.inl (bW 300 t))))]) (As := [.int (iI w)]) (rest := []) ⟨hx, hb, hml, hown, hts⟩ (c_symbolNow300 l g k (z 3) (z 4) (z 5) (z 6) (z 7) (z 8) o st pe dr sta hd on lf rt w t h01 ht0 hr) (cwV 1 hts gX3_cell_X2_symbolNow rfl rfl rfl (by decide +kernel) ⟨Nat.le_of_ble_eq_true rfl, Nat.le_of_ble_eq_true rfl⟩) hK hP [1, 2] rfl (ci := 2) (q0 := 0) rfl rfl rfl rfl hl.1 (Nat.le_of_ble_eq_true rfl) ⟨Nat.le_of_ble_eq_true rfl, Nat.le_of_ble_eq_true rfl⟩ dX3_cell_9 (fun r9 hr9 => ?_)
  refine ri_top (y := iI (t w)) hr9 ?_
  exact hret (iI (t w)) () _ _ _ _ _ _ dX3_cell_12 (by decide) ⟨hu1, rfl⟩ hP hD hS

set_option maxHeartbeats 4000000 in
set_option maxRecDepth 100000 in
theorem c_share (l : Launch) (hl0 : l.stackTraces = false) (g : va_G) (k : kT) (z x : Nat → Nat) (sz : Nat) (wk : Int) (o st pe dr sta hd on lf rt : Int) (hwk : wk = 0 ∨ wk = 1) (hlr : -1000 ≤ lf ∧ lf ≤ rt ∧ rt ≤ 1000) (hnan : vf_n32 (FP.fdiv (FP.i2f (iI on)) (FP.i2f (iI (rt - lf + 1))))) : cXF l yX3_share wsX3_share rm_Y g k [zO z x wk, wO300 (z 3) (z 4) (z 5) (z 6) (z 7) (z 8) o st pe dr sta hd on lf rt] sz [.ref (z 0)] (fun _ : Unit => [zO z x wk, wO300 (z 3) (z 4) (z 5) (z 6) (z 7) (z 8) o st pe dr sta hd on lf rt]) (fun r _ => ¬ wk = 0 ∧ r = FP.fdiv (FP.i2f (iI on)) (FP.i2f (iI (rt - lf + 1)))) (fun E => E = "java/lang/IllegalStateException" ∧ wk = 0) := by
  refine sn_F hl0 (by decide) rfl rfl (Nat.le_of_ble_eq_true rfl) ?_
  intro p e s m below meth c Q A hx hb hml hown hts hA hP hD hS hK hE hH hret hexc ls hl
  have f30 := hts (.fieldLink RX3 30 "MachineTree" "walk" "LMachineTree$Walk;") (by decide +kernel)
  have inX3 := (by decide +kernel : ∀ w ∈ wsX30, w ∈ wsX3_share)
  have f105 := hK.2 ("MachineTree", 105, "MachineTree$Walk", "right", "I") (by decide)
  have inX2 := (by decide +kernel : ∀ w ∈ wsX20, w ∈ wsX3_share)
  have f102 := hK.2 ("MachineTree", 102, "MachineTree$Walk", "left", "I") (by decide)
  have f99 := hK.2 ("MachineTree", 99, "MachineTree$Walk", "ones", "I") (by decide)
  have hl : lv_has ls 2 [(0, .ref (z 0))] := hl
  refine lv_aload_n hx hb dX3_share_0 rfl (lv_at hl 0 rfl) ?_
  refine rx_V (own := RX3) (q := (RX3, TX3, 4)) (wc := [((z 0), .inr (3, [.ref (z 1), .ref (z 3), .ref (x 0), .int (iI wk)]))]) (wr := [((z 3), .inr (2, [.int (iI 300), .int (iI 10), .ref (z 4), .ref (z 5), .ref (z 6), .ref (z 7), .ref (z 8), .int (iI o), .int (iI st), .int (iI pe), .int (iI dr), .int (iI sta), .int (iI hd), .int (iI on), .int (iI lf), .int (iI rt)]))]) (As := []) (rest := []) ⟨hx, hb, hml, hown, hts⟩ (c_needWalk l hl0 g k z x s.heap.size wk hwk) (cwV 0 hts gX3_share_X3_needWalk rfl rfl rfl (by decide +kernel) ⟨Nat.le_of_ble_eq_true rfl, Nat.le_of_ble_eq_true rfl⟩) hK hE hH hS.1 hP hD hS hA [0] [1] rfl (by decide) rfl (by decide) (by decide) (ci := 3) (q0 := 0) rfl rfl rfl rfl hl.1 (Nat.le_of_ble_eq_true rfl) ⟨Nat.le_of_ble_eq_true rfl, Nat.le_of_ble_eq_true rfl⟩ dX3_share_1 (fun E ce q9 H locs h1 h2 h3 px hP hD hS => hexc E ce q9 H locs _ _ _ ls _ h1 h2 h3 px (by decide) (hP.sub (ws' := [((z 0), .inr (3, [.ref (z 1), .ref (z 3), .ref (x 0), .int (iI wk)])), ((z 3), .inr (2, [.int (iI 300), .int (iI 10), .ref (z 4), .ref (z 5), .ref (z 6), .ref (z 7), .ref (z 8), .int (iI o), .int (iI st), .int (iI pe), .int (iI dr), .int (iI sta), .int (iI hd), .int (iI on), .int (iI lf), .int (iI rt)]))]) [1, 0] rfl) (hD.sub (ws' := [((z 0), .inr (3, [.ref (z 1), .ref (z 3), .ref (x 0), .int (iI wk)])), ((z 3), .inr (2, [.int (iI 300), .int (iI 10), .ref (z 4), .ref (z 5), .ref (z 6), .ref (z 7), .ref (z 8), .int (iI o), .int (iI st), .int (iI pe), .int (iI dr), .int (iI sta), .int (iI hd), .int (iI on), .int (iI lf), .int (iI rt)]))]) [1, 0] (by decide) rfl) hS) (fun u1 H locs hu1 hP hD hS => ?_)
  have hP := hP.sub (ws' := [((z 0), .inr (3, [.ref (z 1), .ref (z 3), .ref (x 0), .int (iI wk)])), ((z 3), .inr (2, [.int (iI 300), .int (iI 10), .ref (z 4), .ref (z 5), .ref (z 6), .ref (z 7), .ref (z 8), .int (iI o), .int (iI st), .int (iI pe), .int (iI dr), .int (iI sta), .int (iI hd), .int (iI on), .int (iI lf), .int (iI rt)]))]) [1, 0] rfl
  have hD := hD.sub (ws' := [((z 0), .inr (3, [.ref (z 1), .ref (z 3), .ref (x 0), .int (iI wk)])), ((z 3), .inr (2, [.int (iI 300), .int (iI 10), .ref (z 4), .ref (z 5), .ref (z 6), .ref (z 7), .ref (z 8), .int (iI o), .int (iI st), .int (iI pe), .int (iI dr), .int (iI sta), .int (iI hd), .int (iI on), .int (iI lf), .int (iI rt)]))]) [1, 0] (by decide) rfl
  refine lv_aload_n hx hb dX3_share_4 rfl (lv_at hl 0 rfl) ?_
  refine va_get (D := g) (ci := 3) (v := .ref (z 3)) (C := RX3) (T := TX3) (N := 4) hx hb hts inX3 hown hK.1 hP 0 rfl rfl 1 (by decide) f30 (fun _ h9 => h9) rfl dX3_share_5 ?_
  refine va_getN (D := g) (ci := 2) (v := .int (iI rt)) (C := RX2) (T := TX2) (N := 16) hx hb hts inX2 hown hK.1 hP 1 rfl rfl 15 (by decide) (va_Nw.use rfl f105) (fun _ h9 => h9) rfl dX3_share_8 ?_
  refine lv_aload_n hx hb dX3_share_11 rfl (lv_at hl 0 rfl) ?_
  refine va_get (D := g) (ci := 3) (v := .ref (z 3)) (C := RX3) (T := TX3) (N := 4) hx hb hts inX3 hown hK.1 hP 0 rfl rfl 1 (by decide) f30 (fun _ h9 => h9) rfl dX3_share_12 ?_
  refine va_getN (D := g) (ci := 2) (v := .int (iI lf)) (C := RX2) (T := TX2) (N := 16) hx hb hts inX2 hown hK.1 hP 1 rfl rfl 14 (by decide) (va_Nw.use rfl f102) (fun _ h9 => h9) rfl dX3_share_15 ?_
  refine ri_isub (a := rt) (b := lf) hx hb dX3_share_18 ?_
  refine lv_iconst (v := iI 1) hx hb dX3_share_19 rfl ?_
  refine ri_iadd (a := (rt - lf)) (b := 1) hx hb dX3_share_20 ?_
  refine lv_istore_n (lv' := [(1, .int (iI ((rt - lf) + 1))), (0, .ref (z 0))]) hx hb dX3_share_21 rfl hl (by decide) rfl (fun ls hl => ?_)
  refine lv_iload_n hx hb dX3_share_22 rfl (lv_at hl 0 rfl) ?_
  refine ri_if_le (a := ((rt - lf) + 1)) (tgt := 40) hx hb (by omega) dX3_share_23 (by decide) (fun c23 => ?_) (fun c23 => ?_)
  · exact absurd c23 (by omega)
  · skip
    refine lv_aload_n hx hb dX3_share_26 rfl (lv_at hl 1 rfl) ?_
    refine va_get (D := g) (ci := 3) (v := .ref (z 3)) (C := RX3) (T := TX3) (N := 4) hx hb hts inX3 hown hK.1 hP 0 rfl rfl 1 (by decide) f30 (fun _ h9 => h9) rfl dX3_share_27 ?_
    refine va_getN (D := g) (ci := 2) (v := .int (iI on)) (C := RX2) (T := TX2) (N := 16) hx hb hts inX2 hown hK.1 hP 1 rfl rfl 13 (by decide) (va_Nw.use rfl f99) (fun _ h9 => h9) rfl dX3_share_30 ?_
    refine lv_i2f hx hb dX3_share_33 ?_
    refine lv_iload_n hx hb dX3_share_34 rfl (lv_at hl 0 rfl) ?_
    refine lv_i2f hx hb dX3_share_35 ?_
    refine lv_fdiv hx hb dX3_share_36 hnan ?_
    refine lv_goto (tgt := 41) hx hb dX3_share_37 (by decide) ?_
    exact hret (FP.fdiv (FP.i2f (iI on)) (FP.i2f (iI ((rt - lf) + 1)))) () _ _ _ _ _ _ dX3_share_41 (by decide) ⟨hu1, rfl⟩ hP hD hS

abbrev tO (x : Nat → Nat) (n : Int) (d : Nat) (bg en bs bo mo op ha cy df hsu : Int) : Nat × va_E := ((x 0), .inr (1, [.int (iI n), .ref (x 1), .ref (x 8), .ref (x 5), .ref (x 6), .ref (x 7), .int (iI (d : Int)), .int (iI bg), .int (iI en), .ref (x 3), .int (iI bs), .int (iI bo), .int (iI mo), .int (iI op), .int (iI ha), .int (iI cy), .int (iI df), .int (iI hsu)]))
def takF (op ha cy df bs bo mo w : Int) : Int := if w = 0 then op else if w = 1 then ha else if w = 2 then cy else if w = 3 then df else if w = 4 then bs else if w = 5 then bo else mo
set_option maxHeartbeats 4000000 in
set_option maxRecDepth 100000 in
theorem c_taken (l : Launch) (hl0 : l.stackTraces = false) (g : va_G) (k : kT) (z x : Nat → Nat) (sz : Nat) (wk : Int) (n : Int) (d : Nat) (bg en bs bo mo op ha cy df hsu : Int) (w : Int) (hr : -2147483648 ≤ w ∧ w < 2147483648) : cXI l yX3_taken wsX3_taken rm_X g k [zO z x wk, tO x n d bg en bs bo mo op ha cy df hsu] sz [.ref (z 0), .int (iI w)] (fun _ : Unit => [zO z x wk, tO x n d bg en bs bo mo op ha cy df hsu]) (fun r _ => (0 ≤ w ∧ w ≤ 6) ∧ r = iI (takF op ha cy df bs bo mo w)) (fun E => E = "java/lang/IllegalArgumentException" ∧ ¬ (0 ≤ w ∧ w ≤ 6)) := by
  refine sx_I (cls := "java/lang/IllegalArgumentException") (ik := 49) (ic := 53) hl0 (by decide) rfl rfl (Nat.le_of_ble_eq_true rfl) (by decide) (by decide +kernel) (by decide +kernel) xA_o (by decide) ?_
  intro p e s m below meth c Q A hx hb hml hown hts hA hP hD hS hK hE hH hret hexc hthr ls hl
  have f37 := hts (.fieldLink RX3 37 "MachineTree" "tree" "LMachineTree$Tree;") (by decide +kernel)
  have inX3 := (by decide +kernel : ∀ w ∈ wsX30, w ∈ wsX3_taken)
  have f118 := hK.2 ("MachineTree", 118, "MachineTree$Tree", "open", "I") (by decide)
  have inX1 := (by decide +kernel : ∀ w ∈ wsX10, w ∈ wsX3_taken)
  have f121 := hK.2 ("MachineTree", 121, "MachineTree$Tree", "halted", "I") (by decide)
  have f124 := hK.2 ("MachineTree", 124, "MachineTree$Tree", "cycling", "I") (by decide)
  have f127 := hK.2 ("MachineTree", 127, "MachineTree$Tree", "drifting", "I") (by decide)
  have f130 := hK.2 ("MachineTree", 130, "MachineTree$Tree", "bestSteps", "I") (by decide)
  have f133 := hK.2 ("MachineTree", 133, "MachineTree$Tree", "bestOnes", "I") (by decide)
  have f136 := hK.2 ("MachineTree", 136, "MachineTree$Tree", "mostOnes", "I") (by decide)
  have hl : lv_has ls 2 [(0, .ref (z 0)), (1, .int (iI w))] := hl
  refine lv_iload_n hx hb dX3_taken_0 rfl (lv_at hl 1 rfl) ?_
  rcases (show w = 0 ∨ w = 1 ∨ w = 2 ∨ w = 3 ∨ w = 4 ∨ w = 5 ∨ w = 6 ∨ (w < 0 ∨ 6 < w) by omega) with hsw1 | hsw1 | hsw1 | hsw1 | hsw1 | hsw1 | hsw1 | hsw1
  · skip
    refine ri_tabIn (a := w) (v := 0) (tgt := 44) hx hb hsw1 (by decide) dX3_taken_1 (by decide) rfl (by decide) ?_
    refine lv_aload_n hx hb dX3_taken_44 rfl (lv_at hl 0 rfl) ?_
    refine va_get (D := g) (ci := 3) (v := .ref (x 0)) (C := RX3) (T := TX3) (N := 4) hx hb hts inX3 hown hK.1 hP 0 rfl rfl 2 (by decide) f37 (fun _ h9 => h9) rfl dX3_taken_45 ?_
    refine va_getN (D := g) (ci := 1) (v := .int (iI op)) (C := RX1) (T := TX1) (N := 18) hx hb hts inX1 hown hK.1 hP 1 rfl rfl 13 (by decide) (va_Nw.use rfl f118) (fun _ h9 => h9) rfl dX3_taken_48 ?_
    exact hret (iI op) () _ _ _ _ _ _ dX3_taken_51 (by decide) ⟨by omega, by unfold takF; rw [hsw1]; rfl⟩ hP hD hS
  · skip
    refine ri_tabIn (a := w) (v := 1) (tgt := 52) hx hb hsw1 (by decide) dX3_taken_1 (by decide) rfl (by decide) ?_
    refine lv_aload_n hx hb dX3_taken_52 rfl (lv_at hl 0 rfl) ?_
    refine va_get (D := g) (ci := 3) (v := .ref (x 0)) (C := RX3) (T := TX3) (N := 4) hx hb hts inX3 hown hK.1 hP 0 rfl rfl 2 (by decide) f37 (fun _ h9 => h9) rfl dX3_taken_53 ?_
    refine va_getN (D := g) (ci := 1) (v := .int (iI ha)) (C := RX1) (T := TX1) (N := 18) hx hb hts inX1 hown hK.1 hP 1 rfl rfl 14 (by decide) (va_Nw.use rfl f121) (fun _ h9 => h9) rfl dX3_taken_56 ?_
    exact hret (iI ha) () _ _ _ _ _ _ dX3_taken_59 (by decide) ⟨by omega, by unfold takF; rw [hsw1]; rfl⟩ hP hD hS
  · skip
    refine ri_tabIn (a := w) (v := 2) (tgt := 60) hx hb hsw1 (by decide) dX3_taken_1 (by decide) rfl (by decide) ?_
    refine lv_aload_n hx hb dX3_taken_60 rfl (lv_at hl 0 rfl) ?_
    refine va_get (D := g) (ci := 3) (v := .ref (x 0)) (C := RX3) (T := TX3) (N := 4) hx hb hts inX3 hown hK.1 hP 0 rfl rfl 2 (by decide) f37 (fun _ h9 => h9) rfl dX3_taken_61 ?_
    refine va_getN (D := g) (ci := 1) (v := .int (iI cy)) (C := RX1) (T := TX1) (N := 18) hx hb hts inX1 hown hK.1 hP 1 rfl rfl 15 (by decide) (va_Nw.use rfl f124) (fun _ h9 => h9) rfl dX3_taken_64 ?_
    exact hret (iI cy) () _ _ _ _ _ _ dX3_taken_67 (by decide) ⟨by omega, by unfold takF; rw [hsw1]; rfl⟩ hP hD hS
  · skip
    refine ri_tabIn (a := w) (v := 3) (tgt := 68) hx hb hsw1 (by decide) dX3_taken_1 (by decide) rfl (by decide) ?_
    refine lv_aload_n hx hb dX3_taken_68 rfl (lv_at hl 0 rfl) ?_
    refine va_get (D := g) (ci := 3) (v := .ref (x 0)) (C := RX3) (T := TX3) (N := 4) hx hb hts inX3 hown hK.1 hP 0 rfl rfl 2 (by decide) f37 (fun _ h9 => h9) rfl dX3_taken_69 ?_
    refine va_getN (D := g) (ci := 1) (v := .int (iI df)) (C := RX1) (T := TX1) (N := 18) hx hb hts inX1 hown hK.1 hP 1 rfl rfl 16 (by decide) (va_Nw.use rfl f127) (fun _ h9 => h9) rfl dX3_taken_72 ?_
    exact hret (iI df) () _ _ _ _ _ _ dX3_taken_75 (by decide) ⟨by omega, by unfold takF; rw [hsw1]; rfl⟩ hP hD hS
  · skip
    refine ri_tabIn (a := w) (v := 4) (tgt := 76) hx hb hsw1 (by decide) dX3_taken_1 (by decide) rfl (by decide) ?_
    refine lv_aload_n hx hb dX3_taken_76 rfl (lv_at hl 0 rfl) ?_
    refine va_get (D := g) (ci := 3) (v := .ref (x 0)) (C := RX3) (T := TX3) (N := 4) hx hb hts inX3 hown hK.1 hP 0 rfl rfl 2 (by decide) f37 (fun _ h9 => h9) rfl dX3_taken_77 ?_
    refine va_getN (D := g) (ci := 1) (v := .int (iI bs)) (C := RX1) (T := TX1) (N := 18) hx hb hts inX1 hown hK.1 hP 1 rfl rfl 10 (by decide) (va_Nw.use rfl f130) (fun _ h9 => h9) rfl dX3_taken_80 ?_
    exact hret (iI bs) () _ _ _ _ _ _ dX3_taken_83 (by decide) ⟨by omega, by unfold takF; rw [hsw1]; rfl⟩ hP hD hS
  · skip
    refine ri_tabIn (a := w) (v := 5) (tgt := 84) hx hb hsw1 (by decide) dX3_taken_1 (by decide) rfl (by decide) ?_
    refine lv_aload_n hx hb dX3_taken_84 rfl (lv_at hl 0 rfl) ?_
    refine va_get (D := g) (ci := 3) (v := .ref (x 0)) (C := RX3) (T := TX3) (N := 4) hx hb hts inX3 hown hK.1 hP 0 rfl rfl 2 (by decide) f37 (fun _ h9 => h9) rfl dX3_taken_85 ?_
    refine va_getN (D := g) (ci := 1) (v := .int (iI bo)) (C := RX1) (T := TX1) (N := 18) hx hb hts inX1 hown hK.1 hP 1 rfl rfl 11 (by decide) (va_Nw.use rfl f133) (fun _ h9 => h9) rfl dX3_taken_88 ?_
    exact hret (iI bo) () _ _ _ _ _ _ dX3_taken_91 (by decide) ⟨by omega, by unfold takF; rw [hsw1]; rfl⟩ hP hD hS
  · skip
    refine ri_tabIn (a := w) (v := 6) (tgt := 92) hx hb hsw1 (by decide) dX3_taken_1 (by decide) rfl (by decide) ?_
    refine lv_aload_n hx hb dX3_taken_92 rfl (lv_at hl 0 rfl) ?_
    refine va_get (D := g) (ci := 3) (v := .ref (x 0)) (C := RX3) (T := TX3) (N := 4) hx hb hts inX3 hown hK.1 hP 0 rfl rfl 2 (by decide) f37 (fun _ h9 => h9) rfl dX3_taken_93 ?_
    refine va_getN (D := g) (ci := 1) (v := .int (iI mo)) (C := RX1) (T := TX1) (N := 18) hx hb hts inX1 hown hK.1 hP 1 rfl rfl 12 (by decide) (va_Nw.use rfl f136) (fun _ h9 => h9) rfl dX3_taken_96 ?_
    exact hret (iI mo) () _ _ _ _ _ _ dX3_taken_99 (by decide) ⟨by omega, by unfold takF; rw [hsw1]; rfl⟩ hP hD hS
  · skip
    refine ri_tabOut (a := w) (tgt := 100) hx hb (by omega) dX3_taken_1 hsw1 (by decide) ?_
    exact hthr ⟨rfl, by omega⟩ 139 100 "no such count" _ (by decide) hl.1 dX3_taken_100 dX3_taken_103 dX3_taken_104 dX3_taken_106 dX3_taken_109

set_option maxHeartbeats 4000000 in
set_option maxRecDepth 100000 in
theorem c_champion (l : Launch) (hl0 : l.stackTraces = false) (g : va_G) (k : kT) (z x : Nat → Nat) (sz : Nat) (wk : Int) (n : Int) (d : Nat) (bg en bs bo mo op ha cy df hsu : Int) (be : Int → Int) (st sy : Int) (hn : 2 ≤ n ∧ n ≤ 4) (hr : (-2147483648 ≤ st ∧ st < 2147483648) ∧ (-2147483648 ≤ sy ∧ sy < 2147483648)) : cXI l yX3_champion wsX3_champion rm_X g k ([zO z x wk, tO x n d bg en bs bo mo op ha cy df hsu] ++ wMa k (x 3) (x 4) n be) sz [.ref (z 0), .int (iI st), .int (iI sy)] (fun _ : Unit => ([zO z x wk, tO x n d bg en bs bo mo op ha cy df hsu] ++ wMa k (x 3) (x 4) n be)) (fun r _ => (0 ≤ st ∧ st < n ∧ (sy = 0 ∨ sy = 1)) ∧ r = iI (be (2 * st + sy))) (fun E => E = "java/lang/IllegalArgumentException" ∧ ¬ (0 ≤ st ∧ st < n ∧ (sy = 0 ∨ sy = 1))) := by
  refine sx_I (cls := "java/lang/IllegalArgumentException") (ik := 49) (ic := 53) hl0 (by decide) rfl rfl (Nat.le_of_ble_eq_true rfl) (by decide) (by decide +kernel) (by decide +kernel) xA_o (by decide) ?_
  intro p e s m below meth c Q A hx hb hml hown hts hA hP hD hS hK hE hH hret hexc hthr ls hl
  have f37 := hts (.fieldLink RX3 37 "MachineTree" "tree" "LMachineTree$Tree;") (by decide +kernel)
  have inX3 := (by decide +kernel : ∀ w ∈ wsX30, w ∈ wsX3_champion)
  have f141 := hK.2 ("MachineTree", 141, "MachineTree$Tree", "best", "LMachineTree$Machine;") (by decide)
  have inX1 := (by decide +kernel : ∀ w ∈ wsX10, w ∈ wsX3_champion)
  have hl : lv_has ls 3 [(0, .ref (z 0)), (1, .int (iI st)), (2, .int (iI sy))] := hl
  refine lv_aload_n hx hb dX3_champion_0 rfl (lv_at hl 0 rfl) ?_
  refine va_get (D := g) (ci := 3) (v := .ref (x 0)) (C := RX3) (T := TX3) (N := 4) hx hb hts inX3 hown hK.1 hP 0 rfl rfl 2 (by decide) f37 (fun _ h9 => h9) rfl dX3_champion_1 ?_
  refine va_getN (D := g) (ci := 1) (v := .ref (x 3)) (C := RX1) (T := TX1) (N := 18) hx hb hts inX1 hown hK.1 hP 1 rfl rfl 9 (by decide) (va_Nw.use rfl f141) (fun _ h9 => h9) rfl dX3_champion_4 ?_
  refine lv_iload_n hx hb dX3_champion_7 rfl (lv_at hl 1 rfl) ?_
  refine lv_iload_n hx hb dX3_champion_8 rfl (lv_at hl 2 rfl) ?_
  refine rc_P (own := RX3) (q := (RX0, TX0, 2)) (wc := [((x 3), .inr (0, [.int (iI n), .ref (x 4)])), ((x 4), .inl (k.1, 8, .inl (iF be)))]) (As := [.int (iI st), .int (iI sy)]) (rest := []) ⟨hx, hb, hml, hown, hts⟩ (c_hasPlace l g k (x 3) (x 4) n be st sy hn (by omega) (by omega)) (cwV 2 hts gX3_champion_X0_hasPlace rfl rfl rfl (by decide +kernel) ⟨Nat.le_of_ble_eq_true rfl, Nat.le_of_ble_eq_true rfl⟩) hK hP [2, 3] rfl (ci := 0) (q0 := 0) rfl rfl rfl rfl hl.1 (Nat.le_of_ble_eq_true rfl) ⟨Nat.le_of_ble_eq_true rfl, Nat.le_of_ble_eq_true rfl⟩ dX3_champion_9 (fun r9 hr9 => ?_)
  refine ri_top (y := iI (if 0 ≤ st ∧ st < n ∧ (sy = 0 ∨ sy = 1) then 1 else 0)) hr9 ?_
  have q6 : (if 0 ≤ st ∧ st < n ∧ (sy = 0 ∨ sy = 1) then (1 : Int) else 0) = 1 ∧ (0 ≤ st ∧ st < n ∧ (sy = 0 ∨ sy = 1)) ∨ (if 0 ≤ st ∧ st < n ∧ (sy = 0 ∨ sy = 1) then (1 : Int) else 0) = 0 ∧ ¬ (0 ≤ st ∧ st < n ∧ (sy = 0 ∨ sy = 1)) := by by_cases q : 0 ≤ st ∧ st < n ∧ (sy = 0 ∨ sy = 1) <;> simp [q]
  generalize (if 0 ≤ st ∧ st < n ∧ (sy = 0 ∨ sy = 1) then (1 : Int) else 0) = v6 at q6 ⊢
  refine ri_if_ne (a := v6) (tgt := 25) hx hb (by omega) dX3_champion_12 (by decide) (fun c12 => ?_) (fun c12 => ?_)
  · skip
    refine lv_aload_n hx hb dX3_champion_25 rfl (lv_at hl 0 rfl) ?_
    refine va_get (D := g) (ci := 3) (v := .ref (x 0)) (C := RX3) (T := TX3) (N := 4) hx hb hts inX3 hown hK.1 hP 0 rfl rfl 2 (by decide) f37 (fun _ h9 => h9) rfl dX3_champion_26 ?_
    refine va_getN (D := g) (ci := 1) (v := .ref (x 3)) (C := RX1) (T := TX1) (N := 18) hx hb hts inX1 hown hK.1 hP 1 rfl rfl 9 (by decide) (va_Nw.use rfl f141) (fun _ h9 => h9) rfl dX3_champion_29 ?_
    refine lv_iload_n hx hb dX3_champion_32 rfl (lv_at hl 1 rfl) ?_
    refine lv_iload_n hx hb dX3_champion_33 rfl (lv_at hl 2 rfl) ?_
    refine rc_P (own := RX3) (q := (RX0, TX0, 2)) (wc := [((x 3), .inr (0, [.int (iI n), .ref (x 4)])), ((x 4), .inl (k.1, 8, .inl (iF be)))]) (As := [.int (iI st), .int (iI sy)]) (rest := []) ⟨hx, hb, hml, hown, hts⟩ (c_codeAt l g k (x 3) (x 4) n be st sy (by omega)) (cwV 2 hts gX3_champion_X0_codeAt rfl rfl rfl (by decide +kernel) ⟨Nat.le_of_ble_eq_true rfl, Nat.le_of_ble_eq_true rfl⟩) hK hP [2, 3] rfl (ci := 0) (q0 := 0) rfl rfl rfl rfl hl.1 (Nat.le_of_ble_eq_true rfl) ⟨Nat.le_of_ble_eq_true rfl, Nat.le_of_ble_eq_true rfl⟩ dX3_champion_34 (fun r34 hr34 => ?_)
    refine ri_top (y := iI (be (2 * st + sy))) hr34 ?_
    exact hret (iI (be (2 * st + sy))) () _ _ _ _ _ _ dX3_champion_37 (by decide) ⟨by omega, rfl⟩ hP hD hS
  · skip
    exact hthr ⟨rfl, by omega⟩ 51 15 "no such state or symbol" _ (by decide) hl.1 dX3_champion_15 dX3_champion_18 dX3_champion_19 dX3_champion_21 dX3_champion_24

set_option maxHeartbeats 4000000 in
set_option maxRecDepth 100000 in
theorem c_mean (l : Launch) (hl0 : l.stackTraces = false) (g : va_G) (k : kT) (z x : Nat → Nat) (sz : Nat) (wk : Int) (n : Int) (d : Nat) (bg en bs bo mo op ha cy df hsu : Int) (hh : 0 ≤ ha ∧ ha < 1000000) (hnan : 0 < ha → vf_n32 (FP.fdiv (FP.i2f (iI hsu)) (FP.i2f (iI ha)))) : cXF l yX3_mean wsX3_mean rm_X g k [zO z x wk, tO x n d bg en bs bo mo op ha cy df hsu] sz [.ref (z 0)] (fun _ : Unit => [zO z x wk, tO x n d bg en bs bo mo op ha cy df hsu]) (fun r _ => 0 < ha ∧ r = FP.fdiv (FP.i2f (iI hsu)) (FP.i2f (iI ha))) (fun E => E = "java/lang/IllegalStateException" ∧ ha = 0) := by
  refine sx_F (cls := "java/lang/IllegalStateException") (ik := 144) (ic := 148) hl0 (by decide) rfl rfl (Nat.le_of_ble_eq_true rfl) (by decide) (by decide +kernel) (by decide +kernel) xS_o (by decide) ?_
  intro p e s m below meth c Q A hx hb hml hown hts hA hP hD hS hK hE hH hret hexc hthr ls hl
  have f37 := hts (.fieldLink RX3 37 "MachineTree" "tree" "LMachineTree$Tree;") (by decide +kernel)
  have inX3 := (by decide +kernel : ∀ w ∈ wsX30, w ∈ wsX3_mean)
  have f121 := hK.2 ("MachineTree", 121, "MachineTree$Tree", "halted", "I") (by decide)
  have inX1 := (by decide +kernel : ∀ w ∈ wsX10, w ∈ wsX3_mean)
  have f149 := hK.2 ("MachineTree", 149, "MachineTree$Tree", "haltedSteps", "I") (by decide)
  have hl : lv_has ls 1 [(0, .ref (z 0))] := hl
  refine lv_aload_n hx hb dX3_mean_0 rfl (lv_at hl 0 rfl) ?_
  refine va_get (D := g) (ci := 3) (v := .ref (x 0)) (C := RX3) (T := TX3) (N := 4) hx hb hts inX3 hown hK.1 hP 0 rfl rfl 2 (by decide) f37 (fun _ h9 => h9) rfl dX3_mean_1 ?_
  refine va_getN (D := g) (ci := 1) (v := .int (iI ha)) (C := RX1) (T := TX1) (N := 18) hx hb hts inX1 hown hK.1 hP 1 rfl rfl 14 (by decide) (va_Nw.use rfl f121) (fun _ h9 => h9) rfl dX3_mean_4 ?_
  refine ri_if_gt (a := ha) (tgt := 20) hx hb (by omega) dX3_mean_7 (by decide) (fun c7 => ?_) (fun c7 => ?_)
  · skip
    refine lv_aload_n hx hb dX3_mean_20 rfl (lv_at hl 0 rfl) ?_
    refine va_get (D := g) (ci := 3) (v := .ref (x 0)) (C := RX3) (T := TX3) (N := 4) hx hb hts inX3 hown hK.1 hP 0 rfl rfl 2 (by decide) f37 (fun _ h9 => h9) rfl dX3_mean_21 ?_
    refine va_getN (D := g) (ci := 1) (v := .int (iI hsu)) (C := RX1) (T := TX1) (N := 18) hx hb hts inX1 hown hK.1 hP 1 rfl rfl 17 (by decide) (va_Nw.use rfl f149) (fun _ h9 => h9) rfl dX3_mean_24 ?_
    refine lv_i2f hx hb dX3_mean_27 ?_
    refine lv_aload_n hx hb dX3_mean_28 rfl (lv_at hl 0 rfl) ?_
    refine va_get (D := g) (ci := 3) (v := .ref (x 0)) (C := RX3) (T := TX3) (N := 4) hx hb hts inX3 hown hK.1 hP 0 rfl rfl 2 (by decide) f37 (fun _ h9 => h9) rfl dX3_mean_29 ?_
    refine va_getN (D := g) (ci := 1) (v := .int (iI ha)) (C := RX1) (T := TX1) (N := 18) hx hb hts inX1 hown hK.1 hP 1 rfl rfl 14 (by decide) (va_Nw.use rfl f121) (fun _ h9 => h9) rfl dX3_mean_32 ?_
    refine lv_i2f hx hb dX3_mean_35 ?_
    refine lv_fdiv hx hb dX3_mean_36 (hnan (by omega)) ?_
    exact hret (FP.fdiv (FP.i2f (iI hsu)) (FP.i2f (iI ha))) () _ _ _ _ _ _ dX3_mean_37 (by decide) ⟨by omega, rfl⟩ hP hD hS
  · skip
    exact hthr ⟨rfl, by omega⟩ 146 10 "none halted" _ (by decide) hl.1 dX3_mean_10 dX3_mean_13 dX3_mean_14 dX3_mean_16 dX3_mean_19

