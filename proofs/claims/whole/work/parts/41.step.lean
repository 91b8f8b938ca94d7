/-! THE REFERENCE: its run, step by step -/
abbrev yO (y : Nat → Nat) (thr n st pe dr lf rt ra dp ov bs bo mo su : Int) : Nat × va_E := ((y 0), .inr (4, [.int (iI thr), .int (iI n), .ref (y 1), .ref (y 2), .ref (y 3), .ref (y 4), .ref (y 5), .ref (y 6), .ref (y 7), .ref (y 8), .ref (y 9), .int (iI st), .int (iI pe), .int (iI dr), .int (iI lf), .int (iI rt), .int (iI ra), .ref (y 10), .ref (y 11), .int (iI dp), .ref (y 12), .ref (y 13), .int (iI ov), .ref (y 14), .int (iI bs), .int (iI bo), .int (iI mo), .int (iI su)]))
set_option maxHeartbeats 4000000 in
set_option maxRecDepth 100000 in
theorem r_thrown (l : Launch) (g : va_G) (k : kT) (y : Nat → Nat) (thr n st pe dr lf rt ra dp ov bs bo mo su : Int) : cP l yX4_thrown wsX4_thrown rm_0 g k [yO y thr n st pe dr lf rt ra dp ov bs bo mo su] [.ref (y 0)] (fun r => r = iI thr) := by
  refine st_P (by decide) rfl (Nat.le_of_ble_eq_true rfl) ?_
  intro p e s m below meth c Q hx hb hml hown hts hP hK hret ls hl
  have hown : s.vm.findClass RX4 = some m.cls := hown
  have f59 := hts (.fieldLink RX4 59 "MachineTreeModel" "thrown" "I") (by decide +kernel)
  have inX4 := (by decide +kernel : ∀ w ∈ wsX40, w ∈ wsX4_thrown)
  have hl : lv_has ls 1 [(0, .ref (y 0))] := hl
  refine lv_aload_n hx hb dX4_thrown_0 rfl (lv_at hl 0 rfl) ?_
  refine va_get (D := g) (ci := 4) (v := .int (iI thr)) (C := RX4) (T := TX4) (N := 28) hx hb hts inX4 hown hK.1 hP 0 rfl rfl 0 (by decide) f59 (fun _ h9 => h9) rfl dX4_thrown_1 ?_
  exact hret (iI thr) _ _ dX4_thrown_4 rfl

set_option maxHeartbeats 4000000 in
set_option maxRecDepth 100000 in
theorem r_refuse (l : Launch) (g : va_G) (k : kT) (y : Nat → Nat) (thr n st pe dr lf rt ra dp ov bs bo mo su : Int) (sz : Nat) (co : Int) : cI l yX4_refuse wsX4_refuse rm_0 g k [yO y thr n st pe dr lf rt ra dp ov bs bo mo su] sz [.ref (y 0), .int (iI co)] 0 0 (fun _ : Unit => [yO y co n st pe dr lf rt ra dp ov bs bo mo su]) (fun r _ => r = iI 0) := by
  refine st_I (by decide) rfl (Nat.le_of_ble_eq_true rfl) ?_
  intro p e s m below meth c Q A hx hb hml hown hts hA hP hD hS hK hret ls hl
  have hown : s.vm.findClass RX4 = some m.cls := hown
  have f59 := hts (.fieldLink RX4 59 "MachineTreeModel" "thrown" "I") (by decide +kernel)
  have inX4 := (by decide +kernel : ∀ w ∈ wsX40, w ∈ wsX4_refuse)
  have hl : lv_has ls 2 [(0, .ref (y 0)), (1, .int (iI co))] := hl
  obtain ⟨H, hH⟩ : ∃ H, H = s.heap := ⟨_, rfl⟩
  obtain ⟨locs, hlo⟩ : ∃ L : List Loc, L = [] := ⟨_, rfl⟩
  rw [← hH] at hP
  have hS : va_S A s.heap H locs := by rw [hH, hlo]; exact hS
  rw [show W p l e rm_0 s m ([.ref (y 0), .int (iI co)] : List Value).toArray below meth c s.heap [] 0 0 Q (F0 m 0 ls []) = W p l e rm_0 s m ([.ref (y 0), .int (iI co)] : List Value).toArray below meth c H locs 0 0 Q (F0 m 0 ls []) by rw [hH, hlo]]
  clear hH hlo
  refine lv_aload_n hx hb dX4_refuse_0 rfl (lv_at hl 0 rfl) ?_
  refine lv_iload_n hx hb dX4_refuse_1 rfl (lv_at hl 1 rfl) ?_
  refine va_put (D := g) (ci := 4) (v := .int (iI co)) (ty := .int) (C := RX4) (T := TX4) (N := 28) hx hb hts inX4 tyX4 tyX4_ok nmX4 hown hK.1 hP hD hS 0 rfl rfl 0 (by decide) f59 (fun _ h9 => h9) rfl (by decide +kernel) rfl rfl (Nat.le_of_ble_eq_true rfl) dX4_refuse_2 (fun H locs hP hD hS => ?_)
  have hP : va_P g vwCl [((y 0), .inr (4, [.int (iI co), .int (iI n), .ref (y 1), .ref (y 2), .ref (y 3), .ref (y 4), .ref (y 5), .ref (y 6), .ref (y 7), .ref (y 8), .ref (y 9), .int (iI st), .int (iI pe), .int (iI dr), .int (iI lf), .int (iI rt), .int (iI ra), .ref (y 10), .ref (y 11), .int (iI dp), .ref (y 12), .ref (y 13), .int (iI ov), .ref (y 14), .int (iI bs), .int (iI bo), .int (iI mo), .int (iI su)]))] H := hP
  have hD : va_D A [((y 0), .inr (4, [.int (iI co), .int (iI n), .ref (y 1), .ref (y 2), .ref (y 3), .ref (y 4), .ref (y 5), .ref (y 6), .ref (y 7), .ref (y 8), .ref (y 9), .int (iI st), .int (iI pe), .int (iI dr), .int (iI lf), .int (iI rt), .int (iI ra), .ref (y 10), .ref (y 11), .int (iI dp), .ref (y 12), .ref (y 13), .int (iI ov), .ref (y 14), .int (iI bs), .int (iI bo), .int (iI mo), .int (iI su)]))] := hD
  refine lv_iconst (v := iI 0) hx hb dX4_refuse_5 rfl ?_
  exact hret (iI 0) () _ _ _ _ dX4_refuse_6 rfl hP hD hS

set_option maxHeartbeats 4000000 in
set_option maxRecDepth 100000 in
theorem r_begin (l : Launch) (g : va_G) (k : kT) (y : Nat → Nat) (thr n st pe dr lf rt ra dp ov bs bo mo su : Int) (T ss hs rc : Int → Int) (cs : Int → Int) (sz : Nat) : cV l yX4_begin wsX4_begin rm_0 g k [yO y thr n st pe dr lf rt ra dp ov bs bo mo su, ((y 4), .inl (k.1, 620, .inl (iF T))), ((y 6), .inl (k.1, 301, .inl (iF ss))), ((y 7), .inl (k.1, 301, .inl (iF hs))), ((y 8), .inl (k.1, 301, .inl (iF rc)))] sz [.ref (y 0)] 0 0 (fun _ : Unit => [yO y thr n 0 0 0 0 0 ra dp ov bs bo mo su, ((y 4), .inl (k.1, 620, .inl (iF (tpM (sT cs 0))))), ((y 6), .inl (k.1, 301, .inl (iF (up ss 0 0)))), ((y 7), .inl (k.1, 301, .inl (iF (up hs 0 0)))), ((y 8), .inl (k.1, 301, .inl (iF (up rc 0 0))))]) (fun _ => True) := by
  refine st_V (by decide) rfl (Nat.le_of_ble_eq_true rfl) ?_
  intro p e s m below meth c Q A hx hb hml hown hts hin hA hP hD hS hK hret ls hl
  have hown : s.vm.findClass RX4 = some m.cls := hown
  have f70 := hts (.fieldLink RX4 70 "MachineTreeModel" "steps" "I") (by decide +kernel)
  have inX4 := (by decide +kernel : ∀ w ∈ wsX40, w ∈ wsX4_begin)
  have f73 := hts (.fieldLink RX4 73 "MachineTreeModel" "period" "I") (by decide +kernel)
  have f76 := hts (.fieldLink RX4 76 "MachineTreeModel" "drift" "I") (by decide +kernel)
  have f79 := hts (.fieldLink RX4 79 "MachineTreeModel" "left" "I") (by decide +kernel)
  have f82 := hts (.fieldLink RX4 82 "MachineTreeModel" "right" "I") (by decide +kernel)
  have f25 := hts (.fieldLink RX4 25 "MachineTreeModel" "states" "[I") (by decide +kernel)
  have f28 := hts (.fieldLink RX4 28 "MachineTreeModel" "heads" "[I") (by decide +kernel)
  have f31 := hts (.fieldLink RX4 31 "MachineTreeModel" "records" "[I") (by decide +kernel)
  have f19 := hts (.fieldLink RX4 19 "MachineTreeModel" "tape" "[I") (by decide +kernel)
  have hl : lv_has ls 2 [(0, .ref (y 0))] := hl
  obtain ⟨H, hH⟩ : ∃ H, H = s.heap := ⟨_, rfl⟩
  obtain ⟨locs, hlo⟩ : ∃ L : List Loc, L = [] := ⟨_, rfl⟩
  rw [← hH] at hP
  have hS : va_S A s.heap H locs := by rw [hH, hlo]; exact hS
  rw [show W p l e rm_0 s m ([.ref (y 0)] : List Value).toArray below meth c s.heap [] 0 0 Q (F0 m 0 ls []) = W p l e rm_0 s m ([.ref (y 0)] : List Value).toArray below meth c H locs 0 0 Q (F0 m 0 ls []) by rw [hH, hlo]]
  clear hH hlo
  refine lv_iconst (v := iI 0) hx hb dX4_begin_0 rfl ?_
  refine lv_istore_n (lv' := [(1, .int (iI 0)), (0, .ref (y 0))]) hx hb dX4_begin_1 rfl hl (by decide) rfl (fun ls hl => ?_)
  have J2 : ∀ (n9 : Nat) (i : Int) (G : Int → Int), 620 - i < (n9 : Int) → (0 ≤ i ∧ i ≤ 620) → (∀ j : Int, 0 ≤ j → j < i → G j = 0) → ∀ (ls : Array Slot), lv_has ls 2 [(0, .ref (y 0)), (1, .int (iI i))] → ∀ (H : Heap) (locs : List Loc), va_P g vwCl [((y 0), .inr (4, [.int (iI thr), .int (iI n), .ref (y 1), .ref (y 2), .ref (y 3), .ref (y 4), .ref (y 5), .ref (y 6), .ref (y 7), .ref (y 8), .ref (y 9), .int (iI st), .int (iI pe), .int (iI dr), .int (iI lf), .int (iI rt), .int (iI ra), .ref (y 10), .ref (y 11), .int (iI dp), .ref (y 12), .ref (y 13), .int (iI ov), .ref (y 14), .int (iI bs), .int (iI bo), .int (iI mo), .int (iI su)])), ((y 4), .inl (k.1, 620, .inl (iF G))), ((y 6), .inl (k.1, 301, .inl (iF ss))), ((y 7), .inl (k.1, 301, .inl (iF hs))), ((y 8), .inl (k.1, 301, .inl (iF rc)))] H → va_D A [((y 0), .inr (4, [.int (iI thr), .int (iI n), .ref (y 1), .ref (y 2), .ref (y 3), .ref (y 4), .ref (y 5), .ref (y 6), .ref (y 7), .ref (y 8), .ref (y 9), .int (iI st), .int (iI pe), .int (iI dr), .int (iI lf), .int (iI rt), .int (iI ra), .ref (y 10), .ref (y 11), .int (iI dp), .ref (y 12), .ref (y 13), .int (iI ov), .ref (y 14), .int (iI bs), .int (iI bo), .int (iI mo), .int (iI su)])), ((y 4), .inl (k.1, 620, .inl (iF G))), ((y 6), .inl (k.1, 301, .inl (iF ss))), ((y 7), .inl (k.1, 301, .inl (iF hs))), ((y 8), .inl (k.1, 301, .inl (iF rc)))] → va_S A s.heap H locs → W p l e rm_0 s m ([.ref (y 0)] : List Value).toArray below meth c H locs 0 0 Q (F0 m 2 ls []) := by
    intro n9
    induction n9 with
    | zero => intro i G hm9 hi hG; exact absurd hm9 (by omega)
    | succ n9 ih =>
      intro i G hm9 hi hG ls hl H locs hP hD hS
      refine lv_iload_n hx hb dX4_begin_2 rfl (lv_at hl 1 rfl) ?_
      refine lv_sipush (v := iI 620) hx hb dX4_begin_3 (by decide) ?_
      refine ri_icmp_ge (a := i) (b := 620) (tgt := 22) hx hb (by omega) (by omega) dX4_begin_6 (by decide) (fun c6 => ?_) (fun c6 => ?_)
      · skip
        refine lv_aload_n hx hb dX4_begin_22 rfl (lv_at hl 0 rfl) ?_
        refine lv_iconst (v := iI 0) hx hb dX4_begin_23 rfl ?_
        refine va_put (D := g) (ci := 4) (v := .int (iI 0)) (ty := .int) (C := RX4) (T := TX4) (N := 28) hx hb hts inX4 tyX4 tyX4_ok nmX4 hown hK.1 hP hD hS 0 rfl rfl 11 (by decide) f70 (fun _ h9 => h9) rfl (by decide +kernel) rfl rfl (Nat.le_of_ble_eq_true rfl) dX4_begin_24 (fun H locs hP hD hS => ?_)
        have hP : va_P g vwCl [((y 0), .inr (4, [.int (iI thr), .int (iI n), .ref (y 1), .ref (y 2), .ref (y 3), .ref (y 4), .ref (y 5), .ref (y 6), .ref (y 7), .ref (y 8), .ref (y 9), .int (iI 0), .int (iI pe), .int (iI dr), .int (iI lf), .int (iI rt), .int (iI ra), .ref (y 10), .ref (y 11), .int (iI dp), .ref (y 12), .ref (y 13), .int (iI ov), .ref (y 14), .int (iI bs), .int (iI bo), .int (iI mo), .int (iI su)])), ((y 4), .inl (k.1, 620, .inl (iF G))), ((y 6), .inl (k.1, 301, .inl (iF ss))), ((y 7), .inl (k.1, 301, .inl (iF hs))), ((y 8), .inl (k.1, 301, .inl (iF rc)))] H := hP
        have hD : va_D A [((y 0), .inr (4, [.int (iI thr), .int (iI n), .ref (y 1), .ref (y 2), .ref (y 3), .ref (y 4), .ref (y 5), .ref (y 6), .ref (y 7), .ref (y 8), .ref (y 9), .int (iI 0), .int (iI pe), .int (iI dr), .int (iI lf), .int (iI rt), .int (iI ra), .ref (y 10), .ref (y 11), .int (iI dp), .ref (y 12), .ref (y 13), .int (iI ov), .ref (y 14), .int (iI bs), .int (iI bo), .int (iI mo), .int (iI su)])), ((y 4), .inl (k.1, 620, .inl (iF G))), ((y 6), .inl (k.1, 301, .inl (iF ss))), ((y 7), .inl (k.1, 301, .inl (iF hs))), ((y 8), .inl (k.1, 301, .inl (iF rc)))] := hD
        refine lv_aload_n hx hb dX4_begin_27 rfl (lv_at hl 0 rfl) ?_
        refine lv_iconst (v := iI 0) hx hb dX4_begin_28 rfl ?_
        refine va_put (D := g) (ci := 4) (v := .int (iI 0)) (ty := .int) (C := RX4) (T := TX4) (N := 28) hx hb hts inX4 tyX4 tyX4_ok nmX4 hown hK.1 hP hD hS 0 rfl rfl 12 (by decide) f73 (fun _ h9 => h9) rfl (by decide +kernel) rfl rfl (Nat.le_of_ble_eq_true rfl) dX4_begin_29 (fun H locs hP hD hS => ?_)
        have hP : va_P g vwCl [((y 0), .inr (4, [.int (iI thr), .int (iI n), .ref (y 1), .ref (y 2), .ref (y 3), .ref (y 4), .ref (y 5), .ref (y 6), .ref (y 7), .ref (y 8), .ref (y 9), .int (iI 0), .int (iI 0), .int (iI dr), .int (iI lf), .int (iI rt), .int (iI ra), .ref (y 10), .ref (y 11), .int (iI dp), .ref (y 12), .ref (y 13), .int (iI ov), .ref (y 14), .int (iI bs), .int (iI bo), .int (iI mo), .int (iI su)])), ((y 4), .inl (k.1, 620, .inl (iF G))), ((y 6), .inl (k.1, 301, .inl (iF ss))), ((y 7), .inl (k.1, 301, .inl (iF hs))), ((y 8), .inl (k.1, 301, .inl (iF rc)))] H := hP
        have hD : va_D A [((y 0), .inr (4, [.int (iI thr), .int (iI n), .ref (y 1), .ref (y 2), .ref (y 3), .ref (y 4), .ref (y 5), .ref (y 6), .ref (y 7), .ref (y 8), .ref (y 9), .int (iI 0), .int (iI 0), .int (iI dr), .int (iI lf), .int (iI rt), .int (iI ra), .ref (y 10), .ref (y 11), .int (iI dp), .ref (y 12), .ref (y 13), .int (iI ov), .ref (y 14), .int (iI bs), .int (iI bo), .int (iI mo), .int (iI su)])), ((y 4), .inl (k.1, 620, .inl (iF G))), ((y 6), .inl (k.1, 301, .inl (iF ss))), ((y 7), .inl (k.1, 301, .inl (iF hs))), ((y 8), .inl (k.1, 301, .inl (iF rc)))] := hD
        refine lv_aload_n hx hb dX4_begin_32 rfl (lv_at hl 0 rfl) ?_
        refine lv_iconst (v := iI 0) hx hb dX4_begin_33 rfl ?_
        refine va_put (D := g) (ci := 4) (v := .int (iI 0)) (ty := .int) (C := RX4) (T := TX4) (N := 28) hx hb hts inX4 tyX4 tyX4_ok nmX4 hown hK.1 hP hD hS 0 rfl rfl 13 (by decide) f76 (fun _ h9 => h9) rfl (by decide +kernel) rfl rfl (Nat.le_of_ble_eq_true rfl) dX4_begin_34 (fun H locs hP hD hS => ?_)
        have hP : va_P g vwCl [((y 0), .inr (4, [.int (iI thr), .int (iI n), .ref (y 1), .ref (y 2), .ref (y 3), .ref (y 4), .ref (y 5), .ref (y 6), .ref (y 7), .ref (y 8), .ref (y 9), .int (iI 0), .int (iI 0), .int (iI 0), .int (iI lf), .int (iI rt), .int (iI ra), .ref (y 10), .ref (y 11), .int (iI dp), .ref (y 12), .ref (y 13), .int (iI ov), .ref (y 14), .int (iI bs), .int (iI bo), .int (iI mo), .int (iI su)])), ((y 4), .inl (k.1, 620, .inl (iF G))), ((y 6), .inl (k.1, 301, .inl (iF ss))), ((y 7), .inl (k.1, 301, .inl (iF hs))), ((y 8), .inl (k.1, 301, .inl (iF rc)))] H := hP
        have hD : va_D A [((y 0), .inr (4, [.int (iI thr), .int (iI n), .ref (y 1), .ref (y 2), .ref (y 3), .ref (y 4), .ref (y 5), .ref (y 6), .ref (y 7), .ref (y 8), .ref (y 9), .int (iI 0), .int (iI 0), .int (iI 0), .int (iI lf), .int (iI rt), .int (iI ra), .ref (y 10), .ref (y 11), .int (iI dp), .ref (y 12), .ref (y 13), .int (iI ov), .ref (y 14), .int (iI bs), .int (iI bo), .int (iI mo), .int (iI su)])), ((y 4), .inl (k.1, 620, .inl (iF G))), ((y 6), .inl (k.1, 301, .inl (iF ss))), ((y 7), .inl (k.1, 301, .inl (iF hs))), ((y 8), .inl (k.1, 301, .inl (iF rc)))] := hD
        refine lv_aload_n hx hb dX4_begin_37 rfl (lv_at hl 0 rfl) ?_
        refine lv_iconst (v := iI 0) hx hb dX4_begin_38 rfl ?_
        refine va_put (D := g) (ci := 4) (v := .int (iI 0)) (ty := .int) (C := RX4) (T := TX4) (N := 28) hx hb hts inX4 tyX4 tyX4_ok nmX4 hown hK.1 hP hD hS 0 rfl rfl 14 (by decide) f79 (fun _ h9 => h9) rfl (by decide +kernel) rfl rfl (Nat.le_of_ble_eq_true rfl) dX4_begin_39 (fun H locs hP hD hS => ?_)
        have hP : va_P g vwCl [((y 0), .inr (4, [.int (iI thr), .int (iI n), .ref (y 1), .ref (y 2), .ref (y 3), .ref (y 4), .ref (y 5), .ref (y 6), .ref (y 7), .ref (y 8), .ref (y 9), .int (iI 0), .int (iI 0), .int (iI 0), .int (iI 0), .int (iI rt), .int (iI ra), .ref (y 10), .ref (y 11), .int (iI dp), .ref (y 12), .ref (y 13), .int (iI ov), .ref (y 14), .int (iI bs), .int (iI bo), .int (iI mo), .int (iI su)])), ((y 4), .inl (k.1, 620, .inl (iF G))), ((y 6), .inl (k.1, 301, .inl (iF ss))), ((y 7), .inl (k.1, 301, .inl (iF hs))), ((y 8), .inl (k.1, 301, .inl (iF rc)))] H := hP
        have hD : va_D A [((y 0), .inr (4, [.int (iI thr), .int (iI n), .ref (y 1), .ref (y 2), .ref (y 3), .ref (y 4), .ref (y 5), .ref (y 6), .ref (y 7), .ref (y 8), .ref (y 9), .int (iI 0), .int (iI 0), .int (iI 0), .int (iI 0), .int (iI rt), .int (iI ra), .ref (y 10), .ref (y 11), .int (iI dp), .ref (y 12), .ref (y 13), .int (iI ov), .ref (y 14), .int (iI bs), .int (iI bo), .int (iI mo), .int (iI su)])), ((y 4), .inl (k.1, 620, .inl (iF G))), ((y 6), .inl (k.1, 301, .inl (iF ss))), ((y 7), .inl (k.1, 301, .inl (iF hs))), ((y 8), .inl (k.1, 301, .inl (iF rc)))] := hD
        refine lv_aload_n hx hb dX4_begin_42 rfl (lv_at hl 0 rfl) ?_
        refine lv_iconst (v := iI 0) hx hb dX4_begin_43 rfl ?_
        refine va_put (D := g) (ci := 4) (v := .int (iI 0)) (ty := .int) (C := RX4) (T := TX4) (N := 28) hx hb hts inX4 tyX4 tyX4_ok nmX4 hown hK.1 hP hD hS 0 rfl rfl 15 (by decide) f82 (fun _ h9 => h9) rfl (by decide +kernel) rfl rfl (Nat.le_of_ble_eq_true rfl) dX4_begin_44 (fun H locs hP hD hS => ?_)
        have hP : va_P g vwCl [((y 0), .inr (4, [.int (iI thr), .int (iI n), .ref (y 1), .ref (y 2), .ref (y 3), .ref (y 4), .ref (y 5), .ref (y 6), .ref (y 7), .ref (y 8), .ref (y 9), .int (iI 0), .int (iI 0), .int (iI 0), .int (iI 0), .int (iI 0), .int (iI ra), .ref (y 10), .ref (y 11), .int (iI dp), .ref (y 12), .ref (y 13), .int (iI ov), .ref (y 14), .int (iI bs), .int (iI bo), .int (iI mo), .int (iI su)])), ((y 4), .inl (k.1, 620, .inl (iF G))), ((y 6), .inl (k.1, 301, .inl (iF ss))), ((y 7), .inl (k.1, 301, .inl (iF hs))), ((y 8), .inl (k.1, 301, .inl (iF rc)))] H := hP
        have hD : va_D A [((y 0), .inr (4, [.int (iI thr), .int (iI n), .ref (y 1), .ref (y 2), .ref (y 3), .ref (y 4), .ref (y 5), .ref (y 6), .ref (y 7), .ref (y 8), .ref (y 9), .int (iI 0), .int (iI 0), .int (iI 0), .int (iI 0), .int (iI 0), .int (iI ra), .ref (y 10), .ref (y 11), .int (iI dp), .ref (y 12), .ref (y 13), .int (iI ov), .ref (y 14), .int (iI bs), .int (iI bo), .int (iI mo), .int (iI su)])), ((y 4), .inl (k.1, 620, .inl (iF G))), ((y 6), .inl (k.1, 301, .inl (iF ss))), ((y 7), .inl (k.1, 301, .inl (iF hs))), ((y 8), .inl (k.1, 301, .inl (iF rc)))] := hD
        refine lv_aload_n hx hb dX4_begin_47 rfl (lv_at hl 0 rfl) ?_
        refine va_get (D := g) (ci := 4) (v := .ref (y 6)) (C := RX4) (T := TX4) (N := 28) hx hb hts inX4 hown hK.1 hP 0 rfl rfl 7 (by decide) f25 (fun _ h9 => h9) rfl dX4_begin_48 ?_
        refine lv_iconst (v := iI 0) hx hb dX4_begin_51 rfl ?_
        refine lv_iconst (v := iI 0) hx hb dX4_begin_52 rfl ?_
        refine ri_iast (F := ss) (i := 0) (x := 0) hx hb hK.1 hP hD hS 2 0 rfl rfl (by omega) (by omega) dX4_begin_53 (fun H locs hP hD hS => ?_)
        have hP : va_P g vwCl [((y 0), .inr (4, [.int (iI thr), .int (iI n), .ref (y 1), .ref (y 2), .ref (y 3), .ref (y 4), .ref (y 5), .ref (y 6), .ref (y 7), .ref (y 8), .ref (y 9), .int (iI 0), .int (iI 0), .int (iI 0), .int (iI 0), .int (iI 0), .int (iI ra), .ref (y 10), .ref (y 11), .int (iI dp), .ref (y 12), .ref (y 13), .int (iI ov), .ref (y 14), .int (iI bs), .int (iI bo), .int (iI mo), .int (iI su)])), ((y 4), .inl (k.1, 620, .inl (iF G))), ((y 6), .inl (k.1, 301, .inl (iF (up ss 0 0)))), ((y 7), .inl (k.1, 301, .inl (iF hs))), ((y 8), .inl (k.1, 301, .inl (iF rc)))] H := hP
        have hD : va_D A [((y 0), .inr (4, [.int (iI thr), .int (iI n), .ref (y 1), .ref (y 2), .ref (y 3), .ref (y 4), .ref (y 5), .ref (y 6), .ref (y 7), .ref (y 8), .ref (y 9), .int (iI 0), .int (iI 0), .int (iI 0), .int (iI 0), .int (iI 0), .int (iI ra), .ref (y 10), .ref (y 11), .int (iI dp), .ref (y 12), .ref (y 13), .int (iI ov), .ref (y 14), .int (iI bs), .int (iI bo), .int (iI mo), .int (iI su)])), ((y 4), .inl (k.1, 620, .inl (iF G))), ((y 6), .inl (k.1, 301, .inl (iF (up ss 0 0)))), ((y 7), .inl (k.1, 301, .inl (iF hs))), ((y 8), .inl (k.1, 301, .inl (iF rc)))] := hD
        refine lv_aload_n hx hb dX4_begin_54 rfl (lv_at hl 0 rfl) ?_
        refine va_get (D := g) (ci := 4) (v := .ref (y 7)) (C := RX4) (T := TX4) (N := 28) hx hb hts inX4 hown hK.1 hP 0 rfl rfl 8 (by decide) f28 (fun _ h9 => h9) rfl dX4_begin_55 ?_
        refine lv_iconst (v := iI 0) hx hb dX4_begin_58 rfl ?_
        refine lv_iconst (v := iI 0) hx hb dX4_begin_59 rfl ?_
        refine ri_iast (F := hs) (i := 0) (x := 0) hx hb hK.1 hP hD hS 3 0 rfl rfl (by omega) (by omega) dX4_begin_60 (fun H locs hP hD hS => ?_)
        have hP : va_P g vwCl [((y 0), .inr (4, [.int (iI thr), .int (iI n), .ref (y 1), .ref (y 2), .ref (y 3), .ref (y 4), .ref (y 5), .ref (y 6), .ref (y 7), .ref (y 8), .ref (y 9), .int (iI 0), .int (iI 0), .int (iI 0), .int (iI 0), .int (iI 0), .int (iI ra), .ref (y 10), .ref (y 11), .int (iI dp), .ref (y 12), .ref (y 13), .int (iI ov), .ref (y 14), .int (iI bs), .int (iI bo), .int (iI mo), .int (iI su)])), ((y 4), .inl (k.1, 620, .inl (iF G))), ((y 6), .inl (k.1, 301, .inl (iF (up ss 0 0)))), ((y 7), .inl (k.1, 301, .inl (iF (up hs 0 0)))), ((y 8), .inl (k.1, 301, .inl (iF rc)))] H := hP
        have hD : va_D A [((y 0), .inr (4, [.int (iI thr), .int (iI n), .ref (y 1), .ref (y 2), .ref (y 3), .ref (y 4), .ref (y 5), .ref (y 6), .ref (y 7), .ref (y 8), .ref (y 9), .int (iI 0), .int (iI 0), .int (iI 0), .int (iI 0), .int (iI 0), .int (iI ra), .ref (y 10), .ref (y 11), .int (iI dp), .ref (y 12), .ref (y 13), .int (iI ov), .ref (y 14), .int (iI bs), .int (iI bo), .int (iI mo), .int (iI su)])), ((y 4), .inl (k.1, 620, .inl (iF G))), ((y 6), .inl (k.1, 301, .inl (iF (up ss 0 0)))), ((y 7), .inl (k.1, 301, .inl (iF (up hs 0 0)))), ((y 8), .inl (k.1, 301, .inl (iF rc)))] := hD
        refine lv_aload_n hx hb dX4_begin_61 rfl (lv_at hl 0 rfl) ?_
        refine va_get (D := g) (ci := 4) (v := .ref (y 8)) (C := RX4) (T := TX4) (N := 28) hx hb hts inX4 hown hK.1 hP 0 rfl rfl 9 (by decide) f31 (fun _ h9 => h9) rfl dX4_begin_62 ?_
        refine lv_iconst (v := iI 0) hx hb dX4_begin_65 rfl ?_
        refine lv_iconst (v := iI 0) hx hb dX4_begin_66 rfl ?_
        refine ri_iast (F := rc) (i := 0) (x := 0) hx hb hK.1 hP hD hS 4 0 rfl rfl (by omega) (by omega) dX4_begin_67 (fun H locs hP hD hS => ?_)
        have hP : va_P g vwCl [((y 0), .inr (4, [.int (iI thr), .int (iI n), .ref (y 1), .ref (y 2), .ref (y 3), .ref (y 4), .ref (y 5), .ref (y 6), .ref (y 7), .ref (y 8), .ref (y 9), .int (iI 0), .int (iI 0), .int (iI 0), .int (iI 0), .int (iI 0), .int (iI ra), .ref (y 10), .ref (y 11), .int (iI dp), .ref (y 12), .ref (y 13), .int (iI ov), .ref (y 14), .int (iI bs), .int (iI bo), .int (iI mo), .int (iI su)])), ((y 4), .inl (k.1, 620, .inl (iF G))), ((y 6), .inl (k.1, 301, .inl (iF (up ss 0 0)))), ((y 7), .inl (k.1, 301, .inl (iF (up hs 0 0)))), ((y 8), .inl (k.1, 301, .inl (iF (up rc 0 0))))] H := hP
        have hD : va_D A [((y 0), .inr (4, [.int (iI thr), .int (iI n), .ref (y 1), .ref (y 2), .ref (y 3), .ref (y 4), .ref (y 5), .ref (y 6), .ref (y 7), .ref (y 8), .ref (y 9), .int (iI 0), .int (iI 0), .int (iI 0), .int (iI 0), .int (iI 0), .int (iI ra), .ref (y 10), .ref (y 11), .int (iI dp), .ref (y 12), .ref (y 13), .int (iI ov), .ref (y 14), .int (iI bs), .int (iI bo), .int (iI mo), .int (iI su)])), ((y 4), .inl (k.1, 620, .inl (iF G))), ((y 6), .inl (k.1, 301, .inl (iF (up ss 0 0)))), ((y 7), .inl (k.1, 301, .inl (iF (up hs 0 0)))), ((y 8), .inl (k.1, 301, .inl (iF (up rc 0 0))))] := hD
        obtain ⟨hP, hD⟩ := P_reI (i := 1) (F' := tpM (sT cs 0)) hP hD rfl (fun j h1 h2 => hG j h1 (by omega))
        exact hret () _ _ _ _ dX4_begin_68 trivial hP hD hS
      · skip
        refine lv_aload_n hx hb dX4_begin_9 rfl (lv_at hl 0 rfl) ?_
        refine va_get (D := g) (ci := 4) (v := .ref (y 4)) (C := RX4) (T := TX4) (N := 28) hx hb hts inX4 hown hK.1 hP 0 rfl rfl 5 (by decide) f19 (fun _ h9 => h9) rfl dX4_begin_10 ?_
        refine lv_iload_n hx hb dX4_begin_13 rfl (lv_at hl 1 rfl) ?_
        refine lv_iconst (v := iI 0) hx hb dX4_begin_14 rfl ?_
        refine ri_iast (F := G) (i := i) (x := 0) hx hb hK.1 hP hD hS 1 0 rfl rfl (by omega) (by omega) dX4_begin_15 (fun H locs hP hD hS => ?_)
        have hP : va_P g vwCl [((y 0), .inr (4, [.int (iI thr), .int (iI n), .ref (y 1), .ref (y 2), .ref (y 3), .ref (y 4), .ref (y 5), .ref (y 6), .ref (y 7), .ref (y 8), .ref (y 9), .int (iI st), .int (iI pe), .int (iI dr), .int (iI lf), .int (iI rt), .int (iI ra), .ref (y 10), .ref (y 11), .int (iI dp), .ref (y 12), .ref (y 13), .int (iI ov), .ref (y 14), .int (iI bs), .int (iI bo), .int (iI mo), .int (iI su)])), ((y 4), .inl (k.1, 620, .inl (iF (up G i 0)))), ((y 6), .inl (k.1, 301, .inl (iF ss))), ((y 7), .inl (k.1, 301, .inl (iF hs))), ((y 8), .inl (k.1, 301, .inl (iF rc)))] H := hP
        have hD : va_D A [((y 0), .inr (4, [.int (iI thr), .int (iI n), .ref (y 1), .ref (y 2), .ref (y 3), .ref (y 4), .ref (y 5), .ref (y 6), .ref (y 7), .ref (y 8), .ref (y 9), .int (iI st), .int (iI pe), .int (iI dr), .int (iI lf), .int (iI rt), .int (iI ra), .ref (y 10), .ref (y 11), .int (iI dp), .ref (y 12), .ref (y 13), .int (iI ov), .ref (y 14), .int (iI bs), .int (iI bo), .int (iI mo), .int (iI su)])), ((y 4), .inl (k.1, 620, .inl (iF (up G i 0)))), ((y 6), .inl (k.1, 301, .inl (iF ss))), ((y 7), .inl (k.1, 301, .inl (iF hs))), ((y 8), .inl (k.1, 301, .inl (iF rc)))] := hD
        refine ri_iinc (x := i) (lv' := [(1, .int (iI (i + 1))), (0, .ref (y 0))]) hx hb dX4_begin_16 hl (k := 1) rfl (by decide) rfl (fun ls hl => ?_)
        refine lv_goto (tgt := 2) hx hb dX4_begin_19 (by decide) ?_
        exact ih (i + 1) (up G i 0) (by omega) (by omega) (fun j h1 h2 => by by_cases q : j = i; rw [q, up_s]; rw [up_n q]; exact hG j h1 (by omega)) _ (lv_sub hl [1, 0] rfl) _ _ hP hD hS
  exact J2 ((620 - 0 : Int).toNat.succ) 0 T (by omega) (by omega) (fun j h1 h2 => absurd h2 (by omega)) _ (lv_sub hl [1, 0] rfl) _ _ hP hD hS

set_option maxHeartbeats 4000000 in
set_option maxRecDepth 100000 in
theorem r_step (l : Launch) (g : va_G) (k : kT) (y : Nat → Nat) (ca : Nat) (thr n pe dr ra dp ov bs bo mo su : Int) (ss hs rc ch cs : Int → Int) (sz : Nat) (kk : Nat) (hk : kk < 300) (hc : okC cs) (hal : alive cs kk) (hRp : RpM cs kk ss hs rc ch) : cI l yX4_step wsX4_step rm_0 g k [yO y thr n (kk : Int) pe dr (sL cs kk) (sU cs kk) ra dp ov bs bo mo su, ((y 4), .inl (k.1, 620, .inl (iF (tpM (sT cs kk))))), ((y 6), .inl (k.1, 301, .inl (iF ss))), ((y 7), .inl (k.1, 301, .inl (iF hs))), ((y 8), .inl (k.1, 301, .inl (iF rc))), ((y 9), .inl (k.1, 301, .inl (iF ch))), (ca, .inl (k.1, 8, .inl (iF cs)))] sz [.ref (y 0), .ref ca] 0 0 (fun u : va_W => u) (fun r u => (r = iI 1 ∧ 0 ≤ zc cs kk ∧ u = [yO y thr n ((kk + 1 : Nat) : Int) pe dr (sL cs (kk + 1)) (sU cs (kk + 1)) ra dp ov bs bo mo su, ((y 4), .inl (k.1, 620, .inl (iF (tpM (sT cs (kk + 1)))))), ((y 6), .inl (k.1, 301, .inl (iF (up ss ((kk + 1 : Nat) : Int) (sS cs (kk + 1)))))), ((y 7), .inl (k.1, 301, .inl (iF (up hs ((kk + 1 : Nat) : Int) (sH cs (kk + 1)))))), ((y 8), .inl (k.1, 301, .inl (iF (up rc ((kk + 1 : Nat) : Int) (sR cs (kk + 1)))))), ((y 9), .inl (k.1, 301, .inl (iF (up ch ((kk + 1 : Nat) : Int) (chG cs kk))))), (ca, .inl (k.1, 8, .inl (iF cs)))]) ∨ (r = iI 0 ∧ zc cs kk < 0 ∧ u = [yO y thr n ((kk + 1 : Nat) : Int) pe dr (sL cs kk) (sU cs kk) ra dp ov bs bo mo su, ((y 4), .inl (k.1, 620, .inl (iF (tpM (sT cs kk))))), ((y 6), .inl (k.1, 301, .inl (iF (up ss ((kk + 1 : Nat) : Int) (sS cs kk))))), ((y 7), .inl (k.1, 301, .inl (iF (up hs ((kk + 1 : Nat) : Int) (sH cs kk))))), ((y 8), .inl (k.1, 301, .inl (iF (up rc ((kk + 1 : Nat) : Int) 0)))), ((y 9), .inl (k.1, 301, .inl (iF (up ch ((kk + 1 : Nat) : Int) 0)))), (ca, .inl (k.1, 8, .inl (iF cs)))])) := by
  refine st_ZI (by decide) rfl (Nat.le_of_ble_eq_true rfl) ?_
  intro p e s m below meth c Q A hx hb hml hown hts hA hP hD hS hK hret ls hl
  have hown : s.vm.findClass RX4 = some m.cls := hown
  have f28 := hts (.fieldLink RX4 28 "MachineTreeModel" "heads" "[I") (by decide +kernel)
  have inX4 := (by decide +kernel : ∀ w ∈ wsX40, w ∈ wsX4_step)
  have f70 := hts (.fieldLink RX4 70 "MachineTreeModel" "steps" "I") (by decide +kernel)
  have f19 := hts (.fieldLink RX4 19 "MachineTreeModel" "tape" "[I") (by decide +kernel)
  have f25 := hts (.fieldLink RX4 25 "MachineTreeModel" "states" "[I") (by decide +kernel)
  have f34 := hts (.fieldLink RX4 34 "MachineTreeModel" "changed" "[I") (by decide +kernel)
  have f31 := hts (.fieldLink RX4 31 "MachineTreeModel" "records" "[I") (by decide +kernel)
  have f82 := hts (.fieldLink RX4 82 "MachineTreeModel" "right" "I") (by decide +kernel)
  have f79 := hts (.fieldLink RX4 79 "MachineTreeModel" "left" "I") (by decide +kernel)
  have hl : lv_has ls 6 [(0, .ref (y 0)), (1, .ref ca)] := hl
  obtain ⟨H, hH⟩ : ∃ H, H = s.heap := ⟨_, rfl⟩
  obtain ⟨locs, hlo⟩ : ∃ L : List Loc, L = [] := ⟨_, rfl⟩
  rw [← hH] at hP
  have hS : va_S A s.heap H locs := by rw [hH, hlo]; exact hS
  rw [show W p l e rm_0 s m ([.ref (y 0), .ref ca] : List Value).toArray below meth c s.heap [] 0 0 Q (F0 m 0 ls []) = W p l e rm_0 s m ([.ref (y 0), .ref ca] : List Value).toArray below meth c H locs 0 0 Q (F0 m 0 ls []) by rw [hH, hlo]]
  clear hH hlo
  have rp := hRp kk (Nat.le_refl kk)
  have b1 := sH_b cs kk
  have b2 := sS_b hc kk hal
  have b3 := sT_01 cs kk (sH cs kk)
  have b4 := zc_b hc hal
  have b5 := sLU cs kk
  have b6 := sH_b cs (kk + 1)
  refine lv_aload_n hx hb dX4_step_0 rfl (lv_at hl 0 rfl) ?_
  refine va_get (D := g) (ci := 4) (v := .ref (y 7)) (C := RX4) (T := TX4) (N := 28) hx hb hts inX4 hown hK.1 hP 0 rfl rfl 8 (by decide) f28 (fun _ h9 => h9) rfl dX4_step_1 ?_
  refine lv_aload_n hx hb dX4_step_4 rfl (lv_at hl 0 rfl) ?_
  refine va_get (D := g) (ci := 4) (v := .int (iI (kk : Int))) (C := RX4) (T := TX4) (N := 28) hx hb hts inX4 hown hK.1 hP 0 rfl rfl 11 (by decide) f70 (fun _ h9 => h9) rfl dX4_step_5 ?_
  refine ri_iald (F := hs) (i := (kk : Int)) hx hb hK.1 hP 3 0 rfl rfl (by omega) (by omega) dX4_step_8 ?_
  refine ri_ex (b := (sH cs kk)) rp.2.1 ?_
  refine lv_istore_n (lv' := [(2, .int (iI (sH cs kk))), (0, .ref (y 0)), (1, .ref ca)]) hx hb dX4_step_9 rfl hl (by decide) rfl (fun ls hl => ?_)
  refine lv_aload_n hx hb dX4_step_10 rfl (lv_at hl 1 rfl) ?_
  refine va_get (D := g) (ci := 4) (v := .ref (y 4)) (C := RX4) (T := TX4) (N := 28) hx hb hts inX4 hown hK.1 hP 0 rfl rfl 5 (by decide) f19 (fun _ h9 => h9) rfl dX4_step_11 ?_
  refine lv_sipush (v := iI 310) hx hb dX4_step_14 (by decide) ?_
  refine lv_iload_n hx hb dX4_step_17 rfl (lv_at hl 0 rfl) ?_
  refine ri_iadd (a := 310) (b := (sH cs kk)) hx hb dX4_step_18 ?_
  refine ri_iald (F := (tpM (sT cs kk))) (i := (310 + (sH cs kk))) hx hb hK.1 hP 1 0 rfl rfl (by omega) (by omega) dX4_step_19 ?_
  refine ri_ex (b := (sT cs kk (sH cs kk))) (by unfold tpM; congr 1; omega) ?_
  refine lv_istore_n (lv' := [(3, .int (iI (sT cs kk (sH cs kk)))), (2, .int (iI (sH cs kk))), (0, .ref (y 0)), (1, .ref ca)]) hx hb dX4_step_20 rfl hl (by decide) rfl (fun ls hl => ?_)
  refine lv_aload_n hx hb dX4_step_21 rfl (lv_at hl 3 rfl) ?_
  refine lv_iconst (v := iI 2) hx hb dX4_step_22 rfl ?_
  refine lv_aload_n hx hb dX4_step_23 rfl (lv_at hl 2 rfl) ?_
  refine va_get (D := g) (ci := 4) (v := .ref (y 6)) (C := RX4) (T := TX4) (N := 28) hx hb hts inX4 hown hK.1 hP 0 rfl rfl 7 (by decide) f25 (fun _ h9 => h9) rfl dX4_step_24 ?_
  refine lv_aload_n hx hb dX4_step_27 rfl (lv_at hl 2 rfl) ?_
  refine va_get (D := g) (ci := 4) (v := .int (iI (kk : Int))) (C := RX4) (T := TX4) (N := 28) hx hb hts inX4 hown hK.1 hP 0 rfl rfl 11 (by decide) f70 (fun _ h9 => h9) rfl dX4_step_28 ?_
  refine ri_iald (F := ss) (i := (kk : Int)) hx hb hK.1 hP 2 0 rfl rfl (by omega) (by omega) dX4_step_31 ?_
  refine ri_ex (b := (sS cs kk)) rp.1 ?_
  refine ri_imul (a := 2) (b := (sS cs kk)) hx hb dX4_step_32 ?_
  refine lv_iload_n hx hb dX4_step_33 rfl (lv_at hl 0 rfl) ?_
  refine ri_iadd (a := (2 * (sS cs kk))) (b := (sT cs kk (sH cs kk))) hx hb dX4_step_34 ?_
  refine ri_iald (F := cs) (i := ((2 * (sS cs kk)) + (sT cs kk (sH cs kk)))) hx hb hK.1 hP 6 0 rfl rfl (by omega) (by omega) dX4_step_35 ?_
  refine ri_ex (b := (zc cs kk)) rfl ?_
  refine lv_istore (lv' := [(4, .int (iI (zc cs kk))), (3, .int (iI (sT cs kk (sH cs kk)))), (2, .int (iI (sH cs kk))), (0, .ref (y 0)), (1, .ref ca)]) hx hb dX4_step_36 hl (by decide) rfl (fun ls hl => ?_)
  refine lv_aload_n hx hb dX4_step_38 rfl (lv_at hl 3 rfl) ?_
  refine lv_dup hx hb dX4_step_39 rfl ?_
  refine va_get (D := g) (ci := 4) (v := .int (iI (kk : Int))) (C := RX4) (T := TX4) (N := 28) hx hb hts inX4 hown hK.1 hP 0 rfl rfl 11 (by decide) f70 (fun _ h9 => h9) rfl dX4_step_40 ?_
  refine lv_iconst (v := iI 1) hx hb dX4_step_43 rfl ?_
  refine ri_iadd (a := (kk : Int)) (b := 1) hx hb dX4_step_44 ?_
  refine ri_ex (b := ((kk + 1 : Nat) : Int)) (by omega) ?_
  refine va_put (D := g) (ci := 4) (v := .int (iI ((kk + 1 : Nat) : Int))) (ty := .int) (C := RX4) (T := TX4) (N := 28) hx hb hts inX4 tyX4 tyX4_ok nmX4 hown hK.1 hP hD hS 0 rfl rfl 11 (by decide) f70 (fun _ h9 => h9) rfl (by decide +kernel) rfl rfl (Nat.le_of_ble_eq_true rfl) dX4_step_45 (fun H locs hP hD hS => ?_)
  have hP : va_P g vwCl [((y 0), .inr (4, [.int (iI thr), .int (iI n), .ref (y 1), .ref (y 2), .ref (y 3), .ref (y 4), .ref (y 5), .ref (y 6), .ref (y 7), .ref (y 8), .ref (y 9), .int (iI ((kk + 1 : Nat) : Int)), .int (iI pe), .int (iI dr), .int (iI (sL cs kk)), .int (iI (sU cs kk)), .int (iI ra), .ref (y 10), .ref (y 11), .int (iI dp), .ref (y 12), .ref (y 13), .int (iI ov), .ref (y 14), .int (iI bs), .int (iI bo), .int (iI mo), .int (iI su)])), ((y 4), .inl (k.1, 620, .inl (iF (tpM (sT cs kk))))), ((y 6), .inl (k.1, 301, .inl (iF ss))), ((y 7), .inl (k.1, 301, .inl (iF hs))), ((y 8), .inl (k.1, 301, .inl (iF rc))), ((y 9), .inl (k.1, 301, .inl (iF ch))), (ca, .inl (k.1, 8, .inl (iF cs)))] H := hP
  have hD : va_D A [((y 0), .inr (4, [.int (iI thr), .int (iI n), .ref (y 1), .ref (y 2), .ref (y 3), .ref (y 4), .ref (y 5), .ref (y 6), .ref (y 7), .ref (y 8), .ref (y 9), .int (iI ((kk + 1 : Nat) : Int)), .int (iI pe), .int (iI dr), .int (iI (sL cs kk)), .int (iI (sU cs kk)), .int (iI ra), .ref (y 10), .ref (y 11), .int (iI dp), .ref (y 12), .ref (y 13), .int (iI ov), .ref (y 14), .int (iI bs), .int (iI bo), .int (iI mo), .int (iI su)])), ((y 4), .inl (k.1, 620, .inl (iF (tpM (sT cs kk))))), ((y 6), .inl (k.1, 301, .inl (iF ss))), ((y 7), .inl (k.1, 301, .inl (iF hs))), ((y 8), .inl (k.1, 301, .inl (iF rc))), ((y 9), .inl (k.1, 301, .inl (iF ch))), (ca, .inl (k.1, 8, .inl (iF cs)))] := hD
  refine lv_aload_n hx hb dX4_step_48 rfl (lv_at hl 3 rfl) ?_
  refine va_get (D := g) (ci := 4) (v := .ref (y 6)) (C := RX4) (T := TX4) (N := 28) hx hb hts inX4 hown hK.1 hP 0 rfl rfl 7 (by decide) f25 (fun _ h9 => h9) rfl dX4_step_49 ?_
  refine lv_aload_n hx hb dX4_step_52 rfl (lv_at hl 3 rfl) ?_
  refine va_get (D := g) (ci := 4) (v := .int (iI ((kk + 1 : Nat) : Int))) (C := RX4) (T := TX4) (N := 28) hx hb hts inX4 hown hK.1 hP 0 rfl rfl 11 (by decide) f70 (fun _ h9 => h9) rfl dX4_step_53 ?_
  refine lv_iload hx hb dX4_step_56 (lv_at hl 0 rfl) ?_
  refine ri_if_ge (a := (zc cs kk)) (tgt := 75) hx hb (by omega) dX4_step_58 (by decide) (fun c58 => ?_) (fun c58 => ?_)
  · skip
    refine lv_iload hx hb dX4_step_75 (lv_at hl 0 rfl) ?_
    refine lv_iconst (v := iI 4) hx hb dX4_step_77 rfl ?_
    refine lv_idiv hx hb dX4_step_78 (by decide) ?_
    refine ri_top (iI_div (a := (zc cs kk)) (b := 4) (by omega) (by decide)) ?_
    refine ri_ex (b := (sS cs (kk + 1))) rfl ?_
    refine ri_iast (F := ss) (i := ((kk + 1 : Nat) : Int)) (x := (sS cs (kk + 1))) hx hb hK.1 hP hD hS 2 0 rfl rfl (by omega) (by omega) dX4_step_79 (fun H locs hP hD hS => ?_)
    have hP : va_P g vwCl [((y 0), .inr (4, [.int (iI thr), .int (iI n), .ref (y 1), .ref (y 2), .ref (y 3), .ref (y 4), .ref (y 5), .ref (y 6), .ref (y 7), .ref (y 8), .ref (y 9), .int (iI ((kk + 1 : Nat) : Int)), .int (iI pe), .int (iI dr), .int (iI (sL cs kk)), .int (iI (sU cs kk)), .int (iI ra), .ref (y 10), .ref (y 11), .int (iI dp), .ref (y 12), .ref (y 13), .int (iI ov), .ref (y 14), .int (iI bs), .int (iI bo), .int (iI mo), .int (iI su)])), ((y 4), .inl (k.1, 620, .inl (iF (tpM (sT cs kk))))), ((y 6), .inl (k.1, 301, .inl (iF (up ss ((kk + 1 : Nat) : Int) (sS cs (kk + 1)))))), ((y 7), .inl (k.1, 301, .inl (iF hs))), ((y 8), .inl (k.1, 301, .inl (iF rc))), ((y 9), .inl (k.1, 301, .inl (iF ch))), (ca, .inl (k.1, 8, .inl (iF cs)))] H := hP
    have hD : va_D A [((y 0), .inr (4, [.int (iI thr), .int (iI n), .ref (y 1), .ref (y 2), .ref (y 3), .ref (y 4), .ref (y 5), .ref (y 6), .ref (y 7), .ref (y 8), .ref (y 9), .int (iI ((kk + 1 : Nat) : Int)), .int (iI pe), .int (iI dr), .int (iI (sL cs kk)), .int (iI (sU cs kk)), .int (iI ra), .ref (y 10), .ref (y 11), .int (iI dp), .ref (y 12), .ref (y 13), .int (iI ov), .ref (y 14), .int (iI bs), .int (iI bo), .int (iI mo), .int (iI su)])), ((y 4), .inl (k.1, 620, .inl (iF (tpM (sT cs kk))))), ((y 6), .inl (k.1, 301, .inl (iF (up ss ((kk + 1 : Nat) : Int) (sS cs (kk + 1)))))), ((y 7), .inl (k.1, 301, .inl (iF hs))), ((y 8), .inl (k.1, 301, .inl (iF rc))), ((y 9), .inl (k.1, 301, .inl (iF ch))), (ca, .inl (k.1, 8, .inl (iF cs)))] := hD
    refine lv_aload_n hx hb dX4_step_80 rfl (lv_at hl 3 rfl) ?_
    refine va_get (D := g) (ci := 4) (v := .ref (y 7)) (C := RX4) (T := TX4) (N := 28) hx hb hts inX4 hown hK.1 hP 0 rfl rfl 8 (by decide) f28 (fun _ h9 => h9) rfl dX4_step_81 ?_
    refine lv_aload_n hx hb dX4_step_84 rfl (lv_at hl 3 rfl) ?_
    refine va_get (D := g) (ci := 4) (v := .int (iI ((kk + 1 : Nat) : Int))) (C := RX4) (T := TX4) (N := 28) hx hb hts inX4 hown hK.1 hP 0 rfl rfl 11 (by decide) f70 (fun _ h9 => h9) rfl dX4_step_85 ?_
    refine lv_iload hx hb dX4_step_88 (lv_at hl 0 rfl) ?_
    refine ri_if_ge (a := (zc cs kk)) (tgt := 97) hx hb (by omega) dX4_step_90 (by decide) (fun c90 => ?_) (fun c90 => ?_)
    · skip
      have J113 : ∀ (x : Int),  (x = (sH cs (kk + 1))) → ∀ (ls : Array Slot), lv_has ls 6 [(0, .ref (y 0)), (1, .ref ca), (2, .int (iI (sH cs kk))), (3, .int (iI (sT cs kk (sH cs kk)))), (4, .int (iI (zc cs kk)))] → W p l e rm_0 s m ([.ref (y 0), .ref ca] : List Value).toArray below meth c H locs 0 0 Q (F0 m 113 ls [.int (iI x), .int (iI ((kk + 1 : Nat) : Int)), .ref (y 7)]) := by
        intro x hx9 ls hl
        rw [hx9]
        refine ri_iast (F := hs) (i := ((kk + 1 : Nat) : Int)) (x := (sH cs (kk + 1))) hx hb hK.1 hP hD hS 3 0 rfl rfl (by omega) (by omega) dX4_step_113 (fun H locs hP hD hS => ?_)
        have hP : va_P g vwCl [((y 0), .inr (4, [.int (iI thr), .int (iI n), .ref (y 1), .ref (y 2), .ref (y 3), .ref (y 4), .ref (y 5), .ref (y 6), .ref (y 7), .ref (y 8), .ref (y 9), .int (iI ((kk + 1 : Nat) : Int)), .int (iI pe), .int (iI dr), .int (iI (sL cs kk)), .int (iI (sU cs kk)), .int (iI ra), .ref (y 10), .ref (y 11), .int (iI dp), .ref (y 12), .ref (y 13), .int (iI ov), .ref (y 14), .int (iI bs), .int (iI bo), .int (iI mo), .int (iI su)])), ((y 4), .inl (k.1, 620, .inl (iF (tpM (sT cs kk))))), ((y 6), .inl (k.1, 301, .inl (iF (up ss ((kk + 1 : Nat) : Int) (sS cs (kk + 1)))))), ((y 7), .inl (k.1, 301, .inl (iF (up hs ((kk + 1 : Nat) : Int) (sH cs (kk + 1)))))), ((y 8), .inl (k.1, 301, .inl (iF rc))), ((y 9), .inl (k.1, 301, .inl (iF ch))), (ca, .inl (k.1, 8, .inl (iF cs)))] H := hP
        have hD : va_D A [((y 0), .inr (4, [.int (iI thr), .int (iI n), .ref (y 1), .ref (y 2), .ref (y 3), .ref (y 4), .ref (y 5), .ref (y 6), .ref (y 7), .ref (y 8), .ref (y 9), .int (iI ((kk + 1 : Nat) : Int)), .int (iI pe), .int (iI dr), .int (iI (sL cs kk)), .int (iI (sU cs kk)), .int (iI ra), .ref (y 10), .ref (y 11), .int (iI dp), .ref (y 12), .ref (y 13), .int (iI ov), .ref (y 14), .int (iI bs), .int (iI bo), .int (iI mo), .int (iI su)])), ((y 4), .inl (k.1, 620, .inl (iF (tpM (sT cs kk))))), ((y 6), .inl (k.1, 301, .inl (iF (up ss ((kk + 1 : Nat) : Int) (sS cs (kk + 1)))))), ((y 7), .inl (k.1, 301, .inl (iF (up hs ((kk + 1 : Nat) : Int) (sH cs (kk + 1)))))), ((y 8), .inl (k.1, 301, .inl (iF rc))), ((y 9), .inl (k.1, 301, .inl (iF ch))), (ca, .inl (k.1, 8, .inl (iF cs)))] := hD
        refine lv_aload_n hx hb dX4_step_114 rfl (lv_at hl 0 rfl) ?_
        refine va_get (D := g) (ci := 4) (v := .ref (y 9)) (C := RX4) (T := TX4) (N := 28) hx hb hts inX4 hown hK.1 hP 0 rfl rfl 10 (by decide) f34 (fun _ h9 => h9) rfl dX4_step_115 ?_
        refine lv_aload_n hx hb dX4_step_118 rfl (lv_at hl 0 rfl) ?_
        refine va_get (D := g) (ci := 4) (v := .int (iI ((kk + 1 : Nat) : Int))) (C := RX4) (T := TX4) (N := 28) hx hb hts inX4 hown hK.1 hP 0 rfl rfl 11 (by decide) f70 (fun _ h9 => h9) rfl dX4_step_119 ?_
        refine lv_iload hx hb dX4_step_122 (lv_at hl 4 rfl) ?_
        refine ri_if_lt (a := (zc cs kk)) (tgt := 143) hx hb (by omega) dX4_step_124 (by decide) (fun c124 => ?_) (fun c124 => ?_)
        · exact absurd c124 (by omega)
        · skip
          have J144 : ∀ (x : Int),  (x = (chG cs kk)) → ∀ (ls : Array Slot), lv_has ls 6 [(0, .ref (y 0)), (1, .ref ca), (2, .int (iI (sH cs kk))), (3, .int (iI (sT cs kk (sH cs kk)))), (4, .int (iI (zc cs kk)))] → W p l e rm_0 s m ([.ref (y 0), .ref ca] : List Value).toArray below meth c H locs 0 0 Q (F0 m 144 ls [.int (iI x), .int (iI ((kk + 1 : Nat) : Int)), .ref (y 9)]) := by
            intro x hx9c ls hl
            rw [hx9c]
            refine ri_iast (F := ch) (i := ((kk + 1 : Nat) : Int)) (x := (chG cs kk)) hx hb hK.1 hP hD hS 5 0 rfl rfl (by omega) (by omega) dX4_step_144 (fun H locs hP hD hS => ?_)
            have hP : va_P g vwCl [((y 0), .inr (4, [.int (iI thr), .int (iI n), .ref (y 1), .ref (y 2), .ref (y 3), .ref (y 4), .ref (y 5), .ref (y 6), .ref (y 7), .ref (y 8), .ref (y 9), .int (iI ((kk + 1 : Nat) : Int)), .int (iI pe), .int (iI dr), .int (iI (sL cs kk)), .int (iI (sU cs kk)), .int (iI ra), .ref (y 10), .ref (y 11), .int (iI dp), .ref (y 12), .ref (y 13), .int (iI ov), .ref (y 14), .int (iI bs), .int (iI bo), .int (iI mo), .int (iI su)])), ((y 4), .inl (k.1, 620, .inl (iF (tpM (sT cs kk))))), ((y 6), .inl (k.1, 301, .inl (iF (up ss ((kk + 1 : Nat) : Int) (sS cs (kk + 1)))))), ((y 7), .inl (k.1, 301, .inl (iF (up hs ((kk + 1 : Nat) : Int) (sH cs (kk + 1)))))), ((y 8), .inl (k.1, 301, .inl (iF rc))), ((y 9), .inl (k.1, 301, .inl (iF (up ch ((kk + 1 : Nat) : Int) (chG cs kk))))), (ca, .inl (k.1, 8, .inl (iF cs)))] H := hP
            have hD : va_D A [((y 0), .inr (4, [.int (iI thr), .int (iI n), .ref (y 1), .ref (y 2), .ref (y 3), .ref (y 4), .ref (y 5), .ref (y 6), .ref (y 7), .ref (y 8), .ref (y 9), .int (iI ((kk + 1 : Nat) : Int)), .int (iI pe), .int (iI dr), .int (iI (sL cs kk)), .int (iI (sU cs kk)), .int (iI ra), .ref (y 10), .ref (y 11), .int (iI dp), .ref (y 12), .ref (y 13), .int (iI ov), .ref (y 14), .int (iI bs), .int (iI bo), .int (iI mo), .int (iI su)])), ((y 4), .inl (k.1, 620, .inl (iF (tpM (sT cs kk))))), ((y 6), .inl (k.1, 301, .inl (iF (up ss ((kk + 1 : Nat) : Int) (sS cs (kk + 1)))))), ((y 7), .inl (k.1, 301, .inl (iF (up hs ((kk + 1 : Nat) : Int) (sH cs (kk + 1)))))), ((y 8), .inl (k.1, 301, .inl (iF rc))), ((y 9), .inl (k.1, 301, .inl (iF (up ch ((kk + 1 : Nat) : Int) (chG cs kk))))), (ca, .inl (k.1, 8, .inl (iF cs)))] := hD
            refine lv_iload hx hb dX4_step_145 (lv_at hl 4 rfl) ?_
            refine ri_if_lt (a := (zc cs kk)) (tgt := 164) hx hb (by omega) dX4_step_147 (by decide) (fun c147 => ?_) (fun c147 => ?_)
            · exact absurd c147 (by omega)
            · skip
              refine lv_aload_n hx hb dX4_step_150 rfl (lv_at hl 0 rfl) ?_
              refine va_get (D := g) (ci := 4) (v := .ref (y 4)) (C := RX4) (T := TX4) (N := 28) hx hb hts inX4 hown hK.1 hP 0 rfl rfl 5 (by decide) f19 (fun _ h9 => h9) rfl dX4_step_151 ?_
              refine lv_sipush (v := iI 310) hx hb dX4_step_154 (by decide) ?_
              refine lv_iload_n hx hb dX4_step_157 rfl (lv_at hl 2 rfl) ?_
              refine ri_iadd (a := 310) (b := (sH cs kk)) hx hb dX4_step_158 ?_
              refine lv_iload hx hb dX4_step_159 (lv_at hl 4 rfl) ?_
              refine lv_iconst (v := iI 1) hx hb dX4_step_161 rfl ?_
              refine ri_and1 (a := (zc cs kk)) (b := 1) hx hb (by omega) 1 (by decide) dX4_step_162 ?_
              refine ri_ex (b := ((zc cs kk) % 2)) (by first | rfl | simp | omega) ?_
              refine ri_iast (F := (tpM (sT cs kk))) (i := (310 + (sH cs kk))) (x := ((zc cs kk) % 2)) hx hb hK.1 hP hD hS 1 0 rfl rfl (by omega) (by omega) dX4_step_163 (fun H locs hP hD hS => ?_)
              have hP : va_P g vwCl [((y 0), .inr (4, [.int (iI thr), .int (iI n), .ref (y 1), .ref (y 2), .ref (y 3), .ref (y 4), .ref (y 5), .ref (y 6), .ref (y 7), .ref (y 8), .ref (y 9), .int (iI ((kk + 1 : Nat) : Int)), .int (iI pe), .int (iI dr), .int (iI (sL cs kk)), .int (iI (sU cs kk)), .int (iI ra), .ref (y 10), .ref (y 11), .int (iI dp), .ref (y 12), .ref (y 13), .int (iI ov), .ref (y 14), .int (iI bs), .int (iI bo), .int (iI mo), .int (iI su)])), ((y 4), .inl (k.1, 620, .inl (iF (up (tpM (sT cs kk)) (310 + (sH cs kk)) ((zc cs kk) % 2))))), ((y 6), .inl (k.1, 301, .inl (iF (up ss ((kk + 1 : Nat) : Int) (sS cs (kk + 1)))))), ((y 7), .inl (k.1, 301, .inl (iF (up hs ((kk + 1 : Nat) : Int) (sH cs (kk + 1)))))), ((y 8), .inl (k.1, 301, .inl (iF rc))), ((y 9), .inl (k.1, 301, .inl (iF (up ch ((kk + 1 : Nat) : Int) (chG cs kk))))), (ca, .inl (k.1, 8, .inl (iF cs)))] H := hP
              have hD : va_D A [((y 0), .inr (4, [.int (iI thr), .int (iI n), .ref (y 1), .ref (y 2), .ref (y 3), .ref (y 4), .ref (y 5), .ref (y 6), .ref (y 7), .ref (y 8), .ref (y 9), .int (iI ((kk + 1 : Nat) : Int)), .int (iI pe), .int (iI dr), .int (iI (sL cs kk)), .int (iI (sU cs kk)), .int (iI ra), .ref (y 10), .ref (y 11), .int (iI dp), .ref (y 12), .ref (y 13), .int (iI ov), .ref (y 14), .int (iI bs), .int (iI bo), .int (iI mo), .int (iI su)])), ((y 4), .inl (k.1, 620, .inl (iF (up (tpM (sT cs kk)) (310 + (sH cs kk)) ((zc cs kk) % 2))))), ((y 6), .inl (k.1, 301, .inl (iF (up ss ((kk + 1 : Nat) : Int) (sS cs (kk + 1)))))), ((y 7), .inl (k.1, 301, .inl (iF (up hs ((kk + 1 : Nat) : Int) (sH cs (kk + 1)))))), ((y 8), .inl (k.1, 301, .inl (iF rc))), ((y 9), .inl (k.1, 301, .inl (iF (up ch ((kk + 1 : Nat) : Int) (chG cs kk))))), (ca, .inl (k.1, 8, .inl (iF cs)))] := hD
              refine lv_aload_n hx hb dX4_step_164 rfl (lv_at hl 0 rfl) ?_
              refine va_get (D := g) (ci := 4) (v := .ref (y 7)) (C := RX4) (T := TX4) (N := 28) hx hb hts inX4 hown hK.1 hP 0 rfl rfl 8 (by decide) f28 (fun _ h9 => h9) rfl dX4_step_165 ?_
              refine lv_aload_n hx hb dX4_step_168 rfl (lv_at hl 0 rfl) ?_
              refine va_get (D := g) (ci := 4) (v := .int (iI ((kk + 1 : Nat) : Int))) (C := RX4) (T := TX4) (N := 28) hx hb hts inX4 hown hK.1 hP 0 rfl rfl 11 (by decide) f70 (fun _ h9 => h9) rfl dX4_step_169 ?_
              refine ri_iald (F := (up hs ((kk + 1 : Nat) : Int) (sH cs (kk + 1)))) (i := ((kk + 1 : Nat) : Int)) hx hb hK.1 hP 3 0 rfl rfl (by omega) (by omega) dX4_step_172 ?_
              refine ri_ex (b := (sH cs (kk + 1))) up_s ?_
              refine lv_istore (lv' := [(5, .int (iI (sH cs (kk + 1)))), (0, .ref (y 0)), (1, .ref ca), (2, .int (iI (sH cs kk))), (3, .int (iI (sT cs kk (sH cs kk)))), (4, .int (iI (zc cs kk)))]) hx hb dX4_step_173 hl (by decide) rfl (fun ls hl => ?_)
              refine lv_aload_n hx hb dX4_step_175 rfl (lv_at hl 1 rfl) ?_
              refine va_get (D := g) (ci := 4) (v := .ref (y 8)) (C := RX4) (T := TX4) (N := 28) hx hb hts inX4 hown hK.1 hP 0 rfl rfl 9 (by decide) f31 (fun _ h9 => h9) rfl dX4_step_176 ?_
              refine lv_aload_n hx hb dX4_step_179 rfl (lv_at hl 1 rfl) ?_
              refine va_get (D := g) (ci := 4) (v := .int (iI ((kk + 1 : Nat) : Int))) (C := RX4) (T := TX4) (N := 28) hx hb hts inX4 hown hK.1 hP 0 rfl rfl 11 (by decide) f70 (fun _ h9 => h9) rfl dX4_step_180 ?_
              have J210 : ∀ (x : Int),  (x = (sR cs (kk + 1))) → ∀ (ls : Array Slot), lv_has ls 6 [(0, .ref (y 0)), (1, .ref ca), (2, .int (iI (sH cs kk))), (3, .int (iI (sT cs kk (sH cs kk)))), (4, .int (iI (zc cs kk))), (5, .int (iI (sH cs (kk + 1))))] → W p l e rm_0 s m ([.ref (y 0), .ref ca] : List Value).toArray below meth c H locs 0 0 Q (F0 m 210 ls [.int (iI x), .int (iI ((kk + 1 : Nat) : Int)), .ref (y 8)]) := by
                intro x hx9r ls hl
                rw [hx9r]
                refine ri_iast (F := rc) (i := ((kk + 1 : Nat) : Int)) (x := (sR cs (kk + 1))) hx hb hK.1 hP hD hS 4 0 rfl rfl (by omega) (by omega) dX4_step_210 (fun H locs hP hD hS => ?_)
                have hP : va_P g vwCl [((y 0), .inr (4, [.int (iI thr), .int (iI n), .ref (y 1), .ref (y 2), .ref (y 3), .ref (y 4), .ref (y 5), .ref (y 6), .ref (y 7), .ref (y 8), .ref (y 9), .int (iI ((kk + 1 : Nat) : Int)), .int (iI pe), .int (iI dr), .int (iI (sL cs kk)), .int (iI (sU cs kk)), .int (iI ra), .ref (y 10), .ref (y 11), .int (iI dp), .ref (y 12), .ref (y 13), .int (iI ov), .ref (y 14), .int (iI bs), .int (iI bo), .int (iI mo), .int (iI su)])), ((y 4), .inl (k.1, 620, .inl (iF (up (tpM (sT cs kk)) (310 + (sH cs kk)) ((zc cs kk) % 2))))), ((y 6), .inl (k.1, 301, .inl (iF (up ss ((kk + 1 : Nat) : Int) (sS cs (kk + 1)))))), ((y 7), .inl (k.1, 301, .inl (iF (up hs ((kk + 1 : Nat) : Int) (sH cs (kk + 1)))))), ((y 8), .inl (k.1, 301, .inl (iF (up rc ((kk + 1 : Nat) : Int) (sR cs (kk + 1)))))), ((y 9), .inl (k.1, 301, .inl (iF (up ch ((kk + 1 : Nat) : Int) (chG cs kk))))), (ca, .inl (k.1, 8, .inl (iF cs)))] H := hP
                have hD : va_D A [((y 0), .inr (4, [.int (iI thr), .int (iI n), .ref (y 1), .ref (y 2), .ref (y 3), .ref (y 4), .ref (y 5), .ref (y 6), .ref (y 7), .ref (y 8), .ref (y 9), .int (iI ((kk + 1 : Nat) : Int)), .int (iI pe), .int (iI dr), .int (iI (sL cs kk)), .int (iI (sU cs kk)), .int (iI ra), .ref (y 10), .ref (y 11), .int (iI dp), .ref (y 12), .ref (y 13), .int (iI ov), .ref (y 14), .int (iI bs), .int (iI bo), .int (iI mo), .int (iI su)])), ((y 4), .inl (k.1, 620, .inl (iF (up (tpM (sT cs kk)) (310 + (sH cs kk)) ((zc cs kk) % 2))))), ((y 6), .inl (k.1, 301, .inl (iF (up ss ((kk + 1 : Nat) : Int) (sS cs (kk + 1)))))), ((y 7), .inl (k.1, 301, .inl (iF (up hs ((kk + 1 : Nat) : Int) (sH cs (kk + 1)))))), ((y 8), .inl (k.1, 301, .inl (iF (up rc ((kk + 1 : Nat) : Int) (sR cs (kk + 1)))))), ((y 9), .inl (k.1, 301, .inl (iF (up ch ((kk + 1 : Nat) : Int) (chG cs kk))))), (ca, .inl (k.1, 8, .inl (iF cs)))] := hD
                refine lv_aload_n hx hb dX4_step_211 rfl (lv_at hl 0 rfl) ?_
                have J230 : ∀ (x : Int),  (x = sU cs (kk + 1)) → ∀ (ls : Array Slot), lv_has ls 6 [(0, .ref (y 0)), (1, .ref ca), (2, .int (iI (sH cs kk))), (3, .int (iI (sT cs kk (sH cs kk)))), (4, .int (iI (zc cs kk))), (5, .int (iI (sH cs (kk + 1))))] → W p l e rm_0 s m ([.ref (y 0), .ref ca] : List Value).toArray below meth c H locs 0 0 Q (F0 m 230 ls [.int (iI x), .ref (y 0)]) := by
                  intro x hx9u ls hl
                  rw [hx9u]
                  refine va_put (D := g) (ci := 4) (v := .int (iI (sU cs (kk + 1)))) (ty := .int) (C := RX4) (T := TX4) (N := 28) hx hb hts inX4 tyX4 tyX4_ok nmX4 hown hK.1 hP hD hS 0 rfl rfl 15 (by decide) f82 (fun _ h9 => h9) rfl (by decide +kernel) rfl rfl (Nat.le_of_ble_eq_true rfl) dX4_step_230 (fun H locs hP hD hS => ?_)
                  have hP : va_P g vwCl [((y 0), .inr (4, [.int (iI thr), .int (iI n), .ref (y 1), .ref (y 2), .ref (y 3), .ref (y 4), .ref (y 5), .ref (y 6), .ref (y 7), .ref (y 8), .ref (y 9), .int (iI ((kk + 1 : Nat) : Int)), .int (iI pe), .int (iI dr), .int (iI (sL cs kk)), .int (iI (sU cs (kk + 1))), .int (iI ra), .ref (y 10), .ref (y 11), .int (iI dp), .ref (y 12), .ref (y 13), .int (iI ov), .ref (y 14), .int (iI bs), .int (iI bo), .int (iI mo), .int (iI su)])), ((y 4), .inl (k.1, 620, .inl (iF (up (tpM (sT cs kk)) (310 + (sH cs kk)) ((zc cs kk) % 2))))), ((y 6), .inl (k.1, 301, .inl (iF (up ss ((kk + 1 : Nat) : Int) (sS cs (kk + 1)))))), ((y 7), .inl (k.1, 301, .inl (iF (up hs ((kk + 1 : Nat) : Int) (sH cs (kk + 1)))))), ((y 8), .inl (k.1, 301, .inl (iF (up rc ((kk + 1 : Nat) : Int) (sR cs (kk + 1)))))), ((y 9), .inl (k.1, 301, .inl (iF (up ch ((kk + 1 : Nat) : Int) (chG cs kk))))), (ca, .inl (k.1, 8, .inl (iF cs)))] H := hP
                  have hD : va_D A [((y 0), .inr (4, [.int (iI thr), .int (iI n), .ref (y 1), .ref (y 2), .ref (y 3), .ref (y 4), .ref (y 5), .ref (y 6), .ref (y 7), .ref (y 8), .ref (y 9), .int (iI ((kk + 1 : Nat) : Int)), .int (iI pe), .int (iI dr), .int (iI (sL cs kk)), .int (iI (sU cs (kk + 1))), .int (iI ra), .ref (y 10), .ref (y 11), .int (iI dp), .ref (y 12), .ref (y 13), .int (iI ov), .ref (y 14), .int (iI bs), .int (iI bo), .int (iI mo), .int (iI su)])), ((y 4), .inl (k.1, 620, .inl (iF (up (tpM (sT cs kk)) (310 + (sH cs kk)) ((zc cs kk) % 2))))), ((y 6), .inl (k.1, 301, .inl (iF (up ss ((kk + 1 : Nat) : Int) (sS cs (kk + 1)))))), ((y 7), .inl (k.1, 301, .inl (iF (up hs ((kk + 1 : Nat) : Int) (sH cs (kk + 1)))))), ((y 8), .inl (k.1, 301, .inl (iF (up rc ((kk + 1 : Nat) : Int) (sR cs (kk + 1)))))), ((y 9), .inl (k.1, 301, .inl (iF (up ch ((kk + 1 : Nat) : Int) (chG cs kk))))), (ca, .inl (k.1, 8, .inl (iF cs)))] := hD
                  refine lv_aload_n hx hb dX4_step_233 rfl (lv_at hl 0 rfl) ?_
                  have J252 : ∀ (x : Int),  (x = sL cs (kk + 1)) → ∀ (ls : Array Slot), lv_has ls 6 [(0, .ref (y 0)), (1, .ref ca), (2, .int (iI (sH cs kk))), (3, .int (iI (sT cs kk (sH cs kk)))), (4, .int (iI (zc cs kk))), (5, .int (iI (sH cs (kk + 1))))] → W p l e rm_0 s m ([.ref (y 0), .ref ca] : List Value).toArray below meth c H locs 0 0 Q (F0 m 252 ls [.int (iI x), .ref (y 0)]) := by
                    intro x hx9l ls hl
                    rw [hx9l]
                    refine va_put (D := g) (ci := 4) (v := .int (iI (sL cs (kk + 1)))) (ty := .int) (C := RX4) (T := TX4) (N := 28) hx hb hts inX4 tyX4 tyX4_ok nmX4 hown hK.1 hP hD hS 0 rfl rfl 14 (by decide) f79 (fun _ h9 => h9) rfl (by decide +kernel) rfl rfl (Nat.le_of_ble_eq_true rfl) dX4_step_252 (fun H locs hP hD hS => ?_)
                    have hP : va_P g vwCl [((y 0), .inr (4, [.int (iI thr), .int (iI n), .ref (y 1), .ref (y 2), .ref (y 3), .ref (y 4), .ref (y 5), .ref (y 6), .ref (y 7), .ref (y 8), .ref (y 9), .int (iI ((kk + 1 : Nat) : Int)), .int (iI pe), .int (iI dr), .int (iI (sL cs (kk + 1))), .int (iI (sU cs (kk + 1))), .int (iI ra), .ref (y 10), .ref (y 11), .int (iI dp), .ref (y 12), .ref (y 13), .int (iI ov), .ref (y 14), .int (iI bs), .int (iI bo), .int (iI mo), .int (iI su)])), ((y 4), .inl (k.1, 620, .inl (iF (up (tpM (sT cs kk)) (310 + (sH cs kk)) ((zc cs kk) % 2))))), ((y 6), .inl (k.1, 301, .inl (iF (up ss ((kk + 1 : Nat) : Int) (sS cs (kk + 1)))))), ((y 7), .inl (k.1, 301, .inl (iF (up hs ((kk + 1 : Nat) : Int) (sH cs (kk + 1)))))), ((y 8), .inl (k.1, 301, .inl (iF (up rc ((kk + 1 : Nat) : Int) (sR cs (kk + 1)))))), ((y 9), .inl (k.1, 301, .inl (iF (up ch ((kk + 1 : Nat) : Int) (chG cs kk))))), (ca, .inl (k.1, 8, .inl (iF cs)))] H := hP
                    have hD : va_D A [((y 0), .inr (4, [.int (iI thr), .int (iI n), .ref (y 1), .ref (y 2), .ref (y 3), .ref (y 4), .ref (y 5), .ref (y 6), .ref (y 7), .ref (y 8), .ref (y 9), .int (iI ((kk + 1 : Nat) : Int)), .int (iI pe), .int (iI dr), .int (iI (sL cs (kk + 1))), .int (iI (sU cs (kk + 1))), .int (iI ra), .ref (y 10), .ref (y 11), .int (iI dp), .ref (y 12), .ref (y 13), .int (iI ov), .ref (y 14), .int (iI bs), .int (iI bo), .int (iI mo), .int (iI su)])), ((y 4), .inl (k.1, 620, .inl (iF (up (tpM (sT cs kk)) (310 + (sH cs kk)) ((zc cs kk) % 2))))), ((y 6), .inl (k.1, 301, .inl (iF (up ss ((kk + 1 : Nat) : Int) (sS cs (kk + 1)))))), ((y 7), .inl (k.1, 301, .inl (iF (up hs ((kk + 1 : Nat) : Int) (sH cs (kk + 1)))))), ((y 8), .inl (k.1, 301, .inl (iF (up rc ((kk + 1 : Nat) : Int) (sR cs (kk + 1)))))), ((y 9), .inl (k.1, 301, .inl (iF (up ch ((kk + 1 : Nat) : Int) (chG cs kk))))), (ca, .inl (k.1, 8, .inl (iF cs)))] := hD
                    refine lv_iload hx hb dX4_step_255 (lv_at hl 4 rfl) ?_
                    refine ri_if_lt (a := (zc cs kk)) (tgt := 264) hx hb (by omega) dX4_step_257 (by decide) (fun c257 => ?_) (fun c257 => ?_)
                    · exact absurd c257 (by omega)
                    · skip
                      refine lv_iconst (v := iI 1) hx hb dX4_step_260 rfl ?_
                      refine lv_goto (tgt := 265) hx hb dX4_step_261 (by decide) ?_
                      rw [tpM_up] at hP hD
                      exact hret 1 _ _ _ _ _ dX4_step_265 (by first | exact Or.inl rfl | exact Or.inr rfl | omega) (Or.inl ⟨rfl, by omega, rfl⟩) hP hD hS
                  refine lv_iload hx hb dX4_step_234 (lv_at hl 5 rfl) ?_
                  refine lv_aload_n hx hb dX4_step_236 rfl (lv_at hl 0 rfl) ?_
                  refine va_get (D := g) (ci := 4) (v := .int (iI (sL cs kk))) (C := RX4) (T := TX4) (N := 28) hx hb hts inX4 hown hK.1 hP 0 rfl rfl 14 (by decide) f79 (fun _ h9 => h9) rfl dX4_step_237 ?_
                  refine ri_icmp_ge (a := (sH cs (kk + 1))) (b := (sL cs kk)) (tgt := 248) hx hb (by omega) (by omega) dX4_step_240 (by decide) (fun c240 => ?_) (fun c240 => ?_)
                  · skip
                    refine lv_aload_n hx hb dX4_step_248 rfl (lv_at hl 0 rfl) ?_
                    refine va_get (D := g) (ci := 4) (v := .int (iI (sL cs kk))) (C := RX4) (T := TX4) (N := 28) hx hb hts inX4 hown hK.1 hP 0 rfl rfl 14 (by decide) f79 (fun _ h9 => h9) rfl dX4_step_249 ?_
                    exact J252 (sL cs kk) (by simp only [sL]; omega) _ (lv_sub hl [0, 1, 2, 3, 4, 5] rfl)
                  · skip
                    refine lv_iload hx hb dX4_step_243 (lv_at hl 5 rfl) ?_
                    refine lv_goto (tgt := 252) hx hb dX4_step_245 (by decide) ?_
                    exact J252 (sH cs (kk + 1)) (by simp only [sL]; omega) _ (lv_sub hl [0, 1, 2, 3, 4, 5] rfl)
                refine lv_iload hx hb dX4_step_212 (lv_at hl 5 rfl) ?_
                refine lv_aload_n hx hb dX4_step_214 rfl (lv_at hl 0 rfl) ?_
                refine va_get (D := g) (ci := 4) (v := .int (iI (sU cs kk))) (C := RX4) (T := TX4) (N := 28) hx hb hts inX4 hown hK.1 hP 0 rfl rfl 15 (by decide) f82 (fun _ h9 => h9) rfl dX4_step_215 ?_
                refine ri_icmp_le (a := (sH cs (kk + 1))) (b := (sU cs kk)) (tgt := 226) hx hb (by omega) (by omega) dX4_step_218 (by decide) (fun c218 => ?_) (fun c218 => ?_)
                · skip
                  refine lv_aload_n hx hb dX4_step_226 rfl (lv_at hl 0 rfl) ?_
                  refine va_get (D := g) (ci := 4) (v := .int (iI (sU cs kk))) (C := RX4) (T := TX4) (N := 28) hx hb hts inX4 hown hK.1 hP 0 rfl rfl 15 (by decide) f82 (fun _ h9 => h9) rfl dX4_step_227 ?_
                  exact J230 (sU cs kk) (by simp only [sU]; omega) _ (lv_sub hl [0, 1, 2, 3, 4, 5] rfl)
                · skip
                  refine lv_iload hx hb dX4_step_221 (lv_at hl 5 rfl) ?_
                  refine lv_goto (tgt := 230) hx hb dX4_step_223 (by decide) ?_
                  exact J230 (sH cs (kk + 1)) (by simp only [sU]; omega) _ (lv_sub hl [0, 1, 2, 3, 4, 5] rfl)
              refine lv_iload hx hb dX4_step_183 (lv_at hl 0 rfl) ?_
              refine lv_aload_n hx hb dX4_step_185 rfl (lv_at hl 1 rfl) ?_
              refine va_get (D := g) (ci := 4) (v := .int (iI (sU cs kk))) (C := RX4) (T := TX4) (N := 28) hx hb hts inX4 hown hK.1 hP 0 rfl rfl 15 (by decide) f82 (fun _ h9 => h9) rfl dX4_step_186 ?_
              refine ri_icmp_le (a := (sH cs (kk + 1))) (b := (sU cs kk)) (tgt := 196) hx hb (by omega) (by omega) dX4_step_189 (by decide) (fun c189 => ?_) (fun c189 => ?_)
              · skip
                refine lv_iload hx hb dX4_step_196 (lv_at hl 0 rfl) ?_
                refine lv_aload_n hx hb dX4_step_198 rfl (lv_at hl 1 rfl) ?_
                refine va_get (D := g) (ci := 4) (v := .int (iI (sL cs kk))) (C := RX4) (T := TX4) (N := 28) hx hb hts inX4 hown hK.1 hP 0 rfl rfl 14 (by decide) f79 (fun _ h9 => h9) rfl dX4_step_199 ?_
                refine ri_icmp_ge (a := (sH cs (kk + 1))) (b := (sL cs kk)) (tgt := 209) hx hb (by omega) (by omega) dX4_step_202 (by decide) (fun c202 => ?_) (fun c202 => ?_)
                · skip
                  refine lv_iconst (v := iI 0) hx hb dX4_step_209 rfl ?_
                  exact J210 0 (by simp only [sR]; rw [if_neg (by omega), if_neg (by omega)]) _ (lv_sub hl [1, 2, 3, 4, 5, 0] rfl)
                · skip
                  refine lv_iconst (v := iI (-1)) hx hb dX4_step_205 rfl ?_
                  refine lv_goto (tgt := 210) hx hb dX4_step_206 (by decide) ?_
                  exact J210 (-1) (by simp only [sR]; rw [if_neg (by omega), if_pos (by omega)]) _ (lv_sub hl [1, 2, 3, 4, 5, 0] rfl)
              · skip
                refine lv_iconst (v := iI 1) hx hb dX4_step_192 rfl ?_
                refine lv_goto (tgt := 210) hx hb dX4_step_193 (by decide) ?_
                exact J210 1 (by simp only [sR]; rw [if_pos (by omega)]) _ (lv_sub hl [1, 2, 3, 4, 5, 0] rfl)
          refine lv_iload hx hb dX4_step_127 (lv_at hl 4 rfl) ?_
          refine lv_iconst (v := iI 1) hx hb dX4_step_129 rfl ?_
          refine ri_and1 (a := (zc cs kk)) (b := 1) hx hb (by omega) 1 (by decide) dX4_step_130 ?_
          refine ri_ex (b := ((zc cs kk) % 2)) (by first | rfl | simp | omega) ?_
          refine lv_iload_n hx hb dX4_step_131 rfl (lv_at hl 3 rfl) ?_
          refine ri_icmp_eq (a := ((zc cs kk) % 2)) (b := (sT cs kk (sH cs kk))) (tgt := 143) hx hb (by omega) (by omega) dX4_step_132 (by decide) (fun c132 => ?_) (fun c132 => ?_)
          · skip
            refine lv_iconst (v := iI 0) hx hb dX4_step_143 rfl ?_
            exact J144 0 (by unfold chG; rw [if_pos (by omega)]) _ (lv_sub hl [0, 1, 2, 3, 4] rfl)
          · skip
            refine lv_sipush (v := iI 311) hx hb dX4_step_135 (by decide) ?_
            refine lv_iload_n hx hb dX4_step_138 rfl (lv_at hl 2 rfl) ?_
            refine ri_iadd (a := 311) (b := (sH cs kk)) hx hb dX4_step_139 ?_
            refine lv_goto (tgt := 144) hx hb dX4_step_140 (by decide) ?_
            exact J144 (311 + (sH cs kk)) (by unfold chG; rw [if_neg (by omega)]) _ (lv_sub hl [0, 1, 2, 3, 4] rfl)
      refine lv_iload hx hb dX4_step_97 (lv_at hl 0 rfl) ?_
      refine lv_iconst (v := iI 2) hx hb dX4_step_99 rfl ?_
      refine ri_and2 (a := (zc cs kk)) hx hb (by omega) dX4_step_100 ?_
      refine ri_if_eq (a := (2 * ((zc cs kk) / 2 % 2))) (tgt := 110) hx hb (by omega) dX4_step_101 (by decide) (fun c101 => ?_) (fun c101 => ?_)
      · skip
        refine lv_iload_n hx hb dX4_step_110 rfl (lv_at hl 2 rfl) ?_
        refine lv_iconst (v := iI 1) hx hb dX4_step_111 rfl ?_
        refine ri_isub (a := (sH cs kk)) (b := 1) hx hb dX4_step_112 ?_
        exact J113 ((sH cs kk) - 1) (by rw [sH_s, if_pos (by omega)]) _ (lv_sub hl [3, 4, 2, 1, 0] rfl)
      · skip
        refine lv_iload_n hx hb dX4_step_104 rfl (lv_at hl 2 rfl) ?_
        refine lv_iconst (v := iI 1) hx hb dX4_step_105 rfl ?_
        refine ri_iadd (a := (sH cs kk)) (b := 1) hx hb dX4_step_106 ?_
        refine lv_goto (tgt := 113) hx hb dX4_step_107 (by decide) ?_
        exact J113 ((sH cs kk) + 1) (by rw [sH_s, if_neg (by omega)]) _ (lv_sub hl [3, 4, 2, 1, 0] rfl)
    · exact absurd (by omega) c90
  · skip
    refine lv_aload_n hx hb dX4_step_61 rfl (lv_at hl 3 rfl) ?_
    refine va_get (D := g) (ci := 4) (v := .ref (y 6)) (C := RX4) (T := TX4) (N := 28) hx hb hts inX4 hown hK.1 hP 0 rfl rfl 7 (by decide) f25 (fun _ h9 => h9) rfl dX4_step_62 ?_
    refine lv_aload_n hx hb dX4_step_65 rfl (lv_at hl 3 rfl) ?_
    refine va_get (D := g) (ci := 4) (v := .int (iI ((kk + 1 : Nat) : Int))) (C := RX4) (T := TX4) (N := 28) hx hb hts inX4 hown hK.1 hP 0 rfl rfl 11 (by decide) f70 (fun _ h9 => h9) rfl dX4_step_66 ?_
    refine lv_iconst (v := iI 1) hx hb dX4_step_69 rfl ?_
    refine ri_isub (a := ((kk + 1 : Nat) : Int)) (b := 1) hx hb dX4_step_70 ?_
    refine ri_iald (F := ss) (i := (((kk + 1 : Nat) : Int) - 1)) hx hb hK.1 hP 2 0 rfl rfl (by omega) (by omega) dX4_step_71 ?_
    refine ri_ex (b := (sS cs kk)) (by rw [show ((kk + 1 : Nat) : Int) - 1 = (kk : Int) by omega]; exact rp.1) ?_
    refine lv_goto (tgt := 79) hx hb dX4_step_72 (by decide) ?_
    refine ri_iast (F := ss) (i := ((kk + 1 : Nat) : Int)) (x := (sS cs kk)) hx hb hK.1 hP hD hS 2 0 rfl rfl (by omega) (by omega) dX4_step_79 (fun H locs hP hD hS => ?_)
    have hP : va_P g vwCl [((y 0), .inr (4, [.int (iI thr), .int (iI n), .ref (y 1), .ref (y 2), .ref (y 3), .ref (y 4), .ref (y 5), .ref (y 6), .ref (y 7), .ref (y 8), .ref (y 9), .int (iI ((kk + 1 : Nat) : Int)), .int (iI pe), .int (iI dr), .int (iI (sL cs kk)), .int (iI (sU cs kk)), .int (iI ra), .ref (y 10), .ref (y 11), .int (iI dp), .ref (y 12), .ref (y 13), .int (iI ov), .ref (y 14), .int (iI bs), .int (iI bo), .int (iI mo), .int (iI su)])), ((y 4), .inl (k.1, 620, .inl (iF (tpM (sT cs kk))))), ((y 6), .inl (k.1, 301, .inl (iF (up ss ((kk + 1 : Nat) : Int) (sS cs kk))))), ((y 7), .inl (k.1, 301, .inl (iF hs))), ((y 8), .inl (k.1, 301, .inl (iF rc))), ((y 9), .inl (k.1, 301, .inl (iF ch))), (ca, .inl (k.1, 8, .inl (iF cs)))] H := hP
    have hD : va_D A [((y 0), .inr (4, [.int (iI thr), .int (iI n), .ref (y 1), .ref (y 2), .ref (y 3), .ref (y 4), .ref (y 5), .ref (y 6), .ref (y 7), .ref (y 8), .ref (y 9), .int (iI ((kk + 1 : Nat) : Int)), .int (iI pe), .int (iI dr), .int (iI (sL cs kk)), .int (iI (sU cs kk)), .int (iI ra), .ref (y 10), .ref (y 11), .int (iI dp), .ref (y 12), .ref (y 13), .int (iI ov), .ref (y 14), .int (iI bs), .int (iI bo), .int (iI mo), .int (iI su)])), ((y 4), .inl (k.1, 620, .inl (iF (tpM (sT cs kk))))), ((y 6), .inl (k.1, 301, .inl (iF (up ss ((kk + 1 : Nat) : Int) (sS cs kk))))), ((y 7), .inl (k.1, 301, .inl (iF hs))), ((y 8), .inl (k.1, 301, .inl (iF rc))), ((y 9), .inl (k.1, 301, .inl (iF ch))), (ca, .inl (k.1, 8, .inl (iF cs)))] := hD
    refine lv_aload_n hx hb dX4_step_80 rfl (lv_at hl 3 rfl) ?_
    refine va_get (D := g) (ci := 4) (v := .ref (y 7)) (C := RX4) (T := TX4) (N := 28) hx hb hts inX4 hown hK.1 hP 0 rfl rfl 8 (by decide) f28 (fun _ h9 => h9) rfl dX4_step_81 ?_
    refine lv_aload_n hx hb dX4_step_84 rfl (lv_at hl 3 rfl) ?_
    refine va_get (D := g) (ci := 4) (v := .int (iI ((kk + 1 : Nat) : Int))) (C := RX4) (T := TX4) (N := 28) hx hb hts inX4 hown hK.1 hP 0 rfl rfl 11 (by decide) f70 (fun _ h9 => h9) rfl dX4_step_85 ?_
    refine lv_iload hx hb dX4_step_88 (lv_at hl 0 rfl) ?_
    refine ri_if_ge (a := (zc cs kk)) (tgt := 97) hx hb (by omega) dX4_step_90 (by decide) (fun c90 => ?_) (fun c90 => ?_)
    · exact absurd c90 (by omega)
    · skip
      refine lv_iload_n hx hb dX4_step_93 rfl (lv_at hl 2 rfl) ?_
      refine lv_goto (tgt := 113) hx hb dX4_step_94 (by decide) ?_
      refine ri_iast (F := hs) (i := ((kk + 1 : Nat) : Int)) (x := (sH cs kk)) hx hb hK.1 hP hD hS 3 0 rfl rfl (by omega) (by omega) dX4_step_113 (fun H locs hP hD hS => ?_)
      have hP : va_P g vwCl [((y 0), .inr (4, [.int (iI thr), .int (iI n), .ref (y 1), .ref (y 2), .ref (y 3), .ref (y 4), .ref (y 5), .ref (y 6), .ref (y 7), .ref (y 8), .ref (y 9), .int (iI ((kk + 1 : Nat) : Int)), .int (iI pe), .int (iI dr), .int (iI (sL cs kk)), .int (iI (sU cs kk)), .int (iI ra), .ref (y 10), .ref (y 11), .int (iI dp), .ref (y 12), .ref (y 13), .int (iI ov), .ref (y 14), .int (iI bs), .int (iI bo), .int (iI mo), .int (iI su)])), ((y 4), .inl (k.1, 620, .inl (iF (tpM (sT cs kk))))), ((y 6), .inl (k.1, 301, .inl (iF (up ss ((kk + 1 : Nat) : Int) (sS cs kk))))), ((y 7), .inl (k.1, 301, .inl (iF (up hs ((kk + 1 : Nat) : Int) (sH cs kk))))), ((y 8), .inl (k.1, 301, .inl (iF rc))), ((y 9), .inl (k.1, 301, .inl (iF ch))), (ca, .inl (k.1, 8, .inl (iF cs)))] H := hP
      have hD : va_D A [((y 0), .inr (4, [.int (iI thr), .int (iI n), .ref (y 1), .ref (y 2), .ref (y 3), .ref (y 4), .ref (y 5), .ref (y 6), .ref (y 7), .ref (y 8), .ref (y 9), .int (iI ((kk + 1 : Nat) : Int)), .int (iI pe), .int (iI dr), .int (iI (sL cs kk)), .int (iI (sU cs kk)), .int (iI ra), .ref (y 10), .ref (y 11), .int (iI dp), .ref (y 12), .ref (y 13), .int (iI ov), .ref (y 14), .int (iI bs), .int (iI bo), .int (iI mo), .int (iI su)])), ((y 4), .inl (k.1, 620, .inl (iF (tpM (sT cs kk))))), ((y 6), .inl (k.1, 301, .inl (iF (up ss ((kk + 1 : Nat) : Int) (sS cs kk))))), ((y 7), .inl (k.1, 301, .inl (iF (up hs ((kk + 1 : Nat) : Int) (sH cs kk))))), ((y 8), .inl (k.1, 301, .inl (iF rc))), ((y 9), .inl (k.1, 301, .inl (iF ch))), (ca, .inl (k.1, 8, .inl (iF cs)))] := hD
      refine lv_aload_n hx hb dX4_step_114 rfl (lv_at hl 3 rfl) ?_
      refine va_get (D := g) (ci := 4) (v := .ref (y 9)) (C := RX4) (T := TX4) (N := 28) hx hb hts inX4 hown hK.1 hP 0 rfl rfl 10 (by decide) f34 (fun _ h9 => h9) rfl dX4_step_115 ?_
      refine lv_aload_n hx hb dX4_step_118 rfl (lv_at hl 3 rfl) ?_
      refine va_get (D := g) (ci := 4) (v := .int (iI ((kk + 1 : Nat) : Int))) (C := RX4) (T := TX4) (N := 28) hx hb hts inX4 hown hK.1 hP 0 rfl rfl 11 (by decide) f70 (fun _ h9 => h9) rfl dX4_step_119 ?_
      refine lv_iload hx hb dX4_step_122 (lv_at hl 0 rfl) ?_
      refine ri_if_lt (a := (zc cs kk)) (tgt := 143) hx hb (by omega) dX4_step_124 (by decide) (fun c124 => ?_) (fun c124 => ?_)
      · skip
        refine lv_iconst (v := iI 0) hx hb dX4_step_143 rfl ?_
        refine ri_iast (F := ch) (i := ((kk + 1 : Nat) : Int)) (x := 0) hx hb hK.1 hP hD hS 5 0 rfl rfl (by omega) (by omega) dX4_step_144 (fun H locs hP hD hS => ?_)
        have hP : va_P g vwCl [((y 0), .inr (4, [.int (iI thr), .int (iI n), .ref (y 1), .ref (y 2), .ref (y 3), .ref (y 4), .ref (y 5), .ref (y 6), .ref (y 7), .ref (y 8), .ref (y 9), .int (iI ((kk + 1 : Nat) : Int)), .int (iI pe), .int (iI dr), .int (iI (sL cs kk)), .int (iI (sU cs kk)), .int (iI ra), .ref (y 10), .ref (y 11), .int (iI dp), .ref (y 12), .ref (y 13), .int (iI ov), .ref (y 14), .int (iI bs), .int (iI bo), .int (iI mo), .int (iI su)])), ((y 4), .inl (k.1, 620, .inl (iF (tpM (sT cs kk))))), ((y 6), .inl (k.1, 301, .inl (iF (up ss ((kk + 1 : Nat) : Int) (sS cs kk))))), ((y 7), .inl (k.1, 301, .inl (iF (up hs ((kk + 1 : Nat) : Int) (sH cs kk))))), ((y 8), .inl (k.1, 301, .inl (iF rc))), ((y 9), .inl (k.1, 301, .inl (iF (up ch ((kk + 1 : Nat) : Int) 0)))), (ca, .inl (k.1, 8, .inl (iF cs)))] H := hP
        have hD : va_D A [((y 0), .inr (4, [.int (iI thr), .int (iI n), .ref (y 1), .ref (y 2), .ref (y 3), .ref (y 4), .ref (y 5), .ref (y 6), .ref (y 7), .ref (y 8), .ref (y 9), .int (iI ((kk + 1 : Nat) : Int)), .int (iI pe), .int (iI dr), .int (iI (sL cs kk)), .int (iI (sU cs kk)), .int (iI ra), .ref (y 10), .ref (y 11), .int (iI dp), .ref (y 12), .ref (y 13), .int (iI ov), .ref (y 14), .int (iI bs), .int (iI bo), .int (iI mo), .int (iI su)])), ((y 4), .inl (k.1, 620, .inl (iF (tpM (sT cs kk))))), ((y 6), .inl (k.1, 301, .inl (iF (up ss ((kk + 1 : Nat) : Int) (sS cs kk))))), ((y 7), .inl (k.1, 301, .inl (iF (up hs ((kk + 1 : Nat) : Int) (sH cs kk))))), ((y 8), .inl (k.1, 301, .inl (iF rc))), ((y 9), .inl (k.1, 301, .inl (iF (up ch ((kk + 1 : Nat) : Int) 0)))), (ca, .inl (k.1, 8, .inl (iF cs)))] := hD
        refine lv_iload hx hb dX4_step_145 (lv_at hl 0 rfl) ?_
        refine ri_if_lt (a := (zc cs kk)) (tgt := 164) hx hb (by omega) dX4_step_147 (by decide) (fun c147 => ?_) (fun c147 => ?_)
        · skip
          refine lv_aload_n hx hb dX4_step_164 rfl (lv_at hl 3 rfl) ?_
          refine va_get (D := g) (ci := 4) (v := .ref (y 7)) (C := RX4) (T := TX4) (N := 28) hx hb hts inX4 hown hK.1 hP 0 rfl rfl 8 (by decide) f28 (fun _ h9 => h9) rfl dX4_step_165 ?_
          refine lv_aload_n hx hb dX4_step_168 rfl (lv_at hl 3 rfl) ?_
          refine va_get (D := g) (ci := 4) (v := .int (iI ((kk + 1 : Nat) : Int))) (C := RX4) (T := TX4) (N := 28) hx hb hts inX4 hown hK.1 hP 0 rfl rfl 11 (by decide) f70 (fun _ h9 => h9) rfl dX4_step_169 ?_
          refine ri_iald (F := (up hs ((kk + 1 : Nat) : Int) (sH cs kk))) (i := ((kk + 1 : Nat) : Int)) hx hb hK.1 hP 3 0 rfl rfl (by omega) (by omega) dX4_step_172 ?_
          refine ri_ex (b := (sH cs kk)) up_s ?_
          refine lv_istore (lv' := [(5, .int (iI (sH cs kk))), (4, .int (iI (zc cs kk))), (3, .int (iI (sT cs kk (sH cs kk)))), (2, .int (iI (sH cs kk))), (0, .ref (y 0)), (1, .ref ca)]) hx hb dX4_step_173 hl (by decide) rfl (fun ls hl => ?_)
          refine lv_aload_n hx hb dX4_step_175 rfl (lv_at hl 4 rfl) ?_
          refine va_get (D := g) (ci := 4) (v := .ref (y 8)) (C := RX4) (T := TX4) (N := 28) hx hb hts inX4 hown hK.1 hP 0 rfl rfl 9 (by decide) f31 (fun _ h9 => h9) rfl dX4_step_176 ?_
          refine lv_aload_n hx hb dX4_step_179 rfl (lv_at hl 4 rfl) ?_
          refine va_get (D := g) (ci := 4) (v := .int (iI ((kk + 1 : Nat) : Int))) (C := RX4) (T := TX4) (N := 28) hx hb hts inX4 hown hK.1 hP 0 rfl rfl 11 (by decide) f70 (fun _ h9 => h9) rfl dX4_step_180 ?_
          refine lv_iload hx hb dX4_step_183 (lv_at hl 0 rfl) ?_
          refine lv_aload_n hx hb dX4_step_185 rfl (lv_at hl 4 rfl) ?_
          refine va_get (D := g) (ci := 4) (v := .int (iI (sU cs kk))) (C := RX4) (T := TX4) (N := 28) hx hb hts inX4 hown hK.1 hP 0 rfl rfl 15 (by decide) f82 (fun _ h9 => h9) rfl dX4_step_186 ?_
          refine ri_icmp_le (a := (sH cs kk)) (b := (sU cs kk)) (tgt := 196) hx hb (by omega) (by omega) dX4_step_189 (by decide) (fun c189 => ?_) (fun c189 => ?_)
          · skip
            refine lv_iload hx hb dX4_step_196 (lv_at hl 0 rfl) ?_
            refine lv_aload_n hx hb dX4_step_198 rfl (lv_at hl 4 rfl) ?_
            refine va_get (D := g) (ci := 4) (v := .int (iI (sL cs kk))) (C := RX4) (T := TX4) (N := 28) hx hb hts inX4 hown hK.1 hP 0 rfl rfl 14 (by decide) f79 (fun _ h9 => h9) rfl dX4_step_199 ?_
            refine ri_icmp_ge (a := (sH cs kk)) (b := (sL cs kk)) (tgt := 209) hx hb (by omega) (by omega) dX4_step_202 (by decide) (fun c202 => ?_) (fun c202 => ?_)
            · skip
              refine lv_iconst (v := iI 0) hx hb dX4_step_209 rfl ?_
              refine ri_iast (F := rc) (i := ((kk + 1 : Nat) : Int)) (x := 0) hx hb hK.1 hP hD hS 4 0 rfl rfl (by omega) (by omega) dX4_step_210 (fun H locs hP hD hS => ?_)
              have hP : va_P g vwCl [((y 0), .inr (4, [.int (iI thr), .int (iI n), .ref (y 1), .ref (y 2), .ref (y 3), .ref (y 4), .ref (y 5), .ref (y 6), .ref (y 7), .ref (y 8), .ref (y 9), .int (iI ((kk + 1 : Nat) : Int)), .int (iI pe), .int (iI dr), .int (iI (sL cs kk)), .int (iI (sU cs kk)), .int (iI ra), .ref (y 10), .ref (y 11), .int (iI dp), .ref (y 12), .ref (y 13), .int (iI ov), .ref (y 14), .int (iI bs), .int (iI bo), .int (iI mo), .int (iI su)])), ((y 4), .inl (k.1, 620, .inl (iF (tpM (sT cs kk))))), ((y 6), .inl (k.1, 301, .inl (iF (up ss ((kk + 1 : Nat) : Int) (sS cs kk))))), ((y 7), .inl (k.1, 301, .inl (iF (up hs ((kk + 1 : Nat) : Int) (sH cs kk))))), ((y 8), .inl (k.1, 301, .inl (iF (up rc ((kk + 1 : Nat) : Int) 0)))), ((y 9), .inl (k.1, 301, .inl (iF (up ch ((kk + 1 : Nat) : Int) 0)))), (ca, .inl (k.1, 8, .inl (iF cs)))] H := hP
              have hD : va_D A [((y 0), .inr (4, [.int (iI thr), .int (iI n), .ref (y 1), .ref (y 2), .ref (y 3), .ref (y 4), .ref (y 5), .ref (y 6), .ref (y 7), .ref (y 8), .ref (y 9), .int (iI ((kk + 1 : Nat) : Int)), .int (iI pe), .int (iI dr), .int (iI (sL cs kk)), .int (iI (sU cs kk)), .int (iI ra), .ref (y 10), .ref (y 11), .int (iI dp), .ref (y 12), .ref (y 13), .int (iI ov), .ref (y 14), .int (iI bs), .int (iI bo), .int (iI mo), .int (iI su)])), ((y 4), .inl (k.1, 620, .inl (iF (tpM (sT cs kk))))), ((y 6), .inl (k.1, 301, .inl (iF (up ss ((kk + 1 : Nat) : Int) (sS cs kk))))), ((y 7), .inl (k.1, 301, .inl (iF (up hs ((kk + 1 : Nat) : Int) (sH cs kk))))), ((y 8), .inl (k.1, 301, .inl (iF (up rc ((kk + 1 : Nat) : Int) 0)))), ((y 9), .inl (k.1, 301, .inl (iF (up ch ((kk + 1 : Nat) : Int) 0)))), (ca, .inl (k.1, 8, .inl (iF cs)))] := hD
              refine lv_aload_n hx hb dX4_step_211 rfl (lv_at hl 4 rfl) ?_
              refine lv_iload hx hb dX4_step_212 (lv_at hl 0 rfl) ?_
              refine lv_aload_n hx hb dX4_step_214 rfl (lv_at hl 4 rfl) ?_
              refine va_get (D := g) (ci := 4) (v := .int (iI (sU cs kk))) (C := RX4) (T := TX4) (N := 28) hx hb hts inX4 hown hK.1 hP 0 rfl rfl 15 (by decide) f82 (fun _ h9 => h9) rfl dX4_step_215 ?_
              refine ri_icmp_le (a := (sH cs kk)) (b := (sU cs kk)) (tgt := 226) hx hb (by omega) (by omega) dX4_step_218 (by decide) (fun c218 => ?_) (fun c218 => ?_)
              · skip
                refine lv_aload_n hx hb dX4_step_226 rfl (lv_at hl 4 rfl) ?_
                refine va_get (D := g) (ci := 4) (v := .int (iI (sU cs kk))) (C := RX4) (T := TX4) (N := 28) hx hb hts inX4 hown hK.1 hP 0 rfl rfl 15 (by decide) f82 (fun _ h9 => h9) rfl dX4_step_227 ?_
                refine va_put (D := g) (ci := 4) (v := .int (iI (sU cs kk))) (ty := .int) (C := RX4) (T := TX4) (N := 28) hx hb hts inX4 tyX4 tyX4_ok nmX4 hown hK.1 hP hD hS 0 rfl rfl 15 (by decide) f82 (fun _ h9 => h9) rfl (by decide +kernel) rfl rfl (Nat.le_of_ble_eq_true rfl) dX4_step_230 (fun H locs hP hD hS => ?_)
                have hP : va_P g vwCl [((y 0), .inr (4, [.int (iI thr), .int (iI n), .ref (y 1), .ref (y 2), .ref (y 3), .ref (y 4), .ref (y 5), .ref (y 6), .ref (y 7), .ref (y 8), .ref (y 9), .int (iI ((kk + 1 : Nat) : Int)), .int (iI pe), .int (iI dr), .int (iI (sL cs kk)), .int (iI (sU cs kk)), .int (iI ra), .ref (y 10), .ref (y 11), .int (iI dp), .ref (y 12), .ref (y 13), .int (iI ov), .ref (y 14), .int (iI bs), .int (iI bo), .int (iI mo), .int (iI su)])), ((y 4), .inl (k.1, 620, .inl (iF (tpM (sT cs kk))))), ((y 6), .inl (k.1, 301, .inl (iF (up ss ((kk + 1 : Nat) : Int) (sS cs kk))))), ((y 7), .inl (k.1, 301, .inl (iF (up hs ((kk + 1 : Nat) : Int) (sH cs kk))))), ((y 8), .inl (k.1, 301, .inl (iF (up rc ((kk + 1 : Nat) : Int) 0)))), ((y 9), .inl (k.1, 301, .inl (iF (up ch ((kk + 1 : Nat) : Int) 0)))), (ca, .inl (k.1, 8, .inl (iF cs)))] H := hP
                have hD : va_D A [((y 0), .inr (4, [.int (iI thr), .int (iI n), .ref (y 1), .ref (y 2), .ref (y 3), .ref (y 4), .ref (y 5), .ref (y 6), .ref (y 7), .ref (y 8), .ref (y 9), .int (iI ((kk + 1 : Nat) : Int)), .int (iI pe), .int (iI dr), .int (iI (sL cs kk)), .int (iI (sU cs kk)), .int (iI ra), .ref (y 10), .ref (y 11), .int (iI dp), .ref (y 12), .ref (y 13), .int (iI ov), .ref (y 14), .int (iI bs), .int (iI bo), .int (iI mo), .int (iI su)])), ((y 4), .inl (k.1, 620, .inl (iF (tpM (sT cs kk))))), ((y 6), .inl (k.1, 301, .inl (iF (up ss ((kk + 1 : Nat) : Int) (sS cs kk))))), ((y 7), .inl (k.1, 301, .inl (iF (up hs ((kk + 1 : Nat) : Int) (sH cs kk))))), ((y 8), .inl (k.1, 301, .inl (iF (up rc ((kk + 1 : Nat) : Int) 0)))), ((y 9), .inl (k.1, 301, .inl (iF (up ch ((kk + 1 : Nat) : Int) 0)))), (ca, .inl (k.1, 8, .inl (iF cs)))] := hD
                refine lv_aload_n hx hb dX4_step_233 rfl (lv_at hl 4 rfl) ?_
                refine lv_iload hx hb dX4_step_234 (lv_at hl 0 rfl) ?_
                refine lv_aload_n hx hb dX4_step_236 rfl (lv_at hl 4 rfl) ?_
                refine va_get (D := g) (ci := 4) (v := .int (iI (sL cs kk))) (C := RX4) (T := TX4) (N := 28) hx hb hts inX4 hown hK.1 hP 0 rfl rfl 14 (by decide) f79 (fun _ h9 => h9) rfl dX4_step_237 ?_
                refine ri_icmp_ge (a := (sH cs kk)) (b := (sL cs kk)) (tgt := 248) hx hb (by omega) (by omega) dX4_step_240 (by decide) (fun c240 => ?_) (fun c240 => ?_)
                · skip
                  refine lv_aload_n hx hb dX4_step_248 rfl (lv_at hl 4 rfl) ?_
                  refine va_get (D := g) (ci := 4) (v := .int (iI (sL cs kk))) (C := RX4) (T := TX4) (N := 28) hx hb hts inX4 hown hK.1 hP 0 rfl rfl 14 (by decide) f79 (fun _ h9 => h9) rfl dX4_step_249 ?_
                  refine va_put (D := g) (ci := 4) (v := .int (iI (sL cs kk))) (ty := .int) (C := RX4) (T := TX4) (N := 28) hx hb hts inX4 tyX4 tyX4_ok nmX4 hown hK.1 hP hD hS 0 rfl rfl 14 (by decide) f79 (fun _ h9 => h9) rfl (by decide +kernel) rfl rfl (Nat.le_of_ble_eq_true rfl) dX4_step_252 (fun H locs hP hD hS => ?_)
                  have hP : va_P g vwCl [((y 0), .inr (4, [.int (iI thr), .int (iI n), .ref (y 1), .ref (y 2), .ref (y 3), .ref (y 4), .ref (y 5), .ref (y 6), .ref (y 7), .ref (y 8), .ref (y 9), .int (iI ((kk + 1 : Nat) : Int)), .int (iI pe), .int (iI dr), .int (iI (sL cs kk)), .int (iI (sU cs kk)), .int (iI ra), .ref (y 10), .ref (y 11), .int (iI dp), .ref (y 12), .ref (y 13), .int (iI ov), .ref (y 14), .int (iI bs), .int (iI bo), .int (iI mo), .int (iI su)])), ((y 4), .inl (k.1, 620, .inl (iF (tpM (sT cs kk))))), ((y 6), .inl (k.1, 301, .inl (iF (up ss ((kk + 1 : Nat) : Int) (sS cs kk))))), ((y 7), .inl (k.1, 301, .inl (iF (up hs ((kk + 1 : Nat) : Int) (sH cs kk))))), ((y 8), .inl (k.1, 301, .inl (iF (up rc ((kk + 1 : Nat) : Int) 0)))), ((y 9), .inl (k.1, 301, .inl (iF (up ch ((kk + 1 : Nat) : Int) 0)))), (ca, .inl (k.1, 8, .inl (iF cs)))] H := hP
                  have hD : va_D A [((y 0), .inr (4, [.int (iI thr), .int (iI n), .ref (y 1), .ref (y 2), .ref (y 3), .ref (y 4), .ref (y 5), .ref (y 6), .ref (y 7), .ref (y 8), .ref (y 9), .int (iI ((kk + 1 : Nat) : Int)), .int (iI pe), .int (iI dr), .int (iI (sL cs kk)), .int (iI (sU cs kk)), .int (iI ra), .ref (y 10), .ref (y 11), .int (iI dp), .ref (y 12), .ref (y 13), .int (iI ov), .ref (y 14), .int (iI bs), .int (iI bo), .int (iI mo), .int (iI su)])), ((y 4), .inl (k.1, 620, .inl (iF (tpM (sT cs kk))))), ((y 6), .inl (k.1, 301, .inl (iF (up ss ((kk + 1 : Nat) : Int) (sS cs kk))))), ((y 7), .inl (k.1, 301, .inl (iF (up hs ((kk + 1 : Nat) : Int) (sH cs kk))))), ((y 8), .inl (k.1, 301, .inl (iF (up rc ((kk + 1 : Nat) : Int) 0)))), ((y 9), .inl (k.1, 301, .inl (iF (up ch ((kk + 1 : Nat) : Int) 0)))), (ca, .inl (k.1, 8, .inl (iF cs)))] := hD
                  refine lv_iload hx hb dX4_step_255 (lv_at hl 1 rfl) ?_
                  refine ri_if_lt (a := (zc cs kk)) (tgt := 264) hx hb (by omega) dX4_step_257 (by decide) (fun c257 => ?_) (fun c257 => ?_)
                  · skip
                    refine lv_iconst (v := iI 0) hx hb dX4_step_264 rfl ?_
                    exact hret 0 _ _ _ _ _ dX4_step_265 (by first | exact Or.inl rfl | exact Or.inr rfl | omega) (Or.inr ⟨rfl, by omega, rfl⟩) hP hD hS
                  · exact absurd (by omega) c257
                · exact absurd (by omega) c240
              · exact absurd (by omega) c218
            · exact absurd (by omega) c202
          · exact absurd (by omega) c189
        · exact absurd (by omega) c147
      · exact absurd (by omega) c124

