/-! THE CLASS Walk: a step, and the looks back -/
set_option maxHeartbeats 4000000 in
set_option maxRecDepth 100000 in
theorem c_act300 (l : Launch) (g : va_G) (k : kT) (w t0 t1 a0 a1 a2 : Nat) (o st pe dr sta hd on lf rt : Int) (tps : Nat → Int64) (hs ss sd : Int → Int) (sz : Nat) (co : Int) (t : Int → Int) (h01 : ∀ j, t j = 0 ∨ t j = 1) (ht0 : ∀ j, (j < -300 ∨ 300 < j) → t j = 0) (hhd : -300 < hd ∧ hd < 300) (hst : 0 ≤ st ∧ st ≤ 300) (hco : 0 ≤ co ∧ co < 16) (hlr : -300 ≤ lf ∧ lf ≤ 300 ∧ -300 ≤ rt ∧ rt ≤ 300) : cV l yX2_act wsX2_act rm_3 g k (wW300 k w t0 t1 a0 a1 a2 o st pe dr sta hd on lf rt (bW 300 t) tps hs ss sd) sz [.ref w, .int (iI co)] 0 0 (fun _ : Unit => wW300 k w t0 t1 a0 a1 a2 o st pe dr (co / 4) (hdN co hd) (on + ((co % 2) - t hd)) (min lf (hdN co hd)) (max rt (hdN co hd)) (bW 300 (up t hd (co % 2))) (va_cpy (bW 300 (up t hd (co % 2))) tps 0 (st * 10).toNat 10) (up hs st (hdN co hd)) (up ss st (co / 4)) (up sd st (sdN lf rt (hdN co hd)))) (fun _ => True) := by
  refine st_V (by decide) rfl (Nat.le_of_ble_eq_true rfl) ?_
  intro p e s m below meth c Q A hx hb hml hown hts hin hA hP hD hS hK hret ls hl
  have hown : s.vm.findClass RX2 = some m.cls := hown
  have f56 := hts (.fieldLink RX2 56 "MachineTree$Walk" "head" "I") (by decide +kernel)
  have inX2 := (by decide +kernel : ∀ w ∈ wsX20, w ∈ wsX2_act)
  have f53 := hts (.fieldLink RX2 53 "MachineTree$Walk" "state" "I") (by decide +kernel)
  have f94 := hts (.fieldLink RX2 94 "MachineTree$Walk" "left" "I") (by decide +kernel)
  have f97 := hts (.fieldLink RX2 97 "MachineTree$Walk" "right" "I") (by decide +kernel)
  have hl : lv_has ls 3 [(0, .ref w), (1, .int (iI co))] := hl
  obtain ⟨H, hH⟩ : ∃ H, H = s.heap := ⟨_, rfl⟩
  obtain ⟨locs, hlo⟩ : ∃ L : List Loc, L = [] := ⟨_, rfl⟩
  rw [← hH] at hP
  have hS : va_S A s.heap H locs := by rw [hH, hlo]; exact hS
  rw [show W p l e rm_3 s m ([.ref w, .int (iI co)] : List Value).toArray below meth c s.heap [] 0 0 Q (F0 m 0 ls []) = W p l e rm_3 s m ([.ref w, .int (iI co)] : List Value).toArray below meth c H locs 0 0 Q (F0 m 0 ls []) by rw [hH, hlo]]
  clear hH hlo
  have hh := hdN_b co hd
  have hth := h01 hd
  refine lv_aload_n hx hb dX2_act_0 rfl (lv_at hl 0 rfl) ?_
  refine lv_iload_n hx hb dX2_act_1 rfl (lv_at hl 1 rfl) ?_
  refine lv_iconst (v := iI 1) hx hb dX2_act_2 rfl ?_
  refine ri_and1 (a := co) (b := 1) hx hb (by omega) 1 (by decide) dX2_act_3 ?_
  refine ri_ex (b := (co % 2)) (by first | rfl | simp | omega) ?_
  refine rc_V (own := RX2) (q := (RX2, TX2, 16)) (wc := [(w, .inr (2, [.int (iI 300), .int (iI 10), .ref t0, .ref t1, .ref a0, .ref a1, .ref a2, .int (iI o), .int (iI st), .int (iI pe), .int (iI dr), .int (iI sta), .int (iI hd), .int (iI on), .int (iI lf), .int (iI rt)])), (t0, .inl (k.2.1, 10, .inr (.inl (bW 300 t))))]) (wr := [(t1, .inl (k.2.1, 3010, .inr (.inl tps))), (a0, .inl (k.1, 301, .inl (iF hs))), (a1, .inl (k.1, 301, .inl (iF ss))), (a2, .inl (k.1, 301, .inl (iF sd)))]) (As := [.int (iI (co % 2))]) (rest := []) ⟨hx, hb, hml, hown, hts⟩ (c_write300 l g k w t0 t1 a0 a1 a2 o st pe dr sta hd on lf rt H.size (co % 2) t h01 ht0 (by omega) (by omega)) (cwV 1 hts gX2_act_X2_write rfl rfl rfl (by decide +kernel) ⟨Nat.le_of_ble_eq_true rfl, Nat.le_of_ble_eq_true rfl⟩) hK hP hD hS hA [0, 1] [2, 3, 4, 5] rfl (by decide) rfl (by decide) (by decide) (ci := 2) (q0 := 0) rfl rfl rfl rfl hl.1 (Nat.le_of_ble_eq_true rfl) ⟨Nat.le_of_ble_eq_true rfl, Nat.le_of_ble_eq_true rfl⟩ dX2_act_4 (fun u4 H locs hu4 hP hD hS => ?_)
  obtain ⟨u4a, u4b⟩ := u4
  obtain ⟨e4a, e4b⟩ := hu4
  dsimp only at e4a e4b
  subst e4a e4b
  have hP : va_P g vwCl [(t1, .inl (k.2.1, 3010, .inr (.inl tps))), (a0, .inl (k.1, 301, .inl (iF hs))), (a1, .inl (k.1, 301, .inl (iF ss))), (a2, .inl (k.1, 301, .inl (iF sd))), (w, .inr (2, [.int (iI 300), .int (iI 10), .ref t0, .ref t1, .ref a0, .ref a1, .ref a2, .int (iI o), .int (iI st), .int (iI pe), .int (iI dr), .int (iI sta), .int (iI hd), .int (iI (on + ((co % 2) - t hd))), .int (iI lf), .int (iI rt)])), (t0, .inl (k.2.1, 10, .inr (.inl (bW 300 (up t hd (co % 2))))))] H := hP
  have hD : va_D A [(t1, .inl (k.2.1, 3010, .inr (.inl tps))), (a0, .inl (k.1, 301, .inl (iF hs))), (a1, .inl (k.1, 301, .inl (iF ss))), (a2, .inl (k.1, 301, .inl (iF sd))), (w, .inr (2, [.int (iI 300), .int (iI 10), .ref t0, .ref t1, .ref a0, .ref a1, .ref a2, .int (iI o), .int (iI st), .int (iI pe), .int (iI dr), .int (iI sta), .int (iI hd), .int (iI (on + ((co % 2) - t hd))), .int (iI lf), .int (iI rt)])), (t0, .inl (k.2.1, 10, .inr (.inl (bW 300 (up t hd (co % 2))))))] := hD
  have hP := hP.sub (ws' := [(w, .inr (2, [.int (iI 300), .int (iI 10), .ref t0, .ref t1, .ref a0, .ref a1, .ref a2, .int (iI o), .int (iI st), .int (iI pe), .int (iI dr), .int (iI sta), .int (iI hd), .int (iI (on + ((co % 2) - t hd))), .int (iI lf), .int (iI rt)])), (t0, .inl (k.2.1, 10, .inr (.inl (bW 300 (up t hd (co % 2)))))), (t1, .inl (k.2.1, 3010, .inr (.inl tps))), (a0, .inl (k.1, 301, .inl (iF hs))), (a1, .inl (k.1, 301, .inl (iF ss))), (a2, .inl (k.1, 301, .inl (iF sd)))]) [4, 5, 0, 1, 2, 3] rfl
  have hD := hD.sub (ws' := [(w, .inr (2, [.int (iI 300), .int (iI 10), .ref t0, .ref t1, .ref a0, .ref a1, .ref a2, .int (iI o), .int (iI st), .int (iI pe), .int (iI dr), .int (iI sta), .int (iI hd), .int (iI (on + ((co % 2) - t hd))), .int (iI lf), .int (iI rt)])), (t0, .inl (k.2.1, 10, .inr (.inl (bW 300 (up t hd (co % 2)))))), (t1, .inl (k.2.1, 3010, .inr (.inl tps))), (a0, .inl (k.1, 301, .inl (iF hs))), (a1, .inl (k.1, 301, .inl (iF ss))), (a2, .inl (k.1, 301, .inl (iF sd)))]) [4, 5, 0, 1, 2, 3] (by decide) rfl
  refine lv_aload_n hx hb dX2_act_7 rfl (lv_at hl 0 rfl) ?_
  refine lv_dup hx hb dX2_act_8 rfl ?_
  refine va_get (D := g) (ci := 2) (v := .int (iI hd)) (C := RX2) (T := TX2) (N := 16) hx hb hts inX2 hown hK.1 hP 0 rfl rfl 12 (by decide) f56 (fun _ h9 => h9) rfl dX2_act_9 ?_
  have J23 : ∀ (x : Int),  (hd + x = hdN co hd) → ∀ (ls : Array Slot), lv_has ls 3 [(0, .ref w), (1, .int (iI co))] → W p l e rm_3 s m ([.ref w, .int (iI co)] : List Value).toArray below meth c H locs 0 0 Q (F0 m 23 ls [.int (iI x), .int (iI hd), .ref w]) := by
    intro x hx9 ls hl
    refine ri_iadd (a := hd) (b := x) hx hb dX2_act_23 ?_
    refine ri_ex (b := (hdN co hd)) hx9 ?_
    refine va_put (D := g) (ci := 2) (v := .int (iI (hdN co hd))) (ty := .int) (C := RX2) (T := TX2) (N := 16) hx hb hts inX2 tyX2 tyX2_ok nmX2 hown hK.1 hP hD hS 0 rfl rfl 12 (by decide) f56 (fun _ h9 => h9) rfl (by decide +kernel) rfl rfl (Nat.le_of_ble_eq_true rfl) dX2_act_24 (fun H locs hP hD hS => ?_)
    have hP : va_P g vwCl [(w, .inr (2, [.int (iI 300), .int (iI 10), .ref t0, .ref t1, .ref a0, .ref a1, .ref a2, .int (iI o), .int (iI st), .int (iI pe), .int (iI dr), .int (iI sta), .int (iI (hdN co hd)), .int (iI (on + ((co % 2) - t hd))), .int (iI lf), .int (iI rt)])), (t0, .inl (k.2.1, 10, .inr (.inl (bW 300 (up t hd (co % 2)))))), (t1, .inl (k.2.1, 3010, .inr (.inl tps))), (a0, .inl (k.1, 301, .inl (iF hs))), (a1, .inl (k.1, 301, .inl (iF ss))), (a2, .inl (k.1, 301, .inl (iF sd)))] H := hP
    have hD : va_D A [(w, .inr (2, [.int (iI 300), .int (iI 10), .ref t0, .ref t1, .ref a0, .ref a1, .ref a2, .int (iI o), .int (iI st), .int (iI pe), .int (iI dr), .int (iI sta), .int (iI (hdN co hd)), .int (iI (on + ((co % 2) - t hd))), .int (iI lf), .int (iI rt)])), (t0, .inl (k.2.1, 10, .inr (.inl (bW 300 (up t hd (co % 2)))))), (t1, .inl (k.2.1, 3010, .inr (.inl tps))), (a0, .inl (k.1, 301, .inl (iF hs))), (a1, .inl (k.1, 301, .inl (iF ss))), (a2, .inl (k.1, 301, .inl (iF sd)))] := hD
    refine lv_aload_n hx hb dX2_act_27 rfl (lv_at hl 0 rfl) ?_
    refine lv_iload_n hx hb dX2_act_28 rfl (lv_at hl 1 rfl) ?_
    refine lv_iconst (v := iI 2) hx hb dX2_act_29 rfl ?_
    refine ri_shr (a := co) (b := 2) hx hb (by omega) 2 (by decide) dX2_act_30 ?_
    refine ri_ex (b := (co / 4)) (by first | rfl | simp | omega) ?_
    refine va_put (D := g) (ci := 2) (v := .int (iI (co / 4))) (ty := .int) (C := RX2) (T := TX2) (N := 16) hx hb hts inX2 tyX2 tyX2_ok nmX2 hown hK.1 hP hD hS 0 rfl rfl 11 (by decide) f53 (fun _ h9 => h9) rfl (by decide +kernel) rfl rfl (Nat.le_of_ble_eq_true rfl) dX2_act_31 (fun H locs hP hD hS => ?_)
    have hP : va_P g vwCl [(w, .inr (2, [.int (iI 300), .int (iI 10), .ref t0, .ref t1, .ref a0, .ref a1, .ref a2, .int (iI o), .int (iI st), .int (iI pe), .int (iI dr), .int (iI (co / 4)), .int (iI (hdN co hd)), .int (iI (on + ((co % 2) - t hd))), .int (iI lf), .int (iI rt)])), (t0, .inl (k.2.1, 10, .inr (.inl (bW 300 (up t hd (co % 2)))))), (t1, .inl (k.2.1, 3010, .inr (.inl tps))), (a0, .inl (k.1, 301, .inl (iF hs))), (a1, .inl (k.1, 301, .inl (iF ss))), (a2, .inl (k.1, 301, .inl (iF sd)))] H := hP
    have hD : va_D A [(w, .inr (2, [.int (iI 300), .int (iI 10), .ref t0, .ref t1, .ref a0, .ref a1, .ref a2, .int (iI o), .int (iI st), .int (iI pe), .int (iI dr), .int (iI (co / 4)), .int (iI (hdN co hd)), .int (iI (on + ((co % 2) - t hd))), .int (iI lf), .int (iI rt)])), (t0, .inl (k.2.1, 10, .inr (.inl (bW 300 (up t hd (co % 2)))))), (t1, .inl (k.2.1, 3010, .inr (.inl tps))), (a0, .inl (k.1, 301, .inl (iF hs))), (a1, .inl (k.1, 301, .inl (iF ss))), (a2, .inl (k.1, 301, .inl (iF sd)))] := hD
    have J65 : ∀ (x : Int),  (x = (sdN lf rt (hdN co hd))) → ∀ (ls : Array Slot), lv_has ls 3 [(0, .ref w), (1, .int (iI co))] → W p l e rm_3 s m ([.ref w, .int (iI co)] : List Value).toArray below meth c H locs 0 0 Q (F0 m 65 ls [.int (iI x)]) := by
      intro x hx9 ls hl
      refine lv_istore_n (lv' := [(2, .int (iI x)), (0, .ref w), (1, .int (iI co))]) hx hb dX2_act_65 rfl hl (by decide) rfl (fun ls hl => ?_)
      refine lv_aload_n hx hb dX2_act_66 rfl (lv_at hl 1 rfl) ?_
      refine lv_aload_n hx hb dX2_act_67 rfl (lv_at hl 1 rfl) ?_
      refine va_get (D := g) (ci := 2) (v := .int (iI lf)) (C := RX2) (T := TX2) (N := 16) hx hb hts inX2 hown hK.1 hP 0 rfl rfl 14 (by decide) f94 (fun _ h9 => h9) rfl dX2_act_68 ?_
      refine lv_aload_n hx hb dX2_act_71 rfl (lv_at hl 1 rfl) ?_
      refine va_get (D := g) (ci := 2) (v := .int (iI (hdN co hd))) (C := RX2) (T := TX2) (N := 16) hx hb hts inX2 hown hK.1 hP 0 rfl rfl 12 (by decide) f56 (fun _ h9 => h9) rfl dX2_act_72 ?_
      refine va_mmin hx hb (by rw [hml]; exact hl.1.symm) hown (hts (.methodLink RX2 9 Lib.Math.min.name) (by decide +kernel)) (hts (.static Lib.Math.min.name) (by decide +kernel)) (hts (.initialized "java/lang/Math") (by decide +kernel)) (hts (.code Lib.Math.min.name Lib.Math.min.code 2 (some .int)) (by decide +kernel)) (Nat.le_of_ble_eq_true rfl) (Nat.le_of_ble_eq_true rfl) (Nat.le_of_ble_eq_true rfl) (Nat.le_of_ble_eq_true rfl) dX2_act_75 ?_
      refine ri_top (iI_min (a := lf) (b := (hdN co hd)) (by omega) (by omega)) ?_
      refine va_put (D := g) (ci := 2) (v := .int (iI (min lf (hdN co hd)))) (ty := .int) (C := RX2) (T := TX2) (N := 16) hx hb hts inX2 tyX2 tyX2_ok nmX2 hown hK.1 hP hD hS 0 rfl rfl 14 (by decide) f94 (fun _ h9 => h9) rfl (by decide +kernel) rfl rfl (Nat.le_of_ble_eq_true rfl) dX2_act_78 (fun H locs hP hD hS => ?_)
      have hP : va_P g vwCl [(w, .inr (2, [.int (iI 300), .int (iI 10), .ref t0, .ref t1, .ref a0, .ref a1, .ref a2, .int (iI o), .int (iI st), .int (iI pe), .int (iI dr), .int (iI (co / 4)), .int (iI (hdN co hd)), .int (iI (on + ((co % 2) - t hd))), .int (iI (min lf (hdN co hd))), .int (iI rt)])), (t0, .inl (k.2.1, 10, .inr (.inl (bW 300 (up t hd (co % 2)))))), (t1, .inl (k.2.1, 3010, .inr (.inl tps))), (a0, .inl (k.1, 301, .inl (iF hs))), (a1, .inl (k.1, 301, .inl (iF ss))), (a2, .inl (k.1, 301, .inl (iF sd)))] H := hP
      have hD : va_D A [(w, .inr (2, [.int (iI 300), .int (iI 10), .ref t0, .ref t1, .ref a0, .ref a1, .ref a2, .int (iI o), .int (iI st), .int (iI pe), .int (iI dr), .int (iI (co / 4)), .int (iI (hdN co hd)), .int (iI (on + ((co % 2) - t hd))), .int (iI (min lf (hdN co hd))), .int (iI rt)])), (t0, .inl (k.2.1, 10, .inr (.inl (bW 300 (up t hd (co % 2)))))), (t1, .inl (k.2.1, 3010, .inr (.inl tps))), (a0, .inl (k.1, 301, .inl (iF hs))), (a1, .inl (k.1, 301, .inl (iF ss))), (a2, .inl (k.1, 301, .inl (iF sd)))] := hD
      refine lv_aload_n hx hb dX2_act_81 rfl (lv_at hl 1 rfl) ?_
      refine lv_aload_n hx hb dX2_act_82 rfl (lv_at hl 1 rfl) ?_
      refine va_get (D := g) (ci := 2) (v := .int (iI rt)) (C := RX2) (T := TX2) (N := 16) hx hb hts inX2 hown hK.1 hP 0 rfl rfl 15 (by decide) f97 (fun _ h9 => h9) rfl dX2_act_83 ?_
      refine lv_aload_n hx hb dX2_act_86 rfl (lv_at hl 1 rfl) ?_
      refine va_get (D := g) (ci := 2) (v := .int (iI (hdN co hd))) (C := RX2) (T := TX2) (N := 16) hx hb hts inX2 hown hK.1 hP 0 rfl rfl 12 (by decide) f56 (fun _ h9 => h9) rfl dX2_act_87 ?_
      refine va_mmax hx hb (by rw [hml]; exact hl.1.symm) hown (hts (.methodLink RX2 15 Lib.Math.max.name) (by decide +kernel)) (hts (.static Lib.Math.max.name) (by decide +kernel)) (hts (.initialized "java/lang/Math") (by decide +kernel)) (hts (.code Lib.Math.max.name Lib.Math.max.code 2 (some .int)) (by decide +kernel)) (Nat.le_of_ble_eq_true rfl) (Nat.le_of_ble_eq_true rfl) (Nat.le_of_ble_eq_true rfl) (Nat.le_of_ble_eq_true rfl) dX2_act_90 ?_
      refine ri_top (iI_max (a := rt) (b := (hdN co hd)) (by omega) (by omega)) ?_
      refine va_put (D := g) (ci := 2) (v := .int (iI (max rt (hdN co hd)))) (ty := .int) (C := RX2) (T := TX2) (N := 16) hx hb hts inX2 tyX2 tyX2_ok nmX2 hown hK.1 hP hD hS 0 rfl rfl 15 (by decide) f97 (fun _ h9 => h9) rfl (by decide +kernel) rfl rfl (Nat.le_of_ble_eq_true rfl) dX2_act_93 (fun H locs hP hD hS => ?_)
      have hP : va_P g vwCl [(w, .inr (2, [.int (iI 300), .int (iI 10), .ref t0, .ref t1, .ref a0, .ref a1, .ref a2, .int (iI o), .int (iI st), .int (iI pe), .int (iI dr), .int (iI (co / 4)), .int (iI (hdN co hd)), .int (iI (on + ((co % 2) - t hd))), .int (iI (min lf (hdN co hd))), .int (iI (max rt (hdN co hd)))])), (t0, .inl (k.2.1, 10, .inr (.inl (bW 300 (up t hd (co % 2)))))), (t1, .inl (k.2.1, 3010, .inr (.inl tps))), (a0, .inl (k.1, 301, .inl (iF hs))), (a1, .inl (k.1, 301, .inl (iF ss))), (a2, .inl (k.1, 301, .inl (iF sd)))] H := hP
      have hD : va_D A [(w, .inr (2, [.int (iI 300), .int (iI 10), .ref t0, .ref t1, .ref a0, .ref a1, .ref a2, .int (iI o), .int (iI st), .int (iI pe), .int (iI dr), .int (iI (co / 4)), .int (iI (hdN co hd)), .int (iI (on + ((co % 2) - t hd))), .int (iI (min lf (hdN co hd))), .int (iI (max rt (hdN co hd)))])), (t0, .inl (k.2.1, 10, .inr (.inl (bW 300 (up t hd (co % 2)))))), (t1, .inl (k.2.1, 3010, .inr (.inl tps))), (a0, .inl (k.1, 301, .inl (iF hs))), (a1, .inl (k.1, 301, .inl (iF ss))), (a2, .inl (k.1, 301, .inl (iF sd)))] := hD
      refine lv_aload_n hx hb dX2_act_96 rfl (lv_at hl 1 rfl) ?_
      refine lv_iload_n hx hb dX2_act_97 rfl (lv_at hl 0 rfl) ?_
      refine rc_V (own := RX2) (q := (RX2, TX2, 16)) (wc := [(w, .inr (2, [.int (iI 300), .int (iI 10), .ref t0, .ref t1, .ref a0, .ref a1, .ref a2, .int (iI o), .int (iI st), .int (iI pe), .int (iI dr), .int (iI (co / 4)), .int (iI (hdN co hd)), .int (iI (on + ((co % 2) - t hd))), .int (iI (min lf (hdN co hd))), .int (iI (max rt (hdN co hd)))])), (t0, .inl (k.2.1, 10, .inr (.inl (bW 300 (up t hd (co % 2)))))), (t1, .inl (k.2.1, 3010, .inr (.inl tps))), (a0, .inl (k.1, 301, .inl (iF hs))), (a1, .inl (k.1, 301, .inl (iF ss))), (a2, .inl (k.1, 301, .inl (iF sd)))]) (wr := []) (As := [.int (iI x)]) (rest := []) ⟨hx, hb, hml, hown, hts⟩ (c_note300 l g k w t0 t1 a0 a1 a2 o st pe dr (co / 4) (hdN co hd) (on + ((co % 2) - t hd)) (min lf (hdN co hd)) (max rt (hdN co hd)) (bW 300 (up t hd (co % 2))) tps hs ss sd H.size x (by omega)) (cwV 1 hts gX2_act_X2_note rfl rfl rfl (by decide +kernel) ⟨Nat.le_of_ble_eq_true rfl, Nat.le_of_ble_eq_true rfl⟩) hK hP hD hS hA [0, 1, 2, 3, 4, 5] [] rfl (by decide) rfl (by decide) (by decide) (ci := 2) (q0 := 0) rfl rfl rfl rfl hl.1 (Nat.le_of_ble_eq_true rfl) ⟨Nat.le_of_ble_eq_true rfl, Nat.le_of_ble_eq_true rfl⟩ dX2_act_98 (fun u98 H locs hu98 hP hD hS => ?_)
      have hP : va_P g vwCl [(w, .inr (2, [.int (iI 300), .int (iI 10), .ref t0, .ref t1, .ref a0, .ref a1, .ref a2, .int (iI o), .int (iI st), .int (iI pe), .int (iI dr), .int (iI (co / 4)), .int (iI (hdN co hd)), .int (iI (on + ((co % 2) - t hd))), .int (iI (min lf (hdN co hd))), .int (iI (max rt (hdN co hd)))])), (t0, .inl (k.2.1, 10, .inr (.inl (bW 300 (up t hd (co % 2)))))), (t1, .inl (k.2.1, 3010, .inr (.inl (va_cpy (bW 300 (up t hd (co % 2))) tps 0 (st * 10).toNat 10)))), (a0, .inl (k.1, 301, .inl (iF (up hs st (hdN co hd))))), (a1, .inl (k.1, 301, .inl (iF (up ss st (co / 4))))), (a2, .inl (k.1, 301, .inl (iF (up sd st x))))] H := hP
      have hD : va_D A [(w, .inr (2, [.int (iI 300), .int (iI 10), .ref t0, .ref t1, .ref a0, .ref a1, .ref a2, .int (iI o), .int (iI st), .int (iI pe), .int (iI dr), .int (iI (co / 4)), .int (iI (hdN co hd)), .int (iI (on + ((co % 2) - t hd))), .int (iI (min lf (hdN co hd))), .int (iI (max rt (hdN co hd)))])), (t0, .inl (k.2.1, 10, .inr (.inl (bW 300 (up t hd (co % 2)))))), (t1, .inl (k.2.1, 3010, .inr (.inl (va_cpy (bW 300 (up t hd (co % 2))) tps 0 (st * 10).toNat 10)))), (a0, .inl (k.1, 301, .inl (iF (up hs st (hdN co hd))))), (a1, .inl (k.1, 301, .inl (iF (up ss st (co / 4))))), (a2, .inl (k.1, 301, .inl (iF (up sd st x))))] := hD
      subst hx9
      exact hret () _ _ _ _ dX2_act_101 trivial hP hD hS
    refine lv_aload_n hx hb dX2_act_34 rfl (lv_at hl 0 rfl) ?_
    refine va_get (D := g) (ci := 2) (v := .int (iI (hdN co hd))) (C := RX2) (T := TX2) (N := 16) hx hb hts inX2 hown hK.1 hP 0 rfl rfl 12 (by decide) f56 (fun _ h9 => h9) rfl dX2_act_35 ?_
    refine lv_aload_n hx hb dX2_act_38 rfl (lv_at hl 0 rfl) ?_
    refine va_get (D := g) (ci := 2) (v := .int (iI rt)) (C := RX2) (T := TX2) (N := 16) hx hb hts inX2 hown hK.1 hP 0 rfl rfl 15 (by decide) f97 (fun _ h9 => h9) rfl dX2_act_39 ?_
    refine ri_icmp_le (a := (hdN co hd)) (b := rt) (tgt := 49) hx hb (by omega) (by omega) dX2_act_42 (by decide) (fun c42 => ?_) (fun c42 => ?_)
    · skip
      refine lv_aload_n hx hb dX2_act_49 rfl (lv_at hl 0 rfl) ?_
      refine va_get (D := g) (ci := 2) (v := .int (iI (hdN co hd))) (C := RX2) (T := TX2) (N := 16) hx hb hts inX2 hown hK.1 hP 0 rfl rfl 12 (by decide) f56 (fun _ h9 => h9) rfl dX2_act_50 ?_
      refine lv_aload_n hx hb dX2_act_53 rfl (lv_at hl 0 rfl) ?_
      refine va_get (D := g) (ci := 2) (v := .int (iI lf)) (C := RX2) (T := TX2) (N := 16) hx hb hts inX2 hown hK.1 hP 0 rfl rfl 14 (by decide) f94 (fun _ h9 => h9) rfl dX2_act_54 ?_
      refine ri_icmp_ge (a := (hdN co hd)) (b := lf) (tgt := 64) hx hb (by omega) (by omega) dX2_act_57 (by decide) (fun c57 => ?_) (fun c57 => ?_)
      · skip
        refine lv_iconst (v := iI 0) hx hb dX2_act_64 rfl ?_
        exact J65 0 (by unfold sdN; rw [if_neg (by omega), if_neg (by omega)]) _ (lv_sub hl [0, 1] rfl)
      · skip
        refine lv_iconst (v := iI (-1)) hx hb dX2_act_60 rfl ?_
        refine lv_goto (tgt := 65) hx hb dX2_act_61 (by decide) ?_
        exact J65 (-1) (by unfold sdN; rw [if_neg (by omega), if_pos (by omega)]) _ (lv_sub hl [0, 1] rfl)
    · skip
      refine lv_iconst (v := iI 1) hx hb dX2_act_45 rfl ?_
      refine lv_goto (tgt := 65) hx hb dX2_act_46 (by decide) ?_
      exact J65 1 (by unfold sdN; rw [if_pos (by omega)]) _ (lv_sub hl [0, 1] rfl)
  refine lv_iload_n hx hb dX2_act_12 rfl (lv_at hl 1 rfl) ?_
  refine lv_iconst (v := iI 2) hx hb dX2_act_13 rfl ?_
  refine ri_and2 (a := co) hx hb (by omega) dX2_act_14 ?_
  refine ri_if_eq (a := (2 * (co / 2 % 2))) (tgt := 22) hx hb (by omega) dX2_act_15 (by decide) (fun c15 => ?_) (fun c15 => ?_)
  · skip
    refine lv_iconst (v := iI (-1)) hx hb dX2_act_22 rfl ?_
    exact J23 (-1) (by unfold hdN; rw [if_pos (by omega)]; omega) _ (lv_sub hl [0, 1] rfl)
  · skip
    refine lv_iconst (v := iI 1) hx hb dX2_act_18 rfl ?_
    refine lv_goto (tgt := 23) hx hb dX2_act_19 (by decide) ?_
    exact J23 1 (by unfold hdN; rw [if_neg (by omega)]) _ (lv_sub hl [0, 1] rfl)

set_option maxHeartbeats 4000000 in
set_option maxRecDepth 100000 in
theorem c_begin300 (l : Launch) (g : va_G) (k : kT) (w t0 t1 a0 a1 a2 : Nat) (o st pe dr sta hd on lf rt : Int) (tp tps : Nat → Int64) (hs ss sd : Int → Int) (sz : Nat) : cV l yX2_begin wsX2_begin rm_2 g k (wW300 k w t0 t1 a0 a1 a2 o st pe dr sta hd on lf rt tp tps hs ss sd) sz [.ref w] 0 0 (fun u : Nat → Int64 => wW300 k w t0 t1 a0 a1 a2 0 0 0 0 0 0 0 0 0 (bW 300 (fun _ => 0)) u (up hs 0 0) (up ss 0 0) (up sd 0 0)) (fun u => ∃ z : Nat → Int64, (∀ j : Nat, j < 10 → z j = 0) ∧ u = va_cpy z tps 0 ((0 : Int) * 10).toNat 10) := by
  refine st_V (by decide) rfl (Nat.le_of_ble_eq_true rfl) ?_
  intro p e s m below meth c Q A hx hb hml hown hts hin hA hP hD hS hK hret ls hl
  have hown : s.vm.findClass RX2 = some m.cls := hown
  have f27 := hts (.fieldLink RX2 27 "MachineTree$Walk" "tape" "[J") (by decide +kernel)
  have inX2 := (by decide +kernel : ∀ w ∈ wsX20, w ∈ wsX2_begin)
  have f50 := hts (.fieldLink RX2 50 "MachineTree$Walk" "outcome" "I") (by decide +kernel)
  have f47 := hts (.fieldLink RX2 47 "MachineTree$Walk" "steps" "I") (by decide +kernel)
  have f85 := hts (.fieldLink RX2 85 "MachineTree$Walk" "period" "I") (by decide +kernel)
  have f88 := hts (.fieldLink RX2 88 "MachineTree$Walk" "drift" "I") (by decide +kernel)
  have f53 := hts (.fieldLink RX2 53 "MachineTree$Walk" "state" "I") (by decide +kernel)
  have f56 := hts (.fieldLink RX2 56 "MachineTree$Walk" "head" "I") (by decide +kernel)
  have f91 := hts (.fieldLink RX2 91 "MachineTree$Walk" "ones" "I") (by decide +kernel)
  have f94 := hts (.fieldLink RX2 94 "MachineTree$Walk" "left" "I") (by decide +kernel)
  have f97 := hts (.fieldLink RX2 97 "MachineTree$Walk" "right" "I") (by decide +kernel)
  have hl : lv_has ls 1 [(0, .ref w)] := hl
  obtain ⟨H, hH⟩ : ∃ H, H = s.heap := ⟨_, rfl⟩
  obtain ⟨locs, hlo⟩ : ∃ L : List Loc, L = [] := ⟨_, rfl⟩
  rw [← hH] at hP
  have hS : va_S A s.heap H locs := by rw [hH, hlo]; exact hS
  rw [show W p l e rm_2 s m ([.ref w] : List Value).toArray below meth c s.heap [] 0 0 Q (F0 m 0 ls []) = W p l e rm_2 s m ([.ref w] : List Value).toArray below meth c H locs 0 0 Q (F0 m 0 ls []) by rw [hH, hlo]]
  clear hH hlo
  refine lv_aload_n hx hb dX2_begin_0 rfl (lv_at hl 0 rfl) ?_
  refine va_get (D := g) (ci := 2) (v := .ref t0) (C := RX2) (T := TX2) (N := 16) hx hb hts inX2 hown hK.1 hP 0 rfl rfl 2 (by decide) f27 (fun _ h9 => h9) rfl dX2_begin_1 ?_
  refine lv_lconst (v := 0) hx hb dX2_begin_4 rfl ?_
  refine rc_SV (own := RX2) (wc := [(t0, .inl (k.2.1, 10, .inr (.inl tp)))]) (wr := [(w, .inr (2, [.int (iI 300), .int (iI 10), .ref t0, .ref t1, .ref a0, .ref a1, .ref a2, .int (iI o), .int (iI st), .int (iI pe), .int (iI dr), .int (iI sta), .int (iI hd), .int (iI on), .int (iI lf), .int (iI rt)])), (t1, .inl (k.2.1, 3010, .inr (.inl tps))), (a0, .inl (k.1, 301, .inl (iF hs))), (a1, .inl (k.1, 301, .inl (iF ss))), (a2, .inl (k.1, 301, .inl (iF sd)))]) (As := [.ref t0, .long 0]) (rest := []) ⟨hx, hb, hml, hown, hts⟩ (c_fillJ l g k t0 10 tp H.size 0 (by decide)) (va_cwS 2 hts gX2_begin_J7_fill_d0a16 rfl rfl rfl (by decide +kernel) ⟨Nat.le_of_ble_eq_true rfl, Nat.le_of_ble_eq_true rfl⟩) hK hP hD hS hA [1] [0, 2, 3, 4, 5] rfl (by decide) rfl (by decide) (by decide) rfl rfl hl.1 (Nat.le_of_ble_eq_true rfl) ⟨Nat.le_of_ble_eq_true rfl, Nat.le_of_ble_eq_true rfl⟩ dX2_begin_5 (fun z5 H locs hu5 hP hD hS => ?_)
  have hP : va_P g vwCl [(w, .inr (2, [.int (iI 300), .int (iI 10), .ref t0, .ref t1, .ref a0, .ref a1, .ref a2, .int (iI o), .int (iI st), .int (iI pe), .int (iI dr), .int (iI sta), .int (iI hd), .int (iI on), .int (iI lf), .int (iI rt)])), (t1, .inl (k.2.1, 3010, .inr (.inl tps))), (a0, .inl (k.1, 301, .inl (iF hs))), (a1, .inl (k.1, 301, .inl (iF ss))), (a2, .inl (k.1, 301, .inl (iF sd))), (t0, .inl (k.2.1, 10, .inr (.inl z5)))] H := hP
  have hD : va_D A [(w, .inr (2, [.int (iI 300), .int (iI 10), .ref t0, .ref t1, .ref a0, .ref a1, .ref a2, .int (iI o), .int (iI st), .int (iI pe), .int (iI dr), .int (iI sta), .int (iI hd), .int (iI on), .int (iI lf), .int (iI rt)])), (t1, .inl (k.2.1, 3010, .inr (.inl tps))), (a0, .inl (k.1, 301, .inl (iF hs))), (a1, .inl (k.1, 301, .inl (iF ss))), (a2, .inl (k.1, 301, .inl (iF sd))), (t0, .inl (k.2.1, 10, .inr (.inl z5)))] := hD
  have hP := hP.sub (ws' := [(w, .inr (2, [.int (iI 300), .int (iI 10), .ref t0, .ref t1, .ref a0, .ref a1, .ref a2, .int (iI o), .int (iI st), .int (iI pe), .int (iI dr), .int (iI sta), .int (iI hd), .int (iI on), .int (iI lf), .int (iI rt)])), (t0, .inl (k.2.1, 10, .inr (.inl z5))), (t1, .inl (k.2.1, 3010, .inr (.inl tps))), (a0, .inl (k.1, 301, .inl (iF hs))), (a1, .inl (k.1, 301, .inl (iF ss))), (a2, .inl (k.1, 301, .inl (iF sd)))]) [0, 5, 1, 2, 3, 4] rfl
  have hD := hD.sub (ws' := [(w, .inr (2, [.int (iI 300), .int (iI 10), .ref t0, .ref t1, .ref a0, .ref a1, .ref a2, .int (iI o), .int (iI st), .int (iI pe), .int (iI dr), .int (iI sta), .int (iI hd), .int (iI on), .int (iI lf), .int (iI rt)])), (t0, .inl (k.2.1, 10, .inr (.inl z5))), (t1, .inl (k.2.1, 3010, .inr (.inl tps))), (a0, .inl (k.1, 301, .inl (iF hs))), (a1, .inl (k.1, 301, .inl (iF ss))), (a2, .inl (k.1, 301, .inl (iF sd)))]) [0, 5, 1, 2, 3, 4] (by decide) rfl
  refine lv_aload_n hx hb dX2_begin_8 rfl (lv_at hl 0 rfl) ?_
  refine lv_iconst (v := iI 0) hx hb dX2_begin_9 rfl ?_
  refine va_put (D := g) (ci := 2) (v := .int (iI 0)) (ty := .int) (C := RX2) (T := TX2) (N := 16) hx hb hts inX2 tyX2 tyX2_ok nmX2 hown hK.1 hP hD hS 0 rfl rfl 7 (by decide) f50 (fun _ h9 => h9) rfl (by decide +kernel) rfl rfl (Nat.le_of_ble_eq_true rfl) dX2_begin_10 (fun H locs hP hD hS => ?_)
  have hP : va_P g vwCl [(w, .inr (2, [.int (iI 300), .int (iI 10), .ref t0, .ref t1, .ref a0, .ref a1, .ref a2, .int (iI 0), .int (iI st), .int (iI pe), .int (iI dr), .int (iI sta), .int (iI hd), .int (iI on), .int (iI lf), .int (iI rt)])), (t0, .inl (k.2.1, 10, .inr (.inl z5))), (t1, .inl (k.2.1, 3010, .inr (.inl tps))), (a0, .inl (k.1, 301, .inl (iF hs))), (a1, .inl (k.1, 301, .inl (iF ss))), (a2, .inl (k.1, 301, .inl (iF sd)))] H := hP
  have hD : va_D A [(w, .inr (2, [.int (iI 300), .int (iI 10), .ref t0, .ref t1, .ref a0, .ref a1, .ref a2, .int (iI 0), .int (iI st), .int (iI pe), .int (iI dr), .int (iI sta), .int (iI hd), .int (iI on), .int (iI lf), .int (iI rt)])), (t0, .inl (k.2.1, 10, .inr (.inl z5))), (t1, .inl (k.2.1, 3010, .inr (.inl tps))), (a0, .inl (k.1, 301, .inl (iF hs))), (a1, .inl (k.1, 301, .inl (iF ss))), (a2, .inl (k.1, 301, .inl (iF sd)))] := hD
  refine lv_aload_n hx hb dX2_begin_13 rfl (lv_at hl 0 rfl) ?_
  refine lv_iconst (v := iI 0) hx hb dX2_begin_14 rfl ?_
  refine va_put (D := g) (ci := 2) (v := .int (iI 0)) (ty := .int) (C := RX2) (T := TX2) (N := 16) hx hb hts inX2 tyX2 tyX2_ok nmX2 hown hK.1 hP hD hS 0 rfl rfl 8 (by decide) f47 (fun _ h9 => h9) rfl (by decide +kernel) rfl rfl (Nat.le_of_ble_eq_true rfl) dX2_begin_15 (fun H locs hP hD hS => ?_)
  have hP : va_P g vwCl [(w, .inr (2, [.int (iI 300), .int (iI 10), .ref t0, .ref t1, .ref a0, .ref a1, .ref a2, .int (iI 0), .int (iI 0), .int (iI pe), .int (iI dr), .int (iI sta), .int (iI hd), .int (iI on), .int (iI lf), .int (iI rt)])), (t0, .inl (k.2.1, 10, .inr (.inl z5))), (t1, .inl (k.2.1, 3010, .inr (.inl tps))), (a0, .inl (k.1, 301, .inl (iF hs))), (a1, .inl (k.1, 301, .inl (iF ss))), (a2, .inl (k.1, 301, .inl (iF sd)))] H := hP
  have hD : va_D A [(w, .inr (2, [.int (iI 300), .int (iI 10), .ref t0, .ref t1, .ref a0, .ref a1, .ref a2, .int (iI 0), .int (iI 0), .int (iI pe), .int (iI dr), .int (iI sta), .int (iI hd), .int (iI on), .int (iI lf), .int (iI rt)])), (t0, .inl (k.2.1, 10, .inr (.inl z5))), (t1, .inl (k.2.1, 3010, .inr (.inl tps))), (a0, .inl (k.1, 301, .inl (iF hs))), (a1, .inl (k.1, 301, .inl (iF ss))), (a2, .inl (k.1, 301, .inl (iF sd)))] := hD
  refine lv_aload_n hx hb dX2_begin_18 rfl (lv_at hl 0 rfl) ?_
  refine lv_iconst (v := iI 0) hx hb dX2_begin_19 rfl ?_
  refine va_put (D := g) (ci := 2) (v := .int (iI 0)) (ty := .int) (C := RX2) (T := TX2) (N := 16) hx hb hts inX2 tyX2 tyX2_ok nmX2 hown hK.1 hP hD hS 0 rfl rfl 9 (by decide) f85 (fun _ h9 => h9) rfl (by decide +kernel) rfl rfl (Nat.le_of_ble_eq_true rfl) dX2_begin_20 (fun H locs hP hD hS => ?_)
  have hP : va_P g vwCl [(w, .inr (2, [.int (iI 300), .int (iI 10), .ref t0, .ref t1, .ref a0, .ref a1, .ref a2, .int (iI 0), .int (iI 0), .int (iI 0), .int (iI dr), .int (iI sta), .int (iI hd), .int (iI on), .int (iI lf), .int (iI rt)])), (t0, .inl (k.2.1, 10, .inr (.inl z5))), (t1, .inl (k.2.1, 3010, .inr (.inl tps))), (a0, .inl (k.1, 301, .inl (iF hs))), (a1, .inl (k.1, 301, .inl (iF ss))), (a2, .inl (k.1, 301, .inl (iF sd)))] H := hP
  have hD : va_D A [(w, .inr (2, [.int (iI 300), .int (iI 10), .ref t0, .ref t1, .ref a0, .ref a1, .ref a2, .int (iI 0), .int (iI 0), .int (iI 0), .int (iI dr), .int (iI sta), .int (iI hd), .int (iI on), .int (iI lf), .int (iI rt)])), (t0, .inl (k.2.1, 10, .inr (.inl z5))), (t1, .inl (k.2.1, 3010, .inr (.inl tps))), (a0, .inl (k.1, 301, .inl (iF hs))), (a1, .inl (k.1, 301, .inl (iF ss))), (a2, .inl (k.1, 301, .inl (iF sd)))] := hD
  refine lv_aload_n hx hb dX2_begin_23 rfl (lv_at hl 0 rfl) ?_
  refine lv_iconst (v := iI 0) hx hb dX2_begin_24 rfl ?_
  refine va_put (D := g) (ci := 2) (v := .int (iI 0)) (ty := .int) (C := RX2) (T := TX2) (N := 16) hx hb hts inX2 tyX2 tyX2_ok nmX2 hown hK.1 hP hD hS 0 rfl rfl 10 (by decide) f88 (fun _ h9 => h9) rfl (by decide +kernel) rfl rfl (Nat.le_of_ble_eq_true rfl) dX2_begin_25 (fun H locs hP hD hS => ?_)
  have hP : va_P g vwCl [(w, .inr (2, [.int (iI 300), .int (iI 10), .ref t0, .ref t1, .ref a0, .ref a1, .ref a2, .int (iI 0), .int (iI 0), .int (iI 0), .int (iI 0), .int (iI sta), .int (iI hd), .int (iI on), .int (iI lf), .int (iI rt)])), (t0, .inl (k.2.1, 10, .inr (.inl z5))), (t1, .inl (k.2.1, 3010, .inr (.inl tps))), (a0, .inl (k.1, 301, .inl (iF hs))), (a1, .inl (k.1, 301, .inl (iF ss))), (a2, .inl (k.1, 301, .inl (iF sd)))] H := hP
  have hD : va_D A [(w, .inr (2, [.int (iI 300), .int (iI 10), .ref t0, .ref t1, .ref a0, .ref a1, .ref a2, .int (iI 0), .int (iI 0), .int (iI 0), .int (iI 0), .int (iI sta), .int (iI hd), .int (iI on), .int (iI lf), .int (iI rt)])), (t0, .inl (k.2.1, 10, .inr (.inl z5))), (t1, .inl (k.2.1, 3010, .inr (.inl tps))), (a0, .inl (k.1, 301, .inl (iF hs))), (a1, .inl (k.1, 301, .inl (iF ss))), (a2, .inl (k.1, 301, .inl (iF sd)))] := hD
  refine lv_aload_n hx hb dX2_begin_28 rfl (lv_at hl 0 rfl) ?_
  refine lv_iconst (v := iI 0) hx hb dX2_begin_29 rfl ?_
  refine va_put (D := g) (ci := 2) (v := .int (iI 0)) (ty := .int) (C := RX2) (T := TX2) (N := 16) hx hb hts inX2 tyX2 tyX2_ok nmX2 hown hK.1 hP hD hS 0 rfl rfl 11 (by decide) f53 (fun _ h9 => h9) rfl (by decide +kernel) rfl rfl (Nat.le_of_ble_eq_true rfl) dX2_begin_30 (fun H locs hP hD hS => ?_)
  have hP : va_P g vwCl [(w, .inr (2, [.int (iI 300), .int (iI 10), .ref t0, .ref t1, .ref a0, .ref a1, .ref a2, .int (iI 0), .int (iI 0), .int (iI 0), .int (iI 0), .int (iI 0), .int (iI hd), .int (iI on), .int (iI lf), .int (iI rt)])), (t0, .inl (k.2.1, 10, .inr (.inl z5))), (t1, .inl (k.2.1, 3010, .inr (.inl tps))), (a0, .inl (k.1, 301, .inl (iF hs))), (a1, .inl (k.1, 301, .inl (iF ss))), (a2, .inl (k.1, 301, .inl (iF sd)))] H := hP
  have hD : va_D A [(w, .inr (2, [.int (iI 300), .int (iI 10), .ref t0, .ref t1, .ref a0, .ref a1, .ref a2, .int (iI 0), .int (iI 0), .int (iI 0), .int (iI 0), .int (iI 0), .int (iI hd), .int (iI on), .int (iI lf), .int (iI rt)])), (t0, .inl (k.2.1, 10, .inr (.inl z5))), (t1, .inl (k.2.1, 3010, .inr (.inl tps))), (a0, .inl (k.1, 301, .inl (iF hs))), (a1, .inl (k.1, 301, .inl (iF ss))), (a2, .inl (k.1, 301, .inl (iF sd)))] := hD
  refine lv_aload_n hx hb dX2_begin_33 rfl (lv_at hl 0 rfl) ?_
  refine lv_iconst (v := iI 0) hx hb dX2_begin_34 rfl ?_
  refine va_put (D := g) (ci := 2) (v := .int (iI 0)) (ty := .int) (C := RX2) (T := TX2) (N := 16) hx hb hts inX2 tyX2 tyX2_ok nmX2 hown hK.1 hP hD hS 0 rfl rfl 12 (by decide) f56 (fun _ h9 => h9) rfl (by decide +kernel) rfl rfl (Nat.le_of_ble_eq_true rfl) dX2_begin_35 (fun H locs hP hD hS => ?_)
  have hP : va_P g vwCl [(w, .inr (2, [.int (iI 300), .int (iI 10), .ref t0, .ref t1, .ref a0, .ref a1, .ref a2, .int (iI 0), .int (iI 0), .int (iI 0), .int (iI 0), .int (iI 0), .int (iI 0), .int (iI on), .int (iI lf), .int (iI rt)])), (t0, .inl (k.2.1, 10, .inr (.inl z5))), (t1, .inl (k.2.1, 3010, .inr (.inl tps))), (a0, .inl (k.1, 301, .inl (iF hs))), (a1, .inl (k.1, 301, .inl (iF ss))), (a2, .inl (k.1, 301, .inl (iF sd)))] H := hP
  have hD : va_D A [(w, .inr (2, [.int (iI 300), .int (iI 10), .ref t0, .ref t1, .ref a0, .ref a1, .ref a2, .int (iI 0), .int (iI 0), .int (iI 0), .int (iI 0), .int (iI 0), .int (iI 0), .int (iI on), .int (iI lf), .int (iI rt)])), (t0, .inl (k.2.1, 10, .inr (.inl z5))), (t1, .inl (k.2.1, 3010, .inr (.inl tps))), (a0, .inl (k.1, 301, .inl (iF hs))), (a1, .inl (k.1, 301, .inl (iF ss))), (a2, .inl (k.1, 301, .inl (iF sd)))] := hD
  refine lv_aload_n hx hb dX2_begin_38 rfl (lv_at hl 0 rfl) ?_
  refine lv_iconst (v := iI 0) hx hb dX2_begin_39 rfl ?_
  refine va_put (D := g) (ci := 2) (v := .int (iI 0)) (ty := .int) (C := RX2) (T := TX2) (N := 16) hx hb hts inX2 tyX2 tyX2_ok nmX2 hown hK.1 hP hD hS 0 rfl rfl 13 (by decide) f91 (fun _ h9 => h9) rfl (by decide +kernel) rfl rfl (Nat.le_of_ble_eq_true rfl) dX2_begin_40 (fun H locs hP hD hS => ?_)
  have hP : va_P g vwCl [(w, .inr (2, [.int (iI 300), .int (iI 10), .ref t0, .ref t1, .ref a0, .ref a1, .ref a2, .int (iI 0), .int (iI 0), .int (iI 0), .int (iI 0), .int (iI 0), .int (iI 0), .int (iI 0), .int (iI lf), .int (iI rt)])), (t0, .inl (k.2.1, 10, .inr (.inl z5))), (t1, .inl (k.2.1, 3010, .inr (.inl tps))), (a0, .inl (k.1, 301, .inl (iF hs))), (a1, .inl (k.1, 301, .inl (iF ss))), (a2, .inl (k.1, 301, .inl (iF sd)))] H := hP
  have hD : va_D A [(w, .inr (2, [.int (iI 300), .int (iI 10), .ref t0, .ref t1, .ref a0, .ref a1, .ref a2, .int (iI 0), .int (iI 0), .int (iI 0), .int (iI 0), .int (iI 0), .int (iI 0), .int (iI 0), .int (iI lf), .int (iI rt)])), (t0, .inl (k.2.1, 10, .inr (.inl z5))), (t1, .inl (k.2.1, 3010, .inr (.inl tps))), (a0, .inl (k.1, 301, .inl (iF hs))), (a1, .inl (k.1, 301, .inl (iF ss))), (a2, .inl (k.1, 301, .inl (iF sd)))] := hD
  refine lv_aload_n hx hb dX2_begin_43 rfl (lv_at hl 0 rfl) ?_
  refine lv_iconst (v := iI 0) hx hb dX2_begin_44 rfl ?_
  refine va_put (D := g) (ci := 2) (v := .int (iI 0)) (ty := .int) (C := RX2) (T := TX2) (N := 16) hx hb hts inX2 tyX2 tyX2_ok nmX2 hown hK.1 hP hD hS 0 rfl rfl 14 (by decide) f94 (fun _ h9 => h9) rfl (by decide +kernel) rfl rfl (Nat.le_of_ble_eq_true rfl) dX2_begin_45 (fun H locs hP hD hS => ?_)
  have hP : va_P g vwCl [(w, .inr (2, [.int (iI 300), .int (iI 10), .ref t0, .ref t1, .ref a0, .ref a1, .ref a2, .int (iI 0), .int (iI 0), .int (iI 0), .int (iI 0), .int (iI 0), .int (iI 0), .int (iI 0), .int (iI 0), .int (iI rt)])), (t0, .inl (k.2.1, 10, .inr (.inl z5))), (t1, .inl (k.2.1, 3010, .inr (.inl tps))), (a0, .inl (k.1, 301, .inl (iF hs))), (a1, .inl (k.1, 301, .inl (iF ss))), (a2, .inl (k.1, 301, .inl (iF sd)))] H := hP
  have hD : va_D A [(w, .inr (2, [.int (iI 300), .int (iI 10), .ref t0, .ref t1, .ref a0, .ref a1, .ref a2, .int (iI 0), .int (iI 0), .int (iI 0), .int (iI 0), .int (iI 0), .int (iI 0), .int (iI 0), .int (iI 0), .int (iI rt)])), (t0, .inl (k.2.1, 10, .inr (.inl z5))), (t1, .inl (k.2.1, 3010, .inr (.inl tps))), (a0, .inl (k.1, 301, .inl (iF hs))), (a1, .inl (k.1, 301, .inl (iF ss))), (a2, .inl (k.1, 301, .inl (iF sd)))] := hD
  refine lv_aload_n hx hb dX2_begin_48 rfl (lv_at hl 0 rfl) ?_
  refine lv_iconst (v := iI 0) hx hb dX2_begin_49 rfl ?_
  refine va_put (D := g) (ci := 2) (v := .int (iI 0)) (ty := .int) (C := RX2) (T := TX2) (N := 16) hx hb hts inX2 tyX2 tyX2_ok nmX2 hown hK.1 hP hD hS 0 rfl rfl 15 (by decide) f97 (fun _ h9 => h9) rfl (by decide +kernel) rfl rfl (Nat.le_of_ble_eq_true rfl) dX2_begin_50 (fun H locs hP hD hS => ?_)
  have hP : va_P g vwCl [(w, .inr (2, [.int (iI 300), .int (iI 10), .ref t0, .ref t1, .ref a0, .ref a1, .ref a2, .int (iI 0), .int (iI 0), .int (iI 0), .int (iI 0), .int (iI 0), .int (iI 0), .int (iI 0), .int (iI 0), .int (iI 0)])), (t0, .inl (k.2.1, 10, .inr (.inl z5))), (t1, .inl (k.2.1, 3010, .inr (.inl tps))), (a0, .inl (k.1, 301, .inl (iF hs))), (a1, .inl (k.1, 301, .inl (iF ss))), (a2, .inl (k.1, 301, .inl (iF sd)))] H := hP
  have hD : va_D A [(w, .inr (2, [.int (iI 300), .int (iI 10), .ref t0, .ref t1, .ref a0, .ref a1, .ref a2, .int (iI 0), .int (iI 0), .int (iI 0), .int (iI 0), .int (iI 0), .int (iI 0), .int (iI 0), .int (iI 0), .int (iI 0)])), (t0, .inl (k.2.1, 10, .inr (.inl z5))), (t1, .inl (k.2.1, 3010, .inr (.inl tps))), (a0, .inl (k.1, 301, .inl (iF hs))), (a1, .inl (k.1, 301, .inl (iF ss))), (a2, .inl (k.1, 301, .inl (iF sd)))] := hD
  refine lv_aload_n hx hb dX2_begin_53 rfl (lv_at hl 0 rfl) ?_
  refine lv_iconst (v := iI 0) hx hb dX2_begin_54 rfl ?_
  refine rc_V (own := RX2) (q := (RX2, TX2, 16)) (wc := [(w, .inr (2, [.int (iI 300), .int (iI 10), .ref t0, .ref t1, .ref a0, .ref a1, .ref a2, .int (iI 0), .int (iI 0), .int (iI 0), .int (iI 0), .int (iI 0), .int (iI 0), .int (iI 0), .int (iI 0), .int (iI 0)])), (t0, .inl (k.2.1, 10, .inr (.inl z5))), (t1, .inl (k.2.1, 3010, .inr (.inl tps))), (a0, .inl (k.1, 301, .inl (iF hs))), (a1, .inl (k.1, 301, .inl (iF ss))), (a2, .inl (k.1, 301, .inl (iF sd)))]) (wr := []) (As := [.int (iI 0)]) (rest := []) ⟨hx, hb, hml, hown, hts⟩ (c_note300 l g k w t0 t1 a0 a1 a2 0 0 0 0 0 0 0 0 0 z5 tps hs ss sd H.size 0 (by omega)) (cwV 1 hts gX2_begin_X2_note rfl rfl rfl (by decide +kernel) ⟨Nat.le_of_ble_eq_true rfl, Nat.le_of_ble_eq_true rfl⟩) hK hP hD hS hA [0, 1, 2, 3, 4, 5] [] rfl (by decide) rfl (by decide) (by decide) (ci := 2) (q0 := 0) rfl rfl rfl rfl hl.1 (Nat.le_of_ble_eq_true rfl) ⟨Nat.le_of_ble_eq_true rfl, Nat.le_of_ble_eq_true rfl⟩ dX2_begin_55 (fun u55 H locs hu55 hP hD hS => ?_)
  have hP : va_P g vwCl [(w, .inr (2, [.int (iI 300), .int (iI 10), .ref t0, .ref t1, .ref a0, .ref a1, .ref a2, .int (iI 0), .int (iI 0), .int (iI 0), .int (iI 0), .int (iI 0), .int (iI 0), .int (iI 0), .int (iI 0), .int (iI 0)])), (t0, .inl (k.2.1, 10, .inr (.inl z5))), (t1, .inl (k.2.1, 3010, .inr (.inl (va_cpy z5 tps 0 ((0 : Int) * 10).toNat 10)))), (a0, .inl (k.1, 301, .inl (iF (up hs 0 0)))), (a1, .inl (k.1, 301, .inl (iF (up ss 0 0)))), (a2, .inl (k.1, 301, .inl (iF (up sd 0 0))))] H := hP
  have hD : va_D A [(w, .inr (2, [.int (iI 300), .int (iI 10), .ref t0, .ref t1, .ref a0, .ref a1, .ref a2, .int (iI 0), .int (iI 0), .int (iI 0), .int (iI 0), .int (iI 0), .int (iI 0), .int (iI 0), .int (iI 0), .int (iI 0)])), (t0, .inl (k.2.1, 10, .inr (.inl z5))), (t1, .inl (k.2.1, 3010, .inr (.inl (va_cpy z5 tps 0 ((0 : Int) * 10).toNat 10)))), (a0, .inl (k.1, 301, .inl (iF (up hs 0 0)))), (a1, .inl (k.1, 301, .inl (iF (up ss 0 0)))), (a2, .inl (k.1, 301, .inl (iF (up sd 0 0))))] := hD
  obtain ⟨hP, hD⟩ := P_reJ (i := 1) (f' := bW 300 (fun _ => 0)) hP hD rfl (fun j hj => by rw [hu5 j hj, bW_0])
  exact hret (va_cpy z5 tps 0 ((0 : Int) * 10).toNat 10) _ _ _ _ dX2_begin_58 ⟨z5, hu5, rfl⟩ hP hD hS

set_option maxHeartbeats 4000000 in
set_option maxRecDepth 100000 in
theorem c_act120 (l : Launch) (g : va_G) (k : kT) (w t0 t1 a0 a1 a2 : Nat) (o st pe dr sta hd on lf rt : Int) (tps : Nat → Int64) (hs ss sd : Int → Int) (sz : Nat) (co : Int) (t : Int → Int) (h01 : ∀ j, t j = 0 ∨ t j = 1) (ht0 : ∀ j, (j < -120 ∨ 120 < j) → t j = 0) (hhd : -120 < hd ∧ hd < 120) (hst : 0 ≤ st ∧ st ≤ 120) (hco : 0 ≤ co ∧ co < 16) (hlr : -120 ≤ lf ∧ lf ≤ 120 ∧ -120 ≤ rt ∧ rt ≤ 120) : cV l yX2_act wsX2_act rm_3 g k (wW120 k w t0 t1 a0 a1 a2 o st pe dr sta hd on lf rt (bW 120 t) tps hs ss sd) sz [.ref w, .int (iI co)] 0 0 (fun _ : Unit => wW120 k w t0 t1 a0 a1 a2 o st pe dr (co / 4) (hdN co hd) (on + ((co % 2) - t hd)) (min lf (hdN co hd)) (max rt (hdN co hd)) (bW 120 (up t hd (co % 2))) (va_cpy (bW 120 (up t hd (co % 2))) tps 0 (st * 4).toNat 4) (up hs st (hdN co hd)) (up ss st (co / 4)) (up sd st (sdN lf rt (hdN co hd)))) (fun _ => True) := by
  refine st_V (by decide) rfl (Nat.le_of_ble_eq_true rfl) ?_
  intro p e s m below meth c Q A hx hb hml hown hts hin hA hP hD hS hK hret ls hl
  have hown : s.vm.findClass RX2 = some m.cls := hown
  have f56 := hts (.fieldLink RX2 56 "MachineTree$Walk" "head" "I") (by decide +kernel)
  have inX2 := (by decide +kernel : ∀ w ∈ wsX20, w ∈ wsX2_act)
  have f53 := hts (.fieldLink RX2 53 "MachineTree$Walk" "state" "I") (by decide +kernel)
  have f94 := hts (.fieldLink RX2 94 "MachineTree$Walk" "left" "I") (by decide +kernel)
  have f97 := hts (.fieldLink RX2 97 "MachineTree$Walk" "right" "I") (by decide +kernel)
  have hl : lv_has ls 3 [(0, .ref w), (1, .int (iI co))] := hl
  obtain ⟨H, hH⟩ : ∃ H, H = s.heap := ⟨_, rfl⟩
  obtain ⟨locs, hlo⟩ : ∃ L : List Loc, L = [] := ⟨_, rfl⟩
  rw [← hH] at hP
  have hS : va_S A s.heap H locs := by rw [hH, hlo]; exact hS
  rw [show W p l e rm_3 s m ([.ref w, .int (iI co)] : List Value).toArray below meth c s.heap [] 0 0 Q (F0 m 0 ls []) = W p l e rm_3 s m ([.ref w, .int (iI co)] : List Value).toArray below meth c H locs 0 0 Q (F0 m 0 ls []) by rw [hH, hlo]]
  clear hH hlo
  have hh := hdN_b co hd
  have hth := h01 hd
  refine lv_aload_n hx hb dX2_act_0 rfl (lv_at hl 0 rfl) ?_
  refine lv_iload_n hx hb dX2_act_1 rfl (lv_at hl 1 rfl) ?_
  refine lv_iconst (v := iI 1) hx hb dX2_act_2 rfl ?_
  refine ri_and1 (a := co) (b := 1) hx hb (by omega) 1 (by decide) dX2_act_3 ?_
  refine ri_ex (b := (co % 2)) (by first | rfl | simp | omega) ?_
  refine rc_V (own := RX2) (q := (RX2, TX2, 16)) (wc := [(w, .inr (2, [.int (iI 120), .int (iI 4), .ref t0, .ref t1, .ref a0, .ref a1, .ref a2, .int (iI o), .int (iI st), .int (iI pe), .int (iI dr), .int (iI sta), .int (iI hd), .int (iI on), .int (iI lf), .int (iI rt)])), (t0, .inl (k.2.1, 4, .inr (.inl (bW 120 t))))]) (wr := [(t1, .inl (k.2.1, 484, .inr (.inl tps))), (a0, .inl (k.1, 121, .inl (iF hs))), (a1, .inl (k.1, 121, .inl (iF ss))), (a2, .inl (k.1, 121, .inl (iF sd)))]) (As := [.int (iI (co % 2))]) (rest := []) ⟨hx, hb, hml, hown, hts⟩ (c_write120 l g k w t0 t1 a0 a1 a2 o st pe dr sta hd on lf rt H.size (co % 2) t h01 ht0 (by omega) (by omega)) (cwV 1 hts gX2_act_X2_write rfl rfl rfl (by decide +kernel) ⟨Nat.le_of_ble_eq_true rfl, Nat.le_of_ble_eq_true rfl⟩) hK hP hD hS hA [0, 1] [2, 3, 4, 5] rfl (by decide) rfl (by decide) (by decide) (ci := 2) (q0 := 0) rfl rfl rfl rfl hl.1 (Nat.le_of_ble_eq_true rfl) ⟨Nat.le_of_ble_eq_true rfl, Nat.le_of_ble_eq_true rfl⟩ dX2_act_4 (fun u4 H locs hu4 hP hD hS => ?_)
  obtain ⟨u4a, u4b⟩ := u4
  obtain ⟨e4a, e4b⟩ := hu4
  dsimp only at e4a e4b
  subst e4a e4b
  have hP : va_P g vwCl [(t1, .inl (k.2.1, 484, .inr (.inl tps))), (a0, .inl (k.1, 121, .inl (iF hs))), (a1, .inl (k.1, 121, .inl (iF ss))), (a2, .inl (k.1, 121, .inl (iF sd))), (w, .inr (2, [.int (iI 120), .int (iI 4), .ref t0, .ref t1, .ref a0, .ref a1, .ref a2, .int (iI o), .int (iI st), .int (iI pe), .int (iI dr), .int (iI sta), .int (iI hd), .int (iI (on + ((co % 2) - t hd))), .int (iI lf), .int (iI rt)])), (t0, .inl (k.2.1, 4, .inr (.inl (bW 120 (up t hd (co % 2))))))] H := hP
  have hD : va_D A [(t1, .inl (k.2.1, 484, .inr (.inl tps))), (a0, .inl (k.1, 121, .inl (iF hs))), (a1, .inl (k.1, 121, .inl (iF ss))), (a2, .inl (k.1, 121, .inl (iF sd))), (w, .inr (2, [.int (iI 120), .int (iI 4), .ref t0, .ref t1, .ref a0, .ref a1, .ref a2, .int (iI o), .int (iI st), .int (iI pe), .int (iI dr), .int (iI sta), .int (iI hd), .int (iI (on + ((co % 2) - t hd))), .int (iI lf), .int (iI rt)])), (t0, .inl (k.2.1, 4, .inr (.inl (bW 120 (up t hd (co % 2))))))] := hD
  have hP := hP.sub (ws' := [(w, .inr (2, [.int (iI 120), .int (iI 4), .ref t0, .ref t1, .ref a0, .ref a1, .ref a2, .int (iI o), .int (iI st), .int (iI pe), .int (iI dr), .int (iI sta), .int (iI hd), .int (iI (on + ((co % 2) - t hd))), .int (iI lf), .int (iI rt)])), (t0, .inl (k.2.1, 4, .inr (.inl (bW 120 (up t hd (co % 2)))))), (t1, .inl (k.2.1, 484, .inr (.inl tps))), (a0, .inl (k.1, 121, .inl (iF hs))), (a1, .inl (k.1, 121, .inl (iF ss))), (a2, .inl (k.1, 121, .inl (iF sd)))]) [4, 5, 0, 1, 2, 3] rfl
  have hD := hD.sub (ws' := [(w, .inr (2, [.int (iI 120), .int (iI 4), .ref t0, .ref t1, .ref a0, .ref a1, .ref a2, .int (iI o), .int (iI st), .int (iI pe), .int (iI dr), .int (iI sta), .int (iI hd), .int (iI (on + ((co % 2) - t hd))), .int (iI lf), .int (iI rt)])), (t0, .inl (k.2.1, 4, .inr (.inl (bW 120 (up t hd (co % 2)))))), (t1, .inl (k.2.1, 484, .inr (.inl tps))), (a0, .inl (k.1, 121, .inl (iF hs))), (a1, .inl (k.1, 121, .inl (iF ss))), (a2, .inl (k.1, 121, .inl (iF sd)))]) [4, 5, 0, 1, 2, 3] (by decide) rfl
  refine lv_aload_n hx hb dX2_act_7 rfl (lv_at hl 0 rfl) ?_
  refine lv_dup hx hb dX2_act_8 rfl ?_
  refine va_get (D := g) (ci := 2) (v := .int (iI hd)) (C := RX2) (T := TX2) (N := 16) hx hb hts inX2 hown hK.1 hP 0 rfl rfl 12 (by decide) f56 (fun _ h9 => h9) rfl dX2_act_9 ?_
  have J23 : ∀ (x : Int),  (hd + x = hdN co hd) → ∀ (ls : Array Slot), lv_has ls 3 [(0, .ref w), (1, .int (iI co))] → W p l e rm_3 s m ([.ref w, .int (iI co)] : List Value).toArray below meth c H locs 0 0 Q (F0 m 23 ls [.int (iI x), .int (iI hd), .ref w]) := by
    intro x hx9 ls hl
    refine ri_iadd (a := hd) (b := x) hx hb dX2_act_23 ?_
    refine ri_ex (b := (hdN co hd)) hx9 ?_
    refine va_put (D := g) (ci := 2) (v := .int (iI (hdN co hd))) (ty := .int) (C := RX2) (T := TX2) (N := 16) hx hb hts inX2 tyX2 tyX2_ok nmX2 hown hK.1 hP hD hS 0 rfl rfl 12 (by decide) f56 (fun _ h9 => h9) rfl (by decide +kernel) rfl rfl (Nat.le_of_ble_eq_true rfl) dX2_act_24 (fun H locs hP hD hS => ?_)
    have hP : va_P g vwCl [(w, .inr (2, [.int (iI 120), .int (iI 4), .ref t0, .ref t1, .ref a0, .ref a1, .ref a2, .int (iI o), .int (iI st), .int (iI pe), .int (iI dr), .int (iI sta), .int (iI (hdN co hd)), .int (iI (on + ((co % 2) - t hd))), .int (iI lf), .int (iI rt)])), (t0, .inl (k.2.1, 4, .inr (.inl (bW 120 (up t hd (co % 2)))))), (t1, .inl (k.2.1, 484, .inr (.inl tps))), (a0, .inl (k.1, 121, .inl (iF hs))), (a1, .inl (k.1, 121, .inl (iF ss))), (a2, .inl (k.1, 121, .inl (iF sd)))] H := hP
    have hD : va_D A [(w, .inr (2, [.int (iI 120), .int (iI 4), .ref t0, .ref t1, .ref a0, .ref a1, .ref a2, .int (iI o), .int (iI st), .int (iI pe), .int (iI dr), .int (iI sta), .int (iI (hdN co hd)), .int (iI (on + ((co % 2) - t hd))), .int (iI lf), .int (iI rt)])), (t0, .inl (k.2.1, 4, .inr (.inl (bW 120 (up t hd (co % 2)))))), (t1, .inl (k.2.1, 484, .inr (.inl tps))), (a0, .inl (k.1, 121, .inl (iF hs))), (a1, .inl (k.1, 121, .inl (iF ss))), (a2, .inl (k.1, 121, .inl (iF sd)))] := hD
    refine lv_aload_n hx hb dX2_act_27 rfl (lv_at hl 0 rfl) ?_
    refine lv_iload_n hx hb dX2_act_28 rfl (lv_at hl 1 rfl) ?_
    refine lv_iconst (v := iI 2) hx hb dX2_act_29 rfl ?_
    refine ri_shr (a := co) (b := 2) hx hb (by omega) 2 (by decide) dX2_act_30 ?_
    refine ri_ex (b := (co / 4)) (by first | rfl | simp | omega) ?_
    refine va_put (D := g) (ci := 2) (v := .int (iI (co / 4))) (ty := .int) (C := RX2) (T := TX2) (N := 16) hx hb hts inX2 tyX2 tyX2_ok nmX2 hown hK.1 hP hD hS 0 rfl rfl 11 (by decide) f53 (fun _ h9 => h9) rfl (by decide +kernel) rfl rfl (Nat.le_of_ble_eq_true rfl) dX2_act_31 (fun H locs hP hD hS => ?_)
    have hP : va_P g vwCl [(w, .inr (2, [.int (iI 120), .int (iI 4), .ref t0, .ref t1, .ref a0, .ref a1, .ref a2, .int (iI o), .int (iI st), .int (iI pe), .int (iI dr), .int (iI (co / 4)), .int (iI (hdN co hd)), .int (iI (on + ((co % 2) - t hd))), .int (iI lf), .int (iI rt)])), (t0, .inl (k.2.1, 4, .inr (.inl (bW 120 (up t hd (co % 2)))))), (t1, .inl (k.2.1, 484, .inr (.inl tps))), (a0, .inl (k.1, 121, .inl (iF hs))), (a1, .inl (k.1, 121, .inl (iF ss))), (a2, .inl (k.1, 121, .inl (iF sd)))] H := hP
    have hD : va_D A [(w, .inr (2, [.int (iI 120), .int (iI 4), .ref t0, .ref t1, .ref a0, .ref a1, .ref a2, .int (iI o), .int (iI st), .int (iI pe), .int (iI dr), .int (iI (co / 4)), .int (iI (hdN co hd)), .int (iI (on + ((co % 2) - t hd))), .int (iI lf), .int (iI rt)])), (t0, .inl (k.2.1, 4, .inr (.inl (bW 120 (up t hd (co % 2)))))), (t1, .inl (k.2.1, 484, .inr (.inl tps))), (a0, .inl (k.1, 121, .inl (iF hs))), (a1, .inl (k.1, 121, .inl (iF ss))), (a2, .inl (k.1, 121, .inl (iF sd)))] := hD
    have J65 : ∀ (x : Int),  (x = (sdN lf rt (hdN co hd))) → ∀ (ls : Array Slot), lv_has ls 3 [(0, .ref w), (1, .int (iI co))] → W p l e rm_3 s m ([.ref w, .int (iI co)] : List Value).toArray below meth c H locs 0 0 Q (F0 m 65 ls [.int (iI x)]) := by
      intro x hx9 ls hl
      refine lv_istore_n (lv' := [(2, .int (iI x)), (0, .ref w), (1, .int (iI co))]) hx hb dX2_act_65 rfl hl (by decide) rfl (fun ls hl => ?_)
      refine lv_aload_n hx hb dX2_act_66 rfl (lv_at hl 1 rfl) ?_
      refine lv_aload_n hx hb dX2_act_67 rfl (lv_at hl 1 rfl) ?_
      refine va_get (D := g) (ci := 2) (v := .int (iI lf)) (C := RX2) (T := TX2) (N := 16) hx hb hts inX2 hown hK.1 hP 0 rfl rfl 14 (by decide) f94 (fun _ h9 => h9) rfl dX2_act_68 ?_
      refine lv_aload_n hx hb dX2_act_71 rfl (lv_at hl 1 rfl) ?_
      refine va_get (D := g) (ci := 2) (v := .int (iI (hdN co hd))) (C := RX2) (T := TX2) (N := 16) hx hb hts inX2 hown hK.1 hP 0 rfl rfl 12 (by decide) f56 (fun _ h9 => h9) rfl dX2_act_72 ?_
      refine va_mmin hx hb (by rw [hml]; exact hl.1.symm) hown (hts (.methodLink RX2 9 Lib.Math.min.name) (by decide +kernel)) (hts (.static Lib.Math.min.name) (by decide +kernel)) (hts (.initialized "java/lang/Math") (by decide +kernel)) (hts (.code Lib.Math.min.name Lib.Math.min.code 2 (some .int)) (by decide +kernel)) (Nat.le_of_ble_eq_true rfl) (Nat.le_of_ble_eq_true rfl) (Nat.le_of_ble_eq_true rfl) (Nat.le_of_ble_eq_true rfl) dX2_act_75 ?_
      refine ri_top (iI_min (a := lf) (b := (hdN co hd)) (by omega) (by omega)) ?_
      refine va_put (D := g) (ci := 2) (v := .int (iI (min lf (hdN co hd)))) (ty := .int) (C := RX2) (T := TX2) (N := 16) hx hb hts inX2 tyX2 tyX2_ok nmX2 hown hK.1 hP hD hS 0 rfl rfl 14 (by decide) f94 (fun _ h9 => h9) rfl (by decide +kernel) rfl rfl (Nat.le_of_ble_eq_true rfl) dX2_act_78 (fun H locs hP hD hS => ?_)
      have hP : va_P g vwCl [(w, .inr (2, [.int (iI 120), .int (iI 4), .ref t0, .ref t1, .ref a0, .ref a1, .ref a2, .int (iI o), .int (iI st), .int (iI pe), .int (iI dr), .int (iI (co / 4)), .int (iI (hdN co hd)), .int (iI (on + ((co % 2) - t hd))), .int (iI (min lf (hdN co hd))), .int (iI rt)])), (t0, .inl (k.2.1, 4, .inr (.inl (bW 120 (up t hd (co % 2)))))), (t1, .inl (k.2.1, 484, .inr (.inl tps))), (a0, .inl (k.1, 121, .inl (iF hs))), (a1, .inl (k.1, 121, .inl (iF ss))), (a2, .inl (k.1, 121, .inl (iF sd)))] H := hP
      have hD : va_D A [(w, .inr (2, [.int (iI 120), .int (iI 4), .ref t0, .ref t1, .ref a0, .ref a1, .ref a2, .int (iI o), .int (iI st), .int (iI pe), .int (iI dr), .int (iI (co / 4)), .int (iI (hdN co hd)), .int (iI (on + ((co % 2) - t hd))), .int (iI (min lf (hdN co hd))), .int (iI rt)])), (t0, .inl (k.2.1, 4, .inr (.inl (bW 120 (up t hd (co % 2)))))), (t1, .inl (k.2.1, 484, .inr (.inl tps))), (a0, .inl (k.1, 121, .inl (iF hs))), (a1, .inl (k.1, 121, .inl (iF ss))), (a2, .inl (k.1, 121, .inl (iF sd)))] := hD
      refine lv_aload_n hx hb dX2_act_81 rfl (lv_at hl 1 rfl) ?_
      refine lv_aload_n hx hb dX2_act_82 rfl (lv_at hl 1 rfl) ?_
      refine va_get (D := g) (ci := 2) (v := .int (iI rt)) (C := RX2) (T := TX2) (N := 16) hx hb hts inX2 hown hK.1 hP 0 rfl rfl 15 (by decide) f97 (fun _ h9 => h9) rfl dX2_act_83 ?_
      refine lv_aload_n hx hb dX2_act_86 rfl (lv_at hl 1 rfl) ?_
      refine va_get (D := g) (ci := 2) (v := .int (iI (hdN co hd))) (C := RX2) (T := TX2) (N := 16) hx hb hts inX2 hown hK.1 hP 0 rfl rfl 12 (by decide) f56 (fun _ h9 => h9) rfl dX2_act_87 ?_
      refine va_mmax hx hb (by rw [hml]; exact hl.1.symm) hown (hts (.methodLink RX2 15 Lib.Math.max.name) (by decide +kernel)) (hts (.static Lib.Math.max.name) (by decide +kernel)) (hts (.initialized "java/lang/Math") (by decide +kernel)) (hts (.code Lib.Math.max.name Lib.Math.max.code 2 (some .int)) (by decide +kernel)) (Nat.le_of_ble_eq_true rfl) (Nat.le_of_ble_eq_true rfl) (Nat.le_of_ble_eq_true rfl) (Nat.le_of_ble_eq_true rfl) dX2_act_90 ?_
      refine ri_top (iI_max (a := rt) (b := (hdN co hd)) (by omega) (by omega)) ?_
      refine va_put (D := g) (ci := 2) (v := .int (iI (max rt (hdN co hd)))) (ty := .int) (C := RX2) (T := TX2) (N := 16) hx hb hts inX2 tyX2 tyX2_ok nmX2 hown hK.1 hP hD hS 0 rfl rfl 15 (by decide) f97 (fun _ h9 => h9) rfl (by decide +kernel) rfl rfl (Nat.le_of_ble_eq_true rfl) dX2_act_93 (fun H locs hP hD hS => ?_)
      have hP : va_P g vwCl [(w, .inr (2, [.int (iI 120), .int (iI 4), .ref t0, .ref t1, .ref a0, .ref a1, .ref a2, .int (iI o), .int (iI st), .int (iI pe), .int (iI dr), .int (iI (co / 4)), .int (iI (hdN co hd)), .int (iI (on + ((co % 2) - t hd))), .int (iI (min lf (hdN co hd))), .int (iI (max rt (hdN co hd)))])), (t0, .inl (k.2.1, 4, .inr (.inl (bW 120 (up t hd (co % 2)))))), (t1, .inl (k.2.1, 484, .inr (.inl tps))), (a0, .inl (k.1, 121, .inl (iF hs))), (a1, .inl (k.1, 121, .inl (iF ss))), (a2, .inl (k.1, 121, .inl (iF sd)))] H := hP
      have hD : va_D A [(w, .inr (2, [.int (iI 120), .int (iI 4), .ref t0, .ref t1, .ref a0, .ref a1, .ref a2, .int (iI o), .int (iI st), .int (iI pe), .int (iI dr), .int (iI (co / 4)), .int (iI (hdN co hd)), .int (iI (on + ((co % 2) - t hd))), .int (iI (min lf (hdN co hd))), .int (iI (max rt (hdN co hd)))])), (t0, .inl (k.2.1, 4, .inr (.inl (bW 120 (up t hd (co % 2)))))), (t1, .inl (k.2.1, 484, .inr (.inl tps))), (a0, .inl (k.1, 121, .inl (iF hs))), (a1, .inl (k.1, 121, .inl (iF ss))), (a2, .inl (k.1, 121, .inl (iF sd)))] := hD
      refine lv_aload_n hx hb dX2_act_96 rfl (lv_at hl 1 rfl) ?_
      refine lv_iload_n hx hb dX2_act_97 rfl (lv_at hl 0 rfl) ?_
      refine rc_V (own := RX2) (q := (RX2, TX2, 16)) (wc := [(w, .inr (2, [.int (iI 120), .int (iI 4), .ref t0, .ref t1, .ref a0, .ref a1, .ref a2, .int (iI o), .int (iI st), .int (iI pe), .int (iI dr), .int (iI (co / 4)), .int (iI (hdN co hd)), .int (iI (on + ((co % 2) - t hd))), .int (iI (min lf (hdN co hd))), .int (iI (max rt (hdN co hd)))])), (t0, .inl (k.2.1, 4, .inr (.inl (bW 120 (up t hd (co % 2)))))), (t1, .inl (k.2.1, 484, .inr (.inl tps))), (a0, .inl (k.1, 121, .inl (iF hs))), (a1, .inl (k.1, 121, .inl (iF ss))), (a2, .inl (k.1, 121, .inl (iF sd)))]) (wr := []) (As := [.int (iI x)]) (rest := []) ⟨hx, hb, hml, hown, hts⟩ (c_note120 l g k w t0 t1 a0 a1 a2 o st pe dr (co / 4) (hdN co hd) (on + ((co % 2) - t hd)) (min lf (hdN co hd)) (max rt (hdN co hd)) (bW 120 (up t hd (co % 2))) tps hs ss sd H.size x (by omega)) (cwV 1 hts gX2_act_X2_note rfl rfl rfl (by decide +kernel) ⟨Nat.le_of_ble_eq_true rfl, Nat.le_of_ble_eq_true rfl⟩) hK hP hD hS hA [0, 1, 2, 3, 4, 5] [] rfl (by decide) rfl (by decide) (by decide) (ci := 2) (q0 := 0) rfl rfl rfl rfl hl.1 (Nat.le_of_ble_eq_true rfl) ⟨Nat.le_of_ble_eq_true rfl, Nat.le_of_ble_eq_true rfl⟩ dX2_act_98 (fun u98 H locs hu98 hP hD hS => ?_)
      have hP : va_P g vwCl [(w, .inr (2, [.int (iI 120), .int (iI 4), .ref t0, .ref t1, .ref a0, .ref a1, .ref a2, .int (iI o), .int (iI st), .int (iI pe), .int (iI dr), .int (iI (co / 4)), .int (iI (hdN co hd)), .int (iI (on + ((co % 2) - t hd))), .int (iI (min lf (hdN co hd))), .int (iI (max rt (hdN co hd)))])), (t0, .inl (k.2.1, 4, .inr (.inl (bW 120 (up t hd (co % 2)))))), (t1, .inl (k.2.1, 484, .inr (.inl (va_cpy (bW 120 (up t hd (co % 2))) tps 0 (st * 4).toNat 4)))), (a0, .inl (k.1, 121, .inl (iF (up hs st (hdN co hd))))), (a1, .inl (k.1, 121, .inl (iF (up ss st (co / 4))))), (a2, .inl (k.1, 121, .inl (iF (up sd st x))))] H := hP
      have hD : va_D A [(w, .inr (2, [.int (iI 120), .int (iI 4), .ref t0, .ref t1, .ref a0, .ref a1, .ref a2, .int (iI o), .int (iI st), .int (iI pe), .int (iI dr), .int (iI (co / 4)), .int (iI (hdN co hd)), .int (iI (on + ((co % 2) - t hd))), .int (iI (min lf (hdN co hd))), .int (iI (max rt (hdN co hd)))])), (t0, .inl (k.2.1, 4, .inr (.inl (bW 120 (up t hd (co % 2)))))), (t1, .inl (k.2.1, 484, .inr (.inl (va_cpy (bW 120 (up t hd (co % 2))) tps 0 (st * 4).toNat 4)))), (a0, .inl (k.1, 121, .inl (iF (up hs st (hdN co hd))))), (a1, .inl (k.1, 121, .inl (iF (up ss st (co / 4))))), (a2, .inl (k.1, 121, .inl (iF (up sd st x))))] := hD
      subst hx9
      exact hret () _ _ _ _ dX2_act_101 trivial hP hD hS
    refine lv_aload_n hx hb dX2_act_34 rfl (lv_at hl 0 rfl) ?_
    refine va_get (D := g) (ci := 2) (v := .int (iI (hdN co hd))) (C := RX2) (T := TX2) (N := 16) hx hb hts inX2 hown hK.1 hP 0 rfl rfl 12 (by decide) f56 (fun _ h9 => h9) rfl dX2_act_35 ?_
    refine lv_aload_n hx hb dX2_act_38 rfl (lv_at hl 0 rfl) ?_
    refine va_get (D := g) (ci := 2) (v := .int (iI rt)) (C := RX2) (T := TX2) (N := 16) hx hb hts inX2 hown hK.1 hP 0 rfl rfl 15 (by decide) f97 (fun _ h9 => h9) rfl dX2_act_39 ?_
    refine ri_icmp_le (a := (hdN co hd)) (b := rt) (tgt := 49) hx hb (by omega) (by omega) dX2_act_42 (by decide) (fun c42 => ?_) (fun c42 => ?_)
    · skip
      refine lv_aload_n hx hb dX2_act_49 rfl (lv_at hl 0 rfl) ?_
      refine va_get (D := g) (ci := 2) (v := .int (iI (hdN co hd))) (C := RX2) (T := TX2) (N := 16) hx hb hts inX2 hown hK.1 hP 0 rfl rfl 12 (by decide) f56 (fun _ h9 => h9) rfl dX2_act_50 ?_
      refine lv_aload_n hx hb dX2_act_53 rfl (lv_at hl 0 rfl) ?_
      refine va_get (D := g) (ci := 2) (v := .int (iI lf)) (C := RX2) (T := TX2) (N := 16) hx hb hts inX2 hown hK.1 hP 0 rfl rfl 14 (by decide) f94 (fun _ h9 => h9) rfl dX2_act_54 ?_
      refine ri_icmp_ge (a := (hdN co hd)) (b := lf) (tgt := 64) hx hb (by omega) (by omega) dX2_act_57 (by decide) (fun c57 => ?_) (fun c57 => ?_)
      · skip
        refine lv_iconst (v := iI 0) hx hb dX2_act_64 rfl ?_
        exact J65 0 (by unfold sdN; rw [if_neg (by omega), if_neg (by omega)]) _ (lv_sub hl [0, 1] rfl)
      · skip
        refine lv_iconst (v := iI (-1)) hx hb dX2_act_60 rfl ?_
        refine lv_goto (tgt := 65) hx hb dX2_act_61 (by decide) ?_
        exact J65 (-1) (by unfold sdN; rw [if_neg (by omega), if_pos (by omega)]) _ (lv_sub hl [0, 1] rfl)
    · skip
      refine lv_iconst (v := iI 1) hx hb dX2_act_45 rfl ?_
      refine lv_goto (tgt := 65) hx hb dX2_act_46 (by decide) ?_
      exact J65 1 (by unfold sdN; rw [if_pos (by omega)]) _ (lv_sub hl [0, 1] rfl)
  refine lv_iload_n hx hb dX2_act_12 rfl (lv_at hl 1 rfl) ?_
  refine lv_iconst (v := iI 2) hx hb dX2_act_13 rfl ?_
  refine ri_and2 (a := co) hx hb (by omega) dX2_act_14 ?_
  refine ri_if_eq (a := (2 * (co / 2 % 2))) (tgt := 22) hx hb (by omega) dX2_act_15 (by decide) (fun c15 => ?_) (fun c15 => ?_)
  · skip
    refine lv_iconst (v := iI (-1)) hx hb dX2_act_22 rfl ?_
    exact J23 (-1) (by unfold hdN; rw [if_pos (by omega)]; omega) _ (lv_sub hl [0, 1] rfl)
  · skip
    refine lv_iconst (v := iI 1) hx hb dX2_act_18 rfl ?_
    refine lv_goto (tgt := 23) hx hb dX2_act_19 (by decide) ?_
    exact J23 1 (by unfold hdN; rw [if_neg (by omega)]) _ (lv_sub hl [0, 1] rfl)

set_option maxHeartbeats 4000000 in
set_option maxRecDepth 100000 in
theorem c_begin120 (l : Launch) (g : va_G) (k : kT) (w t0 t1 a0 a1 a2 : Nat) (o st pe dr sta hd on lf rt : Int) (tp tps : Nat → Int64) (hs ss sd : Int → Int) (sz : Nat) : cV l yX2_begin wsX2_begin rm_2 g k (wW120 k w t0 t1 a0 a1 a2 o st pe dr sta hd on lf rt tp tps hs ss sd) sz [.ref w] 0 0 (fun u : Nat → Int64 => wW120 k w t0 t1 a0 a1 a2 0 0 0 0 0 0 0 0 0 (bW 120 (fun _ => 0)) u (up hs 0 0) (up ss 0 0) (up sd 0 0)) (fun u => ∃ z : Nat → Int64, (∀ j : Nat, j < 4 → z j = 0) ∧ u = va_cpy z tps 0 ((0 : Int) * 4).toNat 4) := by
  refine st_V (by decide) rfl (Nat.le_of_ble_eq_true rfl) ?_
  intro p e s m below meth c Q A hx hb hml hown hts hin hA hP hD hS hK hret ls hl
  have hown : s.vm.findClass RX2 = some m.cls := hown
  have f27 := hts (.fieldLink RX2 27 "MachineTree$Walk" "tape" "[J") (by decide +kernel)
  have inX2 := (by decide +kernel : ∀ w ∈ wsX20, w ∈ wsX2_begin)
  have f50 := hts (.fieldLink RX2 50 "MachineTree$Walk" "outcome" "I") (by decide +kernel)
  have f47 := hts (.fieldLink RX2 47 "MachineTree$Walk" "steps" "I") (by decide +kernel)
  have f85 := hts (.fieldLink RX2 85 "MachineTree$Walk" "period" "I") (by decide +kernel)
  have f88 := hts (.fieldLink RX2 88 "MachineTree$Walk" "drift" "I") (by decide +kernel)
  have f53 := hts (.fieldLink RX2 53 "MachineTree$Walk" "state" "I") (by decide +kernel)
  have f56 := hts (.fieldLink RX2 56 "MachineTree$Walk" "head" "I") (by decide +kernel)
  have f91 := hts (.fieldLink RX2 91 "MachineTree$Walk" "ones" "I") (by decide +kernel)
  have f94 := hts (.fieldLink RX2 94 "MachineTree$Walk" "left" "I") (by decide +kernel)
  have f97 := hts (.fieldLink RX2 97 "MachineTree$Walk" "right" "I") (by decide +kernel)
  have hl : lv_has ls 1 [(0, .ref w)] := hl
  obtain ⟨H, hH⟩ : ∃ H, H = s.heap := ⟨_, rfl⟩
  obtain ⟨locs, hlo⟩ : ∃ L : List Loc, L = [] := ⟨_, rfl⟩
  rw [← hH] at hP
  have hS : va_S A s.heap H locs := by rw [hH, hlo]; exact hS
  rw [show W p l e rm_2 s m ([.ref w] : List Value).toArray below meth c s.heap [] 0 0 Q (F0 m 0 ls []) = W p l e rm_2 s m ([.ref w] : List Value).toArray below meth c H locs 0 0 Q (F0 m 0 ls []) by rw [hH, hlo]]
  clear hH hlo
  refine lv_aload_n hx hb dX2_begin_0 rfl (lv_at hl 0 rfl) ?_
  refine va_get (D := g) (ci := 2) (v := .ref t0) (C := RX2) (T := TX2) (N := 16) hx hb hts inX2 hown hK.1 hP 0 rfl rfl 2 (by decide) f27 (fun _ h9 => h9) rfl dX2_begin_1 ?_
  refine lv_lconst (v := 0) hx hb dX2_begin_4 rfl ?_
  refine rc_SV (own := RX2) (wc := [(t0, .inl (k.2.1, 4, .inr (.inl tp)))]) (wr := [(w, .inr (2, [.int (iI 120), .int (iI 4), .ref t0, .ref t1, .ref a0, .ref a1, .ref a2, .int (iI o), .int (iI st), .int (iI pe), .int (iI dr), .int (iI sta), .int (iI hd), .int (iI on), .int (iI lf), .int (iI rt)])), (t1, .inl (k.2.1, 484, .inr (.inl tps))), (a0, .inl (k.1, 121, .inl (iF hs))), (a1, .inl (k.1, 121, .inl (iF ss))), (a2, .inl (k.1, 121, .inl (iF sd)))]) (As := [.ref t0, .long 0]) (rest := []) ⟨hx, hb, hml, hown, hts⟩ (c_fillJ l g k t0 4 tp H.size 0 (by decide)) (va_cwS 2 hts gX2_begin_J7_fill_d0a16 rfl rfl rfl (by decide +kernel) ⟨Nat.le_of_ble_eq_true rfl, Nat.le_of_ble_eq_true rfl⟩) hK hP hD hS hA [1] [0, 2, 3, 4, 5] rfl (by decide) rfl (by decide) (by decide) rfl rfl hl.1 (Nat.le_of_ble_eq_true rfl) ⟨Nat.le_of_ble_eq_true rfl, Nat.le_of_ble_eq_true rfl⟩ dX2_begin_5 (fun z5 H locs hu5 hP hD hS => ?_)
  have hP : va_P g vwCl [(w, .inr (2, [.int (iI 120), .int (iI 4), .ref t0, .ref t1, .ref a0, .ref a1, .ref a2, .int (iI o), .int (iI st), .int (iI pe), .int (iI dr), .int (iI sta), .int (iI hd), .int (iI on), .int (iI lf), .int (iI rt)])), (t1, .inl (k.2.1, 484, .inr (.inl tps))), (a0, .inl (k.1, 121, .inl (iF hs))), (a1, .inl (k.1, 121, .inl (iF ss))), (a2, .inl (k.1, 121, .inl (iF sd))), (t0, .inl (k.2.1, 4, .inr (.inl z5)))] H := hP
  have hD : va_D A [(w, .inr (2, [.int (iI 120), .int (iI 4), .ref t0, .ref t1, .ref a0, .ref a1, .ref a2, .int (iI o), .int (iI st), .int (iI pe), .int (iI dr), .int (iI sta), .int (iI hd), .int (iI on), .int (iI lf), .int (iI rt)])), (t1, .inl (k.2.1, 484, .inr (.inl tps))), (a0, .inl (k.1, 121, .inl (iF hs))), (a1, .inl (k.1, 121, .inl (iF ss))), (a2, .inl (k.1, 121, .inl (iF sd))), (t0, .inl (k.2.1, 4, .inr (.inl z5)))] := hD
  have hP := hP.sub (ws' := [(w, .inr (2, [.int (iI 120), .int (iI 4), .ref t0, .ref t1, .ref a0, .ref a1, .ref a2, .int (iI o), .int (iI st), .int (iI pe), .int (iI dr), .int (iI sta), .int (iI hd), .int (iI on), .int (iI lf), .int (iI rt)])), (t0, .inl (k.2.1, 4, .inr (.inl z5))), (t1, .inl (k.2.1, 484, .inr (.inl tps))), (a0, .inl (k.1, 121, .inl (iF hs))), (a1, .inl (k.1, 121, .inl (iF ss))), (a2, .inl (k.1, 121, .inl (iF sd)))]) [0, 5, 1, 2, 3, 4] rfl
  have hD := hD.sub (ws' := [(w, .inr (2, [.int (iI 120), .int (iI 4), .ref t0, .ref t1, .ref a0, .ref a1, .ref a2, .int (iI o), .int (iI st), .int (iI pe), .int (iI dr), .int (iI sta), .int (iI hd), .int (iI on), .int (iI lf), .int (iI rt)])), (t0, .inl (k.2.1, 4, .inr (.inl z5))), (t1, .inl (k.2.1, 484, .inr (.inl tps))), (a0, .inl (k.1, 121, .inl (iF hs))), (a1, .inl (k.1, 121, .inl (iF ss))), (a2, .inl (k.1, 121, .inl (iF sd)))]) [0, 5, 1, 2, 3, 4] (by decide) rfl
  refine lv_aload_n hx hb dX2_begin_8 rfl (lv_at hl 0 rfl) ?_
  refine lv_iconst (v := iI 0) hx hb dX2_begin_9 rfl ?_
  refine va_put (D := g) (ci := 2) (v := .int (iI 0)) (ty := .int) (C := RX2) (T := TX2) (N := 16) hx hb hts inX2 tyX2 tyX2_ok nmX2 hown hK.1 hP hD hS 0 rfl rfl 7 (by decide) f50 (fun _ h9 => h9) rfl (by decide +kernel) rfl rfl (Nat.le_of_ble_eq_true rfl) dX2_begin_10 (fun H locs hP hD hS => ?_)
  have hP : va_P g vwCl [(w, .inr (2, [.int (iI 120), .int (iI 4), .ref t0, .ref t1, .ref a0, .ref a1, .ref a2, .int (iI 0), .int (iI st), .int (iI pe), .int (iI dr), .int (iI sta), .int (iI hd), .int (iI on), .int (iI lf), .int (iI rt)])), (t0, .inl (k.2.1, 4, .inr (.inl z5))), (t1, .inl (k.2.1, 484, .inr (.inl tps))), (a0, .inl (k.1, 121, .inl (iF hs))), (a1, .inl (k.1, 121, .inl (iF ss))), (a2, .inl (k.1, 121, .inl (iF sd)))] H := hP
  have hD : va_D A [(w, .inr (2, [.int (iI 120), .int (iI 4), .ref t0, .ref t1, .ref a0, .ref a1, .ref a2, .int (iI 0), .int (iI st), .int (iI pe), .int (iI dr), .int (iI sta), .int (iI hd), .int (iI on), .int (iI lf), .int (iI rt)])), (t0, .inl (k.2.1, 4, .inr (.inl z5))), (t1, .inl (k.2.1, 484, .inr (.inl tps))), (a0, .inl (k.1, 121, .inl (iF hs))), (a1, .inl (k.1, 121, .inl (iF ss))), (a2, .inl (k.1, 121, .inl (iF sd)))] := hD
  refine lv_aload_n hx hb dX2_begin_13 rfl (lv_at hl 0 rfl) ?_
  refine lv_iconst (v := iI 0) hx hb dX2_begin_14 rfl ?_
  refine va_put (D := g) (ci := 2) (v := .int (iI 0)) (ty := .int) (C := RX2) (T := TX2) (N := 16) hx hb hts inX2 tyX2 tyX2_ok nmX2 hown hK.1 hP hD hS 0 rfl rfl 8 (by decide) f47 (fun _ h9 => h9) rfl (by decide +kernel) rfl rfl (Nat.le_of_ble_eq_true rfl) dX2_begin_15 (fun H locs hP hD hS => ?_)
  have hP : va_P g vwCl [(w, .inr (2, [.int (iI 120), .int (iI 4), .ref t0, .ref t1, .ref a0, .ref a1, .ref a2, .int (iI 0), .int (iI 0), .int (iI pe), .int (iI dr), .int (iI sta), .int (iI hd), .int (iI on), .int (iI lf), .int (iI rt)])), (t0, .inl (k.2.1, 4, .inr (.inl z5))), (t1, .inl (k.2.1, 484, .inr (.inl tps))), (a0, .inl (k.1, 121, .inl (iF hs))), (a1, .inl (k.1, 121, .inl (iF ss))), (a2, .inl (k.1, 121, .inl (iF sd)))] H := hP
  have hD : va_D A [(w, .inr (2, [.int (iI 120), .int (iI 4), .ref t0, .ref t1, .ref a0, .ref a1, .ref a2, .int (iI 0), .int (iI 0), .int (iI pe), .int (iI dr), .int (iI sta), .int (iI hd), .int (iI on), .int (iI lf), .int (iI rt)])), (t0, .inl (k.2.1, 4, .inr (.inl z5))), (t1, .inl (k.2.1, 484, .inr (.inl tps))), (a0, .inl (k.1, 121, .inl (iF hs))), (a1, .inl (k.1, 121, .inl (iF ss))), (a2, .inl (k.1, 121, .inl (iF sd)))] := hD
  refine lv_aload_n hx hb dX2_begin_18 rfl (lv_at hl 0 rfl) ?_
  refine lv_iconst (v := iI 0) hx hb dX2_begin_19 rfl ?_
  refine va_put (D := g) (ci := 2) (v := .int (iI 0)) (ty := .int) (C := RX2) (T := TX2) (N := 16) hx hb hts inX2 tyX2 tyX2_ok nmX2 hown hK.1 hP hD hS 0 rfl rfl 9 (by decide) f85 (fun _ h9 => h9) rfl (by decide +kernel) rfl rfl (Nat.le_of_ble_eq_true rfl) dX2_begin_20 (fun H locs hP hD hS => ?_)
  have hP : va_P g vwCl [(w, .inr (2, [.int (iI 120), .int (iI 4), .ref t0, .ref t1, .ref a0, .ref a1, .ref a2, .int (iI 0), .int (iI 0), .int (iI 0), .int (iI dr), .int (iI sta), .int (iI hd), .int (iI on), .int (iI lf), .int (iI rt)])), (t0, .inl (k.2.1, 4, .inr (.inl z5))), (t1, .inl (k.2.1, 484, .inr (.inl tps))), (a0, .inl (k.1, 121, .inl (iF hs))), (a1, .inl (k.1, 121, .inl (iF ss))), (a2, .inl (k.1, 121, .inl (iF sd)))] H := hP
  have hD : va_D A [(w, .inr (2, [.int (iI 120), .int (iI 4), .ref t0, .ref t1, .ref a0, .ref a1, .ref a2, .int (iI 0), .int (iI 0), .int (iI 0), .int (iI dr), .int (iI sta), .int (iI hd), .int (iI on), .int (iI lf), .int (iI rt)])), (t0, .inl (k.2.1, 4, .inr (.inl z5))), (t1, .inl (k.2.1, 484, .inr (.inl tps))), (a0, .inl (k.1, 121, .inl (iF hs))), (a1, .inl (k.1, 121, .inl (iF ss))), (a2, .inl (k.1, 121, .inl (iF sd)))] := hD
  refine lv_aload_n hx hb dX2_begin_23 rfl (lv_at hl 0 rfl) ?_
  refine lv_iconst (v := iI 0) hx hb dX2_begin_24 rfl ?_
  refine va_put (D := g) (ci := 2) (v := .int (iI 0)) (ty := .int) (C := RX2) (T := TX2) (N := 16) hx hb hts inX2 tyX2 tyX2_ok nmX2 hown hK.1 hP hD hS 0 rfl rfl 10 (by decide) f88 (fun _ h9 => h9) rfl (by decide +kernel) rfl rfl (Nat.le_of_ble_eq_true rfl) dX2_begin_25 (fun H locs hP hD hS => ?_)
  have hP : va_P g vwCl [(w, .inr (2, [.int (iI 120), .int (iI 4), .ref t0, .ref t1, .ref a0, .ref a1, .ref a2, .int (iI 0), .int (iI 0), .int (iI 0), .int (iI 0), .int (iI sta), .int (iI hd), .int (iI on), .int (iI lf), .int (iI rt)])), (t0, .inl (k.2.1, 4, .inr (.inl z5))), (t1, .inl (k.2.1, 484, .inr (.inl tps))), (a0, .inl (k.1, 121, .inl (iF hs))), (a1, .inl (k.1, 121, .inl (iF ss))), (a2, .inl (k.1, 121, .inl (iF sd)))] H := hP
  have hD : va_D A [(w, .inr (2, [.int (iI 120), .int (iI 4), .ref t0, .ref t1, .ref a0, .ref a1, .ref a2, .int (iI 0), .int (iI 0), .int (iI 0), .int (iI 0), .int (iI sta), .int (iI hd), .int (iI on), .int (iI lf), .int (iI rt)])), (t0, .inl (k.2.1, 4, .inr (.inl z5))), (t1, .inl (k.2.1, 484, .inr (.inl tps))), (a0, .inl (k.1, 121, .inl (iF hs))), (a1, .inl (k.1, 121, .inl (iF ss))), (a2, .inl (k.1, 121, .inl (iF sd)))] := hD
  refine lv_aload_n hx hb dX2_begin_28 rfl (lv_at hl 0 rfl) ?_
  refine lv_iconst (v := iI 0) hx hb dX2_begin_29 rfl ?_
  refine va_put (D := g) (ci := 2) (v := .int (iI 0)) (ty := .int) (C := RX2) (T := TX2) (N := 16) hx hb hts inX2 tyX2 tyX2_ok nmX2 hown hK.1 hP hD hS 0 rfl rfl 11 (by decide) f53 (fun _ h9 => h9) rfl (by decide +kernel) rfl rfl (Nat.le_of_ble_eq_true rfl) dX2_begin_30 (fun H locs hP hD hS => ?_)
  have hP : va_P g vwCl [(w, .inr (2, [.int (iI 120), .int (iI 4), .ref t0, .ref t1, .ref a0, .ref a1, .ref a2, .int (iI 0), .int (iI 0), .int (iI 0), .int (iI 0), .int (iI 0), .int (iI hd), .int (iI on), .int (iI lf), .int (iI rt)])), (t0, .inl (k.2.1, 4, .inr (.inl z5))), (t1, .inl (k.2.1, 484, .inr (.inl tps))), (a0, .inl (k.1, 121, .inl (iF hs))), (a1, .inl (k.1, 121, .inl (iF ss))), (a2, .inl (k.1, 121, .inl (iF sd)))] H := hP
  have hD : va_D A [(w, .inr (2, [.int (iI 120), .int (iI 4), .ref t0, .ref t1, .ref a0, .ref a1, .ref a2, .int (iI 0), .int (iI 0), .int (iI 0), .int (iI 0), .int (iI 0), .int (iI hd), .int (iI on), .int (iI lf), .int (iI rt)])), (t0, .inl (k.2.1, 4, .inr (.inl z5))), (t1, .inl (k.2.1, 484, .inr (.inl tps))), (a0, .inl (k.1, 121, .inl (iF hs))), (a1, .inl (k.1, 121, .inl (iF ss))), (a2, .inl (k.1, 121, .inl (iF sd)))] := hD
  refine lv_aload_n hx hb dX2_begin_33 rfl (lv_at hl 0 rfl) ?_
  refine lv_iconst (v := iI 0) hx hb dX2_begin_34 rfl ?_
  refine va_put (D := g) (ci := 2) (v := .int (iI 0)) (ty := .int) (C := RX2) (T := TX2) (N := 16) hx hb hts inX2 tyX2 tyX2_ok nmX2 hown hK.1 hP hD hS 0 rfl rfl 12 (by decide) f56 (fun _ h9 => h9) rfl (by decide +kernel) rfl rfl (Nat.le_of_ble_eq_true rfl) dX2_begin_35 (fun H locs hP hD hS => ?_)
  have hP : va_P g vwCl [(w, .inr (2, [.int (iI 120), .int (iI 4), .ref t0, .ref t1, .ref a0, .ref a1, .ref a2, .int (iI 0), .int (iI 0), .int (iI 0), .int (iI 0), .int (iI 0), .int (iI 0), .int (iI on), .int (iI lf), .int (iI rt)])), (t0, .inl (k.2.1, 4, .inr (.inl z5))), (t1, .inl (k.2.1, 484, .inr (.inl tps))), (a0, .inl (k.1, 121, .inl (iF hs))), (a1, .inl (k.1, 121, .inl (iF ss))), (a2, .inl (k.1, 121, .inl (iF sd)))] H := hP
  have hD : va_D A [(w, .inr (2, [.int (iI 120), .int (iI 4), .ref t0, .ref t1, .ref a0, .ref a1, .ref a2, .int (iI 0), .int (iI 0), .int (iI 0), .int (iI 0), .int (iI 0), .int (iI 0), .int (iI on), .int (iI lf), .int (iI rt)])), (t0, .inl (k.2.1, 4, .inr (.inl z5))), (t1, .inl (k.2.1, 484, .inr (.inl tps))), (a0, .inl (k.1, 121, .inl (iF hs))), (a1, .inl (k.1, 121, .inl (iF ss))), (a2, .inl (k.1, 121, .inl (iF sd)))] := hD
  refine lv_aload_n hx hb dX2_begin_38 rfl (lv_at hl 0 rfl) ?_
  refine lv_iconst (v := iI 0) hx hb dX2_begin_39 rfl ?_
  refine va_put (D := g) (ci := 2) (v := .int (iI 0)) (ty := .int) (C := RX2) (T := TX2) (N := 16) hx hb hts inX2 tyX2 tyX2_ok nmX2 hown hK.1 hP hD hS 0 rfl rfl 13 (by decide) f91 (fun _ h9 => h9) rfl (by decide +kernel) rfl rfl (Nat.le_of_ble_eq_true rfl) dX2_begin_40 (fun H locs hP hD hS => ?_)
  have hP : va_P g vwCl [(w, .inr (2, [.int (iI 120), .int (iI 4), .ref t0, .ref t1, .ref a0, .ref a1, .ref a2, .int (iI 0), .int (iI 0), .int (iI 0), .int (iI 0), .int (iI 0), .int (iI 0), .int (iI 0), .int (iI lf), .int (iI rt)])), (t0, .inl (k.2.1, 4, .inr (.inl z5))), (t1, .inl (k.2.1, 484, .inr (.inl tps))), (a0, .inl (k.1, 121, .inl (iF hs))), (a1, .inl (k.1, 121, .inl (iF ss))), (a2, .inl (k.1, 121, .inl (iF sd)))] H := hP
  have hD : va_D A [(w, .inr (2, [.int (iI 120), .int (iI 4), .ref t0, .ref t1, .ref a0, .ref a1, .ref a2, .int (iI 0), .int (iI 0), .int (iI 0), .int (iI 0), .int (iI 0), .int (iI 0), .int (iI 0), .int (iI lf), .int (iI rt)])), (t0, .inl (k.2.1, 4, .inr (.inl z5))), (t1, .inl (k.2.1, 484, .inr (.inl tps))), (a0, .inl (k.1, 121, .inl (iF hs))), (a1, .inl (k.1, 121, .inl (iF ss))), (a2, .inl (k.1, 121, .inl (iF sd)))] := hD
  refine lv_aload_n hx hb dX2_begin_43 rfl (lv_at hl 0 rfl) ?_
  refine lv_iconst (v := iI 0) hx hb dX2_begin_44 rfl ?_
  refine va_put (D := g) (ci := 2) (v := .int (iI 0)) (ty := .int) (C := RX2) (T := TX2) (N := 16) hx hb hts inX2 tyX2 tyX2_ok nmX2 hown hK.1 hP hD hS 0 rfl rfl 14 (by decide) f94 (fun _ h9 => h9) rfl (by decide +kernel) rfl rfl (Nat.le_of_ble_eq_true rfl) dX2_begin_45 (fun H locs hP hD hS => ?_)
  have hP : va_P g vwCl [(w, .inr (2, [.int (iI 120), .int (iI 4), .ref t0, .ref t1, .ref a0, .ref a1, .ref a2, .int (iI 0), .int (iI 0), .int (iI 0), .int (iI 0), .int (iI 0), .int (iI 0), .int (iI 0), .int (iI 0), .int (iI rt)])), (t0, .inl (k.2.1, 4, .inr (.inl z5))), (t1, .inl (k.2.1, 484, .inr (.inl tps))), (a0, .inl (k.1, 121, .inl (iF hs))), (a1, .inl (k.1, 121, .inl (iF ss))), (a2, .inl (k.1, 121, .inl (iF sd)))] H := hP
  have hD : va_D A [(w, .inr (2, [.int (iI 120), .int (iI 4), .ref t0, .ref t1, .ref a0, .ref a1, .ref a2, .int (iI 0), .int (iI 0), .int (iI 0), .int (iI 0), .int (iI 0), .int (iI 0), .int (iI 0), .int (iI 0), .int (iI rt)])), (t0, .inl (k.2.1, 4, .inr (.inl z5))), (t1, .inl (k.2.1, 484, .inr (.inl tps))), (a0, .inl (k.1, 121, .inl (iF hs))), (a1, .inl (k.1, 121, .inl (iF ss))), (a2, .inl (k.1, 121, .inl (iF sd)))] := hD
  refine lv_aload_n hx hb dX2_begin_48 rfl (lv_at hl 0 rfl) ?_
  refine lv_iconst (v := iI 0) hx hb dX2_begin_49 rfl ?_
  refine va_put (D := g) (ci := 2) (v := .int (iI 0)) (ty := .int) (C := RX2) (T := TX2) (N := 16) hx hb hts inX2 tyX2 tyX2_ok nmX2 hown hK.1 hP hD hS 0 rfl rfl 15 (by decide) f97 (fun _ h9 => h9) rfl (by decide +kernel) rfl rfl (Nat.le_of_ble_eq_true rfl) dX2_begin_50 (fun H locs hP hD hS => ?_)
  have hP : va_P g vwCl [(w, .inr (2, [.int (iI 120), .int (iI 4), .ref t0, .ref t1, .ref a0, .ref a1, .ref a2, .int (iI 0), .int (iI 0), .int (iI 0), .int (iI 0), .int (iI 0), .int (iI 0), .int (iI 0), .int (iI 0), .int (iI 0)])), (t0, .inl (k.2.1, 4, .inr (.inl z5))), (t1, .inl (k.2.1, 484, .inr (.inl tps))), (a0, .inl (k.1, 121, .inl (iF hs))), (a1, .inl (k.1, 121, .inl (iF ss))), (a2, .inl (k.1, 121, .inl (iF sd)))] H := hP
  have hD : va_D A [(w, .inr (2, [.int (iI 120), .int (iI 4), .ref t0, .ref t1, .ref a0, .ref a1, .ref a2, .int (iI 0), .int (iI 0), .int (iI 0), .int (iI 0), .int (iI 0), .int (iI 0), .int (iI 0), .int (iI 0), .int (iI 0)])), (t0, .inl (k.2.1, 4, .inr (.inl z5))), (t1, .inl (k.2.1, 484, .inr (.inl tps))), (a0, .inl (k.1, 121, .inl (iF hs))), (a1, .inl (k.1, 121, .inl (iF ss))), (a2, .inl (k.1, 121, .inl (iF sd)))] := hD
  refine lv_aload_n hx hb dX2_begin_53 rfl (lv_at hl 0 rfl) ?_
  refine lv_iconst (v := iI 0) hx hb dX2_begin_54 rfl ?_
  refine rc_V (own := RX2) (q := (RX2, TX2, 16)) (wc := [(w, .inr (2, [.int (iI 120), .int (iI 4), .ref t0, .ref t1, .ref a0, .ref a1, .ref a2, .int (iI 0), .int (iI 0), .int (iI 0), .int (iI 0), .int (iI 0), .int (iI 0), .int (iI 0), .int (iI 0), .int (iI 0)])), (t0, .inl (k.2.1, 4, .inr (.inl z5))), (t1, .inl (k.2.1, 484, .inr (.inl tps))), (a0, .inl (k.1, 121, .inl (iF hs))), (a1, .inl (k.1, 121, .inl (iF ss))), (a2, .inl (k.1, 121, .inl (iF sd)))]) (wr := []) (As := [.int (iI 0)]) (rest := []) ⟨hx, hb, hml, hown, hts⟩ (c_note120 l g k w t0 t1 a0 a1 a2 0 0 0 0 0 0 0 0 0 z5 tps hs ss sd H.size 0 (by omega)) (cwV 1 hts gX2_begin_X2_note rfl rfl rfl (by decide +kernel) ⟨Nat.le_of_ble_eq_true rfl, Nat.le_of_ble_eq_true rfl⟩) hK hP hD hS hA [0, 1, 2, 3, 4, 5] [] rfl (by decide) rfl (by decide) (by decide) (ci := 2) (q0 := 0) rfl rfl rfl rfl hl.1 (Nat.le_of_ble_eq_true rfl) ⟨Nat.le_of_ble_eq_true rfl, Nat.le_of_ble_eq_true rfl⟩ dX2_begin_55 (fun u55 H locs hu55 hP hD hS => ?_)
  have hP : va_P g vwCl [(w, .inr (2, [.int (iI 120), .int (iI 4), .ref t0, .ref t1, .ref a0, .ref a1, .ref a2, .int (iI 0), .int (iI 0), .int (iI 0), .int (iI 0), .int (iI 0), .int (iI 0), .int (iI 0), .int (iI 0), .int (iI 0)])), (t0, .inl (k.2.1, 4, .inr (.inl z5))), (t1, .inl (k.2.1, 484, .inr (.inl (va_cpy z5 tps 0 ((0 : Int) * 4).toNat 4)))), (a0, .inl (k.1, 121, .inl (iF (up hs 0 0)))), (a1, .inl (k.1, 121, .inl (iF (up ss 0 0)))), (a2, .inl (k.1, 121, .inl (iF (up sd 0 0))))] H := hP
  have hD : va_D A [(w, .inr (2, [.int (iI 120), .int (iI 4), .ref t0, .ref t1, .ref a0, .ref a1, .ref a2, .int (iI 0), .int (iI 0), .int (iI 0), .int (iI 0), .int (iI 0), .int (iI 0), .int (iI 0), .int (iI 0), .int (iI 0)])), (t0, .inl (k.2.1, 4, .inr (.inl z5))), (t1, .inl (k.2.1, 484, .inr (.inl (va_cpy z5 tps 0 ((0 : Int) * 4).toNat 4)))), (a0, .inl (k.1, 121, .inl (iF (up hs 0 0)))), (a1, .inl (k.1, 121, .inl (iF (up ss 0 0)))), (a2, .inl (k.1, 121, .inl (iF (up sd 0 0))))] := hD
  obtain ⟨hP, hD⟩ := P_reJ (i := 1) (f' := bW 120 (fun _ => 0)) hP hD rfl (fun j hj => by rw [hu5 j hj, bW_0])
  exact hret (va_cpy z5 tps 0 ((0 : Int) * 4).toNat 4) _ _ _ _ dX2_begin_58 ⟨z5, hu5, rfl⟩ hP hD hS

