/-! THE CLASS Walk: its constructor -/
abbrev rm_W300 : Room := { frames := 1, cells := 5, slots := 3923, locals := 40 }
set_option maxHeartbeats 4000000 in
set_option maxRecDepth 100000 in
theorem c_Walk300 (l : Launch) (g : va_G) (k : kT) (w : Nat) (sz : Nat) : cV l yX2_init wsX2_init rm_W300 g k [(w, .inr (2, [.int (iI 0), .int (iI 0), .null, .null, .null, .null, .null, .int (iI 0), .int (iI 0), .int (iI 0), .int (iI 0), .int (iI 0), .int (iI 0), .int (iI 0), .int (iI 0), .int (iI 0)]))] sz [.ref w, .int (iI 300)] 5 3923 (fun u : Nat × Nat × Nat × Nat × Nat => wW300 k w u.1 u.2.1 u.2.2.1 u.2.2.2.1 u.2.2.2.2 0 0 0 0 0 0 0 0 0 (fun _ => 0) (fun _ => 0) (fun _ => 0) (fun _ => 0) (fun _ => 0)) (fun _ => True) := by
  refine st_V (by decide) rfl (Nat.le_of_ble_eq_true rfl) ?_
  intro p e s m below meth c Q A hx hb hml hown hts hin hA hP hD hS hK hret ls hl
  have hown : s.vm.findClass RX2 = some m.cls := hown
  have f18 := hts (.fieldLink RX2 18 "MachineTree$Walk" "reach" "I") (by decide +kernel)
  have inX2 := (by decide +kernel : ∀ w ∈ wsX20, w ∈ wsX2_init)
  have f24 := hts (.fieldLink RX2 24 "MachineTree$Walk" "words" "I") (by decide +kernel)
  have f27 := hts (.fieldLink RX2 27 "MachineTree$Walk" "tape" "[J") (by decide +kernel)
  have f31 := hts (.fieldLink RX2 31 "MachineTree$Walk" "tapes" "[J") (by decide +kernel)
  have f34 := hts (.fieldLink RX2 34 "MachineTree$Walk" "heads" "[I") (by decide +kernel)
  have f38 := hts (.fieldLink RX2 38 "MachineTree$Walk" "states" "[I") (by decide +kernel)
  have f41 := hts (.fieldLink RX2 41 "MachineTree$Walk" "sides" "[I") (by decide +kernel)
  have hl : lv_has ls 2 [(0, .ref w), (1, .int (iI 300))] := hl
  obtain ⟨H, hH⟩ : ∃ H, H = s.heap := ⟨_, rfl⟩
  obtain ⟨locs, hlo⟩ : ∃ L : List Loc, L = [] := ⟨_, rfl⟩
  rw [← hH] at hP
  have hS : va_S A s.heap H locs := by rw [hH, hlo]; exact hS
  rw [show W p l e rm_W300 s m ([.ref w, .int (iI 300)] : List Value).toArray below meth c s.heap [] 0 0 Q (F0 m 0 ls []) = W p l e rm_W300 s m ([.ref w, .int (iI 300)] : List Value).toArray below meth c H locs 0 0 Q (F0 m 0 ls []) by rw [hH, hlo]]
  clear hH hlo
  refine lv_aload_n hx hb dX2_init_0 rfl (lv_at hl 0 rfl) ?_
  refine W.objInit hx hb hown (hts (.methodLink RX2 3 objectInit) (by decide +kernel)) (hts (.instanceMethod objectInit) (by decide +kernel)) (hts (.code objectInit ⟨#[0xb1]⟩ 1 none) (by decide +kernel)) rfl (by rw [hml]; exact hl.1) rfl dX2_init_1 (Nat.le_of_ble_eq_true rfl) (Nat.le_of_ble_eq_true rfl) ?_
  refine W.eq (g2 := F0 m 4 ls []) rfl ?_
  refine lv_aload_n hx hb dX2_init_4 rfl (lv_at hl 0 rfl) ?_
  refine lv_iconst (v := iI 1) hx hb dX2_init_5 rfl ?_
  refine lv_sipush (v := iI 300) hx hb dX2_init_6 (by decide) ?_
  refine lv_iload_n hx hb dX2_init_9 rfl (lv_at hl 1 rfl) ?_
  refine va_mmin hx hb (by rw [hml]; exact hl.1.symm) hown (hts (.methodLink RX2 9 Lib.Math.min.name) (by decide +kernel)) (hts (.static Lib.Math.min.name) (by decide +kernel)) (hts (.initialized "java/lang/Math") (by decide +kernel)) (hts (.code Lib.Math.min.name Lib.Math.min.code 2 (some .int)) (by decide +kernel)) (Nat.le_of_ble_eq_true rfl) (Nat.le_of_ble_eq_true rfl) (Nat.le_of_ble_eq_true rfl) (Nat.le_of_ble_eq_true rfl) dX2_init_10 ?_
  refine ri_top (iI_min (a := 300) (b := 300) (by omega) (by omega)) ?_
  refine ri_ex (b := 300) (by omega) ?_
  refine va_mmax hx hb (by rw [hml]; exact hl.1.symm) hown (hts (.methodLink RX2 15 Lib.Math.max.name) (by decide +kernel)) (hts (.static Lib.Math.max.name) (by decide +kernel)) (hts (.initialized "java/lang/Math") (by decide +kernel)) (hts (.code Lib.Math.max.name Lib.Math.max.code 2 (some .int)) (by decide +kernel)) (Nat.le_of_ble_eq_true rfl) (Nat.le_of_ble_eq_true rfl) (Nat.le_of_ble_eq_true rfl) (Nat.le_of_ble_eq_true rfl) dX2_init_13 ?_
  refine ri_top (iI_max (a := 1) (b := 300) (by omega) (by omega)) ?_
  refine ri_ex (b := 300) (by omega) ?_
  refine va_putF (D := g) (ci := 2) (v := .int (iI 300)) (ty := .int) (C := RX2) (T := TX2) (N := 16) hx hb hts inX2 tyX2 tyX2_ok nmX2 hown hK.1 hP hD hS 0 rfl rfl 0 (by decide) f18 (fun _ h9 => h9) rfl hin rfl (by decide +kernel) rfl rfl (Nat.le_of_ble_eq_true rfl) dX2_init_16 (fun H locs hP hD hS => ?_)
  have hP : va_P g vwCl [(w, .inr (2, [.int (iI 300), .int (iI 0), .null, .null, .null, .null, .null, .int (iI 0), .int (iI 0), .int (iI 0), .int (iI 0), .int (iI 0), .int (iI 0), .int (iI 0), .int (iI 0), .int (iI 0)]))] H := hP
  have hD : va_D A [(w, .inr (2, [.int (iI 300), .int (iI 0), .null, .null, .null, .null, .null, .int (iI 0), .int (iI 0), .int (iI 0), .int (iI 0), .int (iI 0), .int (iI 0), .int (iI 0), .int (iI 0), .int (iI 0)]))] := hD
  refine lv_aload_n hx hb dX2_init_19 rfl (lv_at hl 0 rfl) ?_
  refine lv_iconst (v := iI 2) hx hb dX2_init_20 rfl ?_
  refine lv_aload_n hx hb dX2_init_21 rfl (lv_at hl 0 rfl) ?_
  refine va_get (D := g) (ci := 2) (v := .int (iI 300)) (C := RX2) (T := TX2) (N := 16) hx hb hts inX2 hown hK.1 hP 0 rfl rfl 0 (by decide) f18 (fun _ h9 => h9) rfl dX2_init_22 ?_
  refine ri_imul (a := 2) (b := 300) hx hb dX2_init_25 ?_
  refine lv_bipush (v := iI 6) hx hb dX2_init_26 (by decide) ?_
  refine ri_shr (a := (2 * 300)) (b := 6) hx hb (by omega) 6 (by decide) dX2_init_28 ?_
  refine ri_ex (b := ((2 * 300) / 64)) (by first | rfl | simp | omega) ?_
  refine lv_iconst (v := iI 1) hx hb dX2_init_29 rfl ?_
  refine ri_iadd (a := ((2 * 300) / 64)) (b := 1) hx hb dX2_init_30 ?_
  refine ri_ex (b := 10) (by omega) ?_
  refine va_putF (D := g) (ci := 2) (v := .int (iI 10)) (ty := .int) (C := RX2) (T := TX2) (N := 16) hx hb hts inX2 tyX2 tyX2_ok nmX2 hown hK.1 hP hD hS 0 rfl rfl 1 (by decide) f24 (fun _ h9 => h9) rfl hin rfl (by decide +kernel) rfl rfl (Nat.le_of_ble_eq_true rfl) dX2_init_31 (fun H locs hP hD hS => ?_)
  have hP : va_P g vwCl [(w, .inr (2, [.int (iI 300), .int (iI 10), .null, .null, .null, .null, .null, .int (iI 0), .int (iI 0), .int (iI 0), .int (iI 0), .int (iI 0), .int (iI 0), .int (iI 0), .int (iI 0), .int (iI 0)]))] H := hP
  have hD : va_D A [(w, .inr (2, [.int (iI 300), .int (iI 10), .null, .null, .null, .null, .null, .int (iI 0), .int (iI 0), .int (iI 0), .int (iI 0), .int (iI 0), .int (iI 0), .int (iI 0), .int (iI 0), .int (iI 0)]))] := hD
  refine lv_aload_n hx hb dX2_init_34 rfl (lv_at hl 0 rfl) ?_
  refine lv_aload_n hx hb dX2_init_35 rfl (lv_at hl 0 rfl) ?_
  refine va_get (D := g) (ci := 2) (v := .int (iI 10)) (C := RX2) (T := TX2) (N := 16) hx hb hts inX2 hown hK.1 hP 0 rfl rfl 1 (by decide) f24 (fun _ h9 => h9) rfl dX2_init_36 ?_
  refine ri_newaJ (n := 10) (N := 10) hx hb (hts (.arrayClass .long) (by decide +kernel)) hK hP hD hS hA (by omega) (Nat.le_of_ble_eq_true rfl) (Nat.le_of_ble_eq_true rfl) dX2_init_39 (fun q39 H hP hD hS => ?_)
  have hP : va_P g vwCl [(w, .inr (2, [.int (iI 300), .int (iI 10), .null, .null, .null, .null, .null, .int (iI 0), .int (iI 0), .int (iI 0), .int (iI 0), .int (iI 0), .int (iI 0), .int (iI 0), .int (iI 0), .int (iI 0)])), (q39, .inl (k.2.1, 10, .inr (.inl (fun _ => 0))))] H := hP
  have hD : va_D A [(w, .inr (2, [.int (iI 300), .int (iI 10), .null, .null, .null, .null, .null, .int (iI 0), .int (iI 0), .int (iI 0), .int (iI 0), .int (iI 0), .int (iI 0), .int (iI 0), .int (iI 0), .int (iI 0)])), (q39, .inl (k.2.1, 10, .inr (.inl (fun _ => 0))))] := hD
  refine W.widen (k := 1) (n := 10) (Nat.le_refl _) (Nat.le_refl _) ?_
  refine va_putF (D := g) (ci := 2) (v := .ref q39) (ty := (tyX2 2)) (C := RX2) (T := TX2) (N := 16) hx hb hts inX2 tyX2 tyX2_ok nmX2 hown hK.1 hP hD hS 0 rfl rfl 2 (by decide) f27 (fun _ h9 => h9) rfl hin rfl (by decide +kernel) rfl rfl (Nat.le_of_ble_eq_true rfl) dX2_init_41 (fun H locs hP hD hS => ?_)
  have hP : va_P g vwCl [(w, .inr (2, [.int (iI 300), .int (iI 10), .ref q39, .null, .null, .null, .null, .int (iI 0), .int (iI 0), .int (iI 0), .int (iI 0), .int (iI 0), .int (iI 0), .int (iI 0), .int (iI 0), .int (iI 0)])), (q39, .inl (k.2.1, 10, .inr (.inl (fun _ => 0))))] H := hP
  have hD : va_D A [(w, .inr (2, [.int (iI 300), .int (iI 10), .ref q39, .null, .null, .null, .null, .int (iI 0), .int (iI 0), .int (iI 0), .int (iI 0), .int (iI 0), .int (iI 0), .int (iI 0), .int (iI 0), .int (iI 0)])), (q39, .inl (k.2.1, 10, .inr (.inl (fun _ => 0))))] := hD
  refine lv_aload_n hx hb dX2_init_44 rfl (lv_at hl 0 rfl) ?_
  refine lv_aload_n hx hb dX2_init_45 rfl (lv_at hl 0 rfl) ?_
  refine va_get (D := g) (ci := 2) (v := .int (iI 10)) (C := RX2) (T := TX2) (N := 16) hx hb hts inX2 hown hK.1 hP 0 rfl rfl 1 (by decide) f24 (fun _ h9 => h9) rfl dX2_init_46 ?_
  refine lv_aload_n hx hb dX2_init_49 rfl (lv_at hl 0 rfl) ?_
  refine va_get (D := g) (ci := 2) (v := .int (iI 300)) (C := RX2) (T := TX2) (N := 16) hx hb hts inX2 hown hK.1 hP 0 rfl rfl 0 (by decide) f18 (fun _ h9 => h9) rfl dX2_init_50 ?_
  refine lv_iconst (v := iI 1) hx hb dX2_init_53 rfl ?_
  refine ri_iadd (a := 300) (b := 1) hx hb dX2_init_54 ?_
  refine ri_imul (a := 10) (b := (300 + 1)) hx hb dX2_init_55 ?_
  refine ri_newaJ (n := (10 * (300 + 1))) (N := 3010) hx hb (hts (.arrayClass .long) (by decide +kernel)) hK hP hD hS hA (by omega) (Nat.le_of_ble_eq_true rfl) (Nat.le_of_ble_eq_true rfl) dX2_init_56 (fun q56 H hP hD hS => ?_)
  have hP : va_P g vwCl [(w, .inr (2, [.int (iI 300), .int (iI 10), .ref q39, .null, .null, .null, .null, .int (iI 0), .int (iI 0), .int (iI 0), .int (iI 0), .int (iI 0), .int (iI 0), .int (iI 0), .int (iI 0), .int (iI 0)])), (q39, .inl (k.2.1, 10, .inr (.inl (fun _ => 0)))), (q56, .inl (k.2.1, 3010, .inr (.inl (fun _ => 0))))] H := hP
  have hD : va_D A [(w, .inr (2, [.int (iI 300), .int (iI 10), .ref q39, .null, .null, .null, .null, .int (iI 0), .int (iI 0), .int (iI 0), .int (iI 0), .int (iI 0), .int (iI 0), .int (iI 0), .int (iI 0), .int (iI 0)])), (q39, .inl (k.2.1, 10, .inr (.inl (fun _ => 0)))), (q56, .inl (k.2.1, 3010, .inr (.inl (fun _ => 0))))] := hD
  refine W.widen (k := 2) (n := 3020) (Nat.le_refl _) (Nat.le_refl _) ?_
  refine va_putF (D := g) (ci := 2) (v := .ref q56) (ty := (tyX2 3)) (C := RX2) (T := TX2) (N := 16) hx hb hts inX2 tyX2 tyX2_ok nmX2 hown hK.1 hP hD hS 0 rfl rfl 3 (by decide) f31 (fun _ h9 => h9) rfl hin rfl (by decide +kernel) rfl rfl (Nat.le_of_ble_eq_true rfl) dX2_init_58 (fun H locs hP hD hS => ?_)
  have hP : va_P g vwCl [(w, .inr (2, [.int (iI 300), .int (iI 10), .ref q39, .ref q56, .null, .null, .null, .int (iI 0), .int (iI 0), .int (iI 0), .int (iI 0), .int (iI 0), .int (iI 0), .int (iI 0), .int (iI 0), .int (iI 0)])), (q39, .inl (k.2.1, 10, .inr (.inl (fun _ => 0)))), (q56, .inl (k.2.1, 3010, .inr (.inl (fun _ => 0))))] H := hP
  have hD : va_D A [(w, .inr (2, [.int (iI 300), .int (iI 10), .ref q39, .ref q56, .null, .null, .null, .int (iI 0), .int (iI 0), .int (iI 0), .int (iI 0), .int (iI 0), .int (iI 0), .int (iI 0), .int (iI 0), .int (iI 0)])), (q39, .inl (k.2.1, 10, .inr (.inl (fun _ => 0)))), (q56, .inl (k.2.1, 3010, .inr (.inl (fun _ => 0))))] := hD
  refine lv_aload_n hx hb dX2_init_61 rfl (lv_at hl 0 rfl) ?_
  refine lv_aload_n hx hb dX2_init_62 rfl (lv_at hl 0 rfl) ?_
  refine va_get (D := g) (ci := 2) (v := .int (iI 300)) (C := RX2) (T := TX2) (N := 16) hx hb hts inX2 hown hK.1 hP 0 rfl rfl 0 (by decide) f18 (fun _ h9 => h9) rfl dX2_init_63 ?_
  refine lv_iconst (v := iI 1) hx hb dX2_init_66 rfl ?_
  refine ri_iadd (a := 300) (b := 1) hx hb dX2_init_67 ?_
  refine ri_newaI (n := (300 + 1)) (N := 301) hx hb (hts (.arrayClass .int) (by decide +kernel)) hK hP hD hS hA (by omega) (Nat.le_of_ble_eq_true rfl) (Nat.le_of_ble_eq_true rfl) dX2_init_68 (fun q68 H hP hD hS => ?_)
  have hP : va_P g vwCl [(w, .inr (2, [.int (iI 300), .int (iI 10), .ref q39, .ref q56, .null, .null, .null, .int (iI 0), .int (iI 0), .int (iI 0), .int (iI 0), .int (iI 0), .int (iI 0), .int (iI 0), .int (iI 0), .int (iI 0)])), (q39, .inl (k.2.1, 10, .inr (.inl (fun _ => 0)))), (q56, .inl (k.2.1, 3010, .inr (.inl (fun _ => 0)))), (q68, .inl (k.1, 301, .inl (iF (fun _ => 0))))] H := hP
  have hD : va_D A [(w, .inr (2, [.int (iI 300), .int (iI 10), .ref q39, .ref q56, .null, .null, .null, .int (iI 0), .int (iI 0), .int (iI 0), .int (iI 0), .int (iI 0), .int (iI 0), .int (iI 0), .int (iI 0), .int (iI 0)])), (q39, .inl (k.2.1, 10, .inr (.inl (fun _ => 0)))), (q56, .inl (k.2.1, 3010, .inr (.inl (fun _ => 0)))), (q68, .inl (k.1, 301, .inl (iF (fun _ => 0))))] := hD
  refine W.widen (k := 3) (n := 3321) (Nat.le_refl _) (Nat.le_refl _) ?_
  refine va_putF (D := g) (ci := 2) (v := .ref q68) (ty := (tyX2 4)) (C := RX2) (T := TX2) (N := 16) hx hb hts inX2 tyX2 tyX2_ok nmX2 hown hK.1 hP hD hS 0 rfl rfl 4 (by decide) f34 (fun _ h9 => h9) rfl hin rfl (by decide +kernel) rfl rfl (Nat.le_of_ble_eq_true rfl) dX2_init_70 (fun H locs hP hD hS => ?_)
  have hP : va_P g vwCl [(w, .inr (2, [.int (iI 300), .int (iI 10), .ref q39, .ref q56, .ref q68, .null, .null, .int (iI 0), .int (iI 0), .int (iI 0), .int (iI 0), .int (iI 0), .int (iI 0), .int (iI 0), .int (iI 0), .int (iI 0)])), (q39, .inl (k.2.1, 10, .inr (.inl (fun _ => 0)))), (q56, .inl (k.2.1, 3010, .inr (.inl (fun _ => 0)))), (q68, .inl (k.1, 301, .inl (iF (fun _ => 0))))] H := hP
  have hD : va_D A [(w, .inr (2, [.int (iI 300), .int (iI 10), .ref q39, .ref q56, .ref q68, .null, .null, .int (iI 0), .int (iI 0), .int (iI 0), .int (iI 0), .int (iI 0), .int (iI 0), .int (iI 0), .int (iI 0), .int (iI 0)])), (q39, .inl (k.2.1, 10, .inr (.inl (fun _ => 0)))), (q56, .inl (k.2.1, 3010, .inr (.inl (fun _ => 0)))), (q68, .inl (k.1, 301, .inl (iF (fun _ => 0))))] := hD
  refine lv_aload_n hx hb dX2_init_73 rfl (lv_at hl 0 rfl) ?_
  refine lv_aload_n hx hb dX2_init_74 rfl (lv_at hl 0 rfl) ?_
  refine va_get (D := g) (ci := 2) (v := .int (iI 300)) (C := RX2) (T := TX2) (N := 16) hx hb hts inX2 hown hK.1 hP 0 rfl rfl 0 (by decide) f18 (fun _ h9 => h9) rfl dX2_init_75 ?_
  refine lv_iconst (v := iI 1) hx hb dX2_init_78 rfl ?_
  refine ri_iadd (a := 300) (b := 1) hx hb dX2_init_79 ?_
  refine ri_newaI (n := (300 + 1)) (N := 301) hx hb (hts (.arrayClass .int) (by decide +kernel)) hK hP hD hS hA (by omega) (Nat.le_of_ble_eq_true rfl) (Nat.le_of_ble_eq_true rfl) dX2_init_80 (fun q80 H hP hD hS => ?_)
  have hP : va_P g vwCl [(w, .inr (2, [.int (iI 300), .int (iI 10), .ref q39, .ref q56, .ref q68, .null, .null, .int (iI 0), .int (iI 0), .int (iI 0), .int (iI 0), .int (iI 0), .int (iI 0), .int (iI 0), .int (iI 0), .int (iI 0)])), (q39, .inl (k.2.1, 10, .inr (.inl (fun _ => 0)))), (q56, .inl (k.2.1, 3010, .inr (.inl (fun _ => 0)))), (q68, .inl (k.1, 301, .inl (iF (fun _ => 0)))), (q80, .inl (k.1, 301, .inl (iF (fun _ => 0))))] H := hP
  have hD : va_D A [(w, .inr (2, [.int (iI 300), .int (iI 10), .ref q39, .ref q56, .ref q68, .null, .null, .int (iI 0), .int (iI 0), .int (iI 0), .int (iI 0), .int (iI 0), .int (iI 0), .int (iI 0), .int (iI 0), .int (iI 0)])), (q39, .inl (k.2.1, 10, .inr (.inl (fun _ => 0)))), (q56, .inl (k.2.1, 3010, .inr (.inl (fun _ => 0)))), (q68, .inl (k.1, 301, .inl (iF (fun _ => 0)))), (q80, .inl (k.1, 301, .inl (iF (fun _ => 0))))] := hD
  refine W.widen (k := 4) (n := 3622) (Nat.le_refl _) (Nat.le_refl _) ?_
  refine va_putF (D := g) (ci := 2) (v := .ref q80) (ty := (tyX2 5)) (C := RX2) (T := TX2) (N := 16) hx hb hts inX2 tyX2 tyX2_ok nmX2 hown hK.1 hP hD hS 0 rfl rfl 5 (by decide) f38 (fun _ h9 => h9) rfl hin rfl (by decide +kernel) rfl rfl (Nat.le_of_ble_eq_true rfl) dX2_init_82 (fun H locs hP hD hS => ?_)
  have hP : va_P g vwCl [(w, .inr (2, [.int (iI 300), .int (iI 10), .ref q39, .ref q56, .ref q68, .ref q80, .null, .int (iI 0), .int (iI 0), .int (iI 0), .int (iI 0), .int (iI 0), .int (iI 0), .int (iI 0), .int (iI 0), .int (iI 0)])), (q39, .inl (k.2.1, 10, .inr (.inl (fun _ => 0)))), (q56, .inl (k.2.1, 3010, .inr (.inl (fun _ => 0)))), (q68, .inl (k.1, 301, .inl (iF (fun _ => 0)))), (q80, .inl (k.1, 301, .inl (iF (fun _ => 0))))] H := hP
  have hD : va_D A [(w, .inr (2, [.int (iI 300), .int (iI 10), .ref q39, .ref q56, .ref q68, .ref q80, .null, .int (iI 0), .int (iI 0), .int (iI 0), .int (iI 0), .int (iI 0), .int (iI 0), .int (iI 0), .int (iI 0), .int (iI 0)])), (q39, .inl (k.2.1, 10, .inr (.inl (fun _ => 0)))), (q56, .inl (k.2.1, 3010, .inr (.inl (fun _ => 0)))), (q68, .inl (k.1, 301, .inl (iF (fun _ => 0)))), (q80, .inl (k.1, 301, .inl (iF (fun _ => 0))))] := hD
  refine lv_aload_n hx hb dX2_init_85 rfl (lv_at hl 0 rfl) ?_
  refine lv_aload_n hx hb dX2_init_86 rfl (lv_at hl 0 rfl) ?_
  refine va_get (D := g) (ci := 2) (v := .int (iI 300)) (C := RX2) (T := TX2) (N := 16) hx hb hts inX2 hown hK.1 hP 0 rfl rfl 0 (by decide) f18 (fun _ h9 => h9) rfl dX2_init_87 ?_
  refine lv_iconst (v := iI 1) hx hb dX2_init_90 rfl ?_
  refine ri_iadd (a := 300) (b := 1) hx hb dX2_init_91 ?_
  refine ri_newaI (n := (300 + 1)) (N := 301) hx hb (hts (.arrayClass .int) (by decide +kernel)) hK hP hD hS hA (by omega) (Nat.le_of_ble_eq_true rfl) (Nat.le_of_ble_eq_true rfl) dX2_init_92 (fun q92 H hP hD hS => ?_)
  have hP : va_P g vwCl [(w, .inr (2, [.int (iI 300), .int (iI 10), .ref q39, .ref q56, .ref q68, .ref q80, .null, .int (iI 0), .int (iI 0), .int (iI 0), .int (iI 0), .int (iI 0), .int (iI 0), .int (iI 0), .int (iI 0), .int (iI 0)])), (q39, .inl (k.2.1, 10, .inr (.inl (fun _ => 0)))), (q56, .inl (k.2.1, 3010, .inr (.inl (fun _ => 0)))), (q68, .inl (k.1, 301, .inl (iF (fun _ => 0)))), (q80, .inl (k.1, 301, .inl (iF (fun _ => 0)))), (q92, .inl (k.1, 301, .inl (iF (fun _ => 0))))] H := hP
  have hD : va_D A [(w, .inr (2, [.int (iI 300), .int (iI 10), .ref q39, .ref q56, .ref q68, .ref q80, .null, .int (iI 0), .int (iI 0), .int (iI 0), .int (iI 0), .int (iI 0), .int (iI 0), .int (iI 0), .int (iI 0), .int (iI 0)])), (q39, .inl (k.2.1, 10, .inr (.inl (fun _ => 0)))), (q56, .inl (k.2.1, 3010, .inr (.inl (fun _ => 0)))), (q68, .inl (k.1, 301, .inl (iF (fun _ => 0)))), (q80, .inl (k.1, 301, .inl (iF (fun _ => 0)))), (q92, .inl (k.1, 301, .inl (iF (fun _ => 0))))] := hD
  refine W.widen (k := 5) (n := 3923) (Nat.le_refl _) (Nat.le_refl _) ?_
  refine va_putF (D := g) (ci := 2) (v := .ref q92) (ty := (tyX2 6)) (C := RX2) (T := TX2) (N := 16) hx hb hts inX2 tyX2 tyX2_ok nmX2 hown hK.1 hP hD hS 0 rfl rfl 6 (by decide) f41 (fun _ h9 => h9) rfl hin rfl (by decide +kernel) rfl rfl (Nat.le_of_ble_eq_true rfl) dX2_init_94 (fun H locs hP hD hS => ?_)
  have hP : va_P g vwCl [(w, .inr (2, [.int (iI 300), .int (iI 10), .ref q39, .ref q56, .ref q68, .ref q80, .ref q92, .int (iI 0), .int (iI 0), .int (iI 0), .int (iI 0), .int (iI 0), .int (iI 0), .int (iI 0), .int (iI 0), .int (iI 0)])), (q39, .inl (k.2.1, 10, .inr (.inl (fun _ => 0)))), (q56, .inl (k.2.1, 3010, .inr (.inl (fun _ => 0)))), (q68, .inl (k.1, 301, .inl (iF (fun _ => 0)))), (q80, .inl (k.1, 301, .inl (iF (fun _ => 0)))), (q92, .inl (k.1, 301, .inl (iF (fun _ => 0))))] H := hP
  have hD : va_D A [(w, .inr (2, [.int (iI 300), .int (iI 10), .ref q39, .ref q56, .ref q68, .ref q80, .ref q92, .int (iI 0), .int (iI 0), .int (iI 0), .int (iI 0), .int (iI 0), .int (iI 0), .int (iI 0), .int (iI 0), .int (iI 0)])), (q39, .inl (k.2.1, 10, .inr (.inl (fun _ => 0)))), (q56, .inl (k.2.1, 3010, .inr (.inl (fun _ => 0)))), (q68, .inl (k.1, 301, .inl (iF (fun _ => 0)))), (q80, .inl (k.1, 301, .inl (iF (fun _ => 0)))), (q92, .inl (k.1, 301, .inl (iF (fun _ => 0))))] := hD
  exact hret (q39, q56, q68, q80, q92) _ _ _ _ dX2_init_97 trivial hP hD hS

abbrev rm_W120 : Room := { frames := 1, cells := 5, slots := 851, locals := 40 }
set_option maxHeartbeats 4000000 in
set_option maxRecDepth 100000 in
theorem c_Walk120 (l : Launch) (g : va_G) (k : kT) (w : Nat) (sz : Nat) : cV l yX2_init wsX2_init rm_W120 g k [(w, .inr (2, [.int (iI 0), .int (iI 0), .null, .null, .null, .null, .null, .int (iI 0), .int (iI 0), .int (iI 0), .int (iI 0), .int (iI 0), .int (iI 0), .int (iI 0), .int (iI 0), .int (iI 0)]))] sz [.ref w, .int (iI 120)] 5 851 (fun u : Nat × Nat × Nat × Nat × Nat => wW120 k w u.1 u.2.1 u.2.2.1 u.2.2.2.1 u.2.2.2.2 0 0 0 0 0 0 0 0 0 (fun _ => 0) (fun _ => 0) (fun _ => 0) (fun _ => 0) (fun _ => 0)) (fun _ => True) := by
  refine st_V (by decide) rfl (Nat.le_of_ble_eq_true rfl) ?_
  intro p e s m below meth c Q A hx hb hml hown hts hin hA hP hD hS hK hret ls hl
  have hown : s.vm.findClass RX2 = some m.cls := hown
  have f18 := hts (.fieldLink RX2 18 "MachineTree$Walk" "reach" "I") (by decide +kernel)
  have inX2 := (by decide +kernel : ∀ w ∈ wsX20, w ∈ wsX2_init)
  have f24 := hts (.fieldLink RX2 24 "MachineTree$Walk" "words" "I") (by decide +kernel)
  have f27 := hts (.fieldLink RX2 27 "MachineTree$Walk" "tape" "[J") (by decide +kernel)
  have f31 := hts (.fieldLink RX2 31 "MachineTree$Walk" "tapes" "[J") (by decide +kernel)
  have f34 := hts (.fieldLink RX2 34 "MachineTree$Walk" "heads" "[I") (by decide +kernel)
  have f38 := hts (.fieldLink RX2 38 "MachineTree$Walk" "states" "[I") (by decide +kernel)
  have f41 := hts (.fieldLink RX2 41 "MachineTree$Walk" "sides" "[I") (by decide +kernel)
  have hl : lv_has ls 2 [(0, .ref w), (1, .int (iI 120))] := hl
  obtain ⟨H, hH⟩ : ∃ H, H = s.heap := ⟨_, rfl⟩
  obtain ⟨locs, hlo⟩ : ∃ L : List Loc, L = [] := ⟨_, rfl⟩
  rw [← hH] at hP
  have hS : va_S A s.heap H locs := by rw [hH, hlo]; exact hS
  rw [show W p l e rm_W120 s m ([.ref w, .int (iI 120)] : List Value).toArray below meth c s.heap [] 0 0 Q (F0 m 0 ls []) = W p l e rm_W120 s m ([.ref w, .int (iI 120)] : List Value).toArray below meth c H locs 0 0 Q (F0 m 0 ls []) by rw [hH, hlo]]
  clear hH hlo
  refine lv_aload_n hx hb dX2_init_0 rfl (lv_at hl 0 rfl) ?_
  refine W.objInit hx hb hown (hts (.methodLink RX2 3 objectInit) (by decide +kernel)) (hts (.instanceMethod objectInit) (by decide +kernel)) (hts (.code objectInit ⟨#[0xb1]⟩ 1 none) (by decide +kernel)) rfl (by rw [hml]; exact hl.1) rfl dX2_init_1 (Nat.le_of_ble_eq_true rfl) (Nat.le_of_ble_eq_true rfl) ?_
  refine W.eq (g2 := F0 m 4 ls []) rfl ?_
  refine lv_aload_n hx hb dX2_init_4 rfl (lv_at hl 0 rfl) ?_
  refine lv_iconst (v := iI 1) hx hb dX2_init_5 rfl ?_
  refine lv_sipush (v := iI 300) hx hb dX2_init_6 (by decide) ?_
  refine lv_iload_n hx hb dX2_init_9 rfl (lv_at hl 1 rfl) ?_
  refine va_mmin hx hb (by rw [hml]; exact hl.1.symm) hown (hts (.methodLink RX2 9 Lib.Math.min.name) (by decide +kernel)) (hts (.static Lib.Math.min.name) (by decide +kernel)) (hts (.initialized "java/lang/Math") (by decide +kernel)) (hts (.code Lib.Math.min.name Lib.Math.min.code 2 (some .int)) (by decide +kernel)) (Nat.le_of_ble_eq_true rfl) (Nat.le_of_ble_eq_true rfl) (Nat.le_of_ble_eq_true rfl) (Nat.le_of_ble_eq_true rfl) dX2_init_10 ?_
  refine ri_top (iI_min (a := 300) (b := 120) (by omega) (by omega)) ?_
  refine ri_ex (b := 120) (by omega) ?_
  refine va_mmax hx hb (by rw [hml]; exact hl.1.symm) hown (hts (.methodLink RX2 15 Lib.Math.max.name) (by decide +kernel)) (hts (.static Lib.Math.max.name) (by decide +kernel)) (hts (.initialized "java/lang/Math") (by decide +kernel)) (hts (.code Lib.Math.max.name Lib.Math.max.code 2 (some .int)) (by decide +kernel)) (Nat.le_of_ble_eq_true rfl) (Nat.le_of_ble_eq_true rfl) (Nat.le_of_ble_eq_true rfl) (Nat.le_of_ble_eq_true rfl) dX2_init_13 ?_
  refine ri_top (iI_max (a := 1) (b := 120) (by omega) (by omega)) ?_
  refine ri_ex (b := 120) (by omega) ?_
  refine va_putF (D := g) (ci := 2) (v := .int (iI 120)) (ty := .int) (C := RX2) (T := TX2) (N := 16) hx hb hts inX2 tyX2 tyX2_ok nmX2 hown hK.1 hP hD hS 0 rfl rfl 0 (by decide) f18 (fun _ h9 => h9) rfl hin rfl (by decide +kernel) rfl rfl (Nat.le_of_ble_eq_true rfl) dX2_init_16 (fun H locs hP hD hS => ?_)
  have hP : va_P g vwCl [(w, .inr (2, [.int (iI 120), .int (iI 0), .null, .null, .null, .null, .null, .int (iI 0), .int (iI 0), .int (iI 0), .int (iI 0), .int (iI 0), .int (iI 0), .int (iI 0), .int (iI 0), .int (iI 0)]))] H := hP
  have hD : va_D A [(w, .inr (2, [.int (iI 120), .int (iI 0), .null, .null, .null, .null, .null, .int (iI 0), .int (iI 0), .int (iI 0), .int (iI 0), .int (iI 0), .int (iI 0), .int (iI 0), .int (iI 0), .int (iI 0)]))] := hD
  refine lv_aload_n hx hb dX2_init_19 rfl (lv_at hl 0 rfl) ?_
  refine lv_iconst (v := iI 2) hx hb dX2_init_20 rfl ?_
  refine lv_aload_n hx hb dX2_init_21 rfl (lv_at hl 0 rfl) ?_
  refine va_get (D := g) (ci := 2) (v := .int (iI 120)) (C := RX2) (T := TX2) (N := 16) hx hb hts inX2 hown hK.1 hP 0 rfl rfl 0 (by decide) f18 (fun _ h9 => h9) rfl dX2_init_22 ?_
  refine ri_imul (a := 2) (b := 120) hx hb dX2_init_25 ?_
  refine lv_bipush (v := iI 6) hx hb dX2_init_26 (by decide) ?_
  refine ri_shr (a := (2 * 120)) (b := 6) hx hb (by omega) 6 (by decide) dX2_init_28 ?_
  refine ri_ex (b := ((2 * 120) / 64)) (by first | rfl | simp | omega) ?_
  refine lv_iconst (v := iI 1) hx hb dX2_init_29 rfl ?_
  refine ri_iadd (a := ((2 * 120) / 64)) (b := 1) hx hb dX2_init_30 ?_
  refine ri_ex (b := 4) (by omega) ?_
  refine va_putF (D := g) (ci := 2) (v := .int (iI 4)) (ty := .int) (C := RX2) (T := TX2) (N := 16) hx hb hts inX2 tyX2 tyX2_ok nmX2 hown hK.1 hP hD hS 0 rfl rfl 1 (by decide) f24 (fun _ h9 => h9) rfl hin rfl (by decide +kernel) rfl rfl (Nat.le_of_ble_eq_true rfl) dX2_init_31 (fun H locs hP hD hS => ?_)
  have hP : va_P g vwCl [(w, .inr (2, [.int (iI 120), .int (iI 4), .null, .null, .null, .null, .null, .int (iI 0), .int (iI 0), .int (iI 0), .int (iI 0), .int (iI 0), .int (iI 0), .int (iI 0), .int (iI 0), .int (iI 0)]))] H := hP
  have hD : va_D A [(w, .inr (2, [.int (iI 120), .int (iI 4), .null, .null, .null, .null, .null, .int (iI 0), .int (iI 0), .int (iI 0), .int (iI 0), .int (iI 0), .int (iI 0), .int (iI 0), .int (iI 0), .int (iI 0)]))] := hD
  refine lv_aload_n hx hb dX2_init_34 rfl (lv_at hl 0 rfl) ?_
  refine lv_aload_n hx hb dX2_init_35 rfl (lv_at hl 0 rfl) ?_
  refine va_get (D := g) (ci := 2) (v := .int (iI 4)) (C := RX2) (T := TX2) (N := 16) hx hb hts inX2 hown hK.1 hP 0 rfl rfl 1 (by decide) f24 (fun _ h9 => h9) rfl dX2_init_36 ?_
  refine ri_newaJ (n := 4) (N := 4) hx hb (hts (.arrayClass .long) (by decide +kernel)) hK hP hD hS hA (by omega) (Nat.le_of_ble_eq_true rfl) (Nat.le_of_ble_eq_true rfl) dX2_init_39 (fun q39 H hP hD hS => ?_)
  have hP : va_P g vwCl [(w, .inr (2, [.int (iI 120), .int (iI 4), .null, .null, .null, .null, .null, .int (iI 0), .int (iI 0), .int (iI 0), .int (iI 0), .int (iI 0), .int (iI 0), .int (iI 0), .int (iI 0), .int (iI 0)])), (q39, .inl (k.2.1, 4, .inr (.inl (fun _ => 0))))] H := hP
  have hD : va_D A [(w, .inr (2, [.int (iI 120), .int (iI 4), .null, .null, .null, .null, .null, .int (iI 0), .int (iI 0), .int (iI 0), .int (iI 0), .int (iI 0), .int (iI 0), .int (iI 0), .int (iI 0), .int (iI 0)])), (q39, .inl (k.2.1, 4, .inr (.inl (fun _ => 0))))] := hD
  refine W.widen (k := 1) (n := 4) (Nat.le_refl _) (Nat.le_refl _) ?_
  refine va_putF (D := g) (ci := 2) (v := .ref q39) (ty := (tyX2 2)) (C := RX2) (T := TX2) (N := 16) hx hb hts inX2 tyX2 tyX2_ok nmX2 hown hK.1 hP hD hS 0 rfl rfl 2 (by decide) f27 (fun _ h9 => h9) rfl hin rfl (by decide +kernel) rfl rfl (Nat.le_of_ble_eq_true rfl) dX2_init_41 (fun H locs hP hD hS => ?_)
  have hP : va_P g vwCl [(w, .inr (2, [.int (iI 120), .int (iI 4), .ref q39, .null, .null, .null, .null, .int (iI 0), .int (iI 0), .int (iI 0), .int (iI 0), .int (iI 0), .int (iI 0), .int (iI 0), .int (iI 0), .int (iI 0)])), (q39, .inl (k.2.1, 4, .inr (.inl (fun _ => 0))))] H := hP
  have hD : va_D A [(w, .inr (2, [.int (iI 120), .int (iI 4), .ref q39, .null, .null, .null, .null, .int (iI 0), .int (iI 0), .int (iI 0), .int (iI 0), .int (iI 0), .int (iI 0), .int (iI 0), .int (iI 0), .int (iI 0)])), (q39, .inl (k.2.1, 4, .inr (.inl (fun _ => 0))))] := hD
  refine lv_aload_n hx hb dX2_init_44 rfl (lv_at hl 0 rfl) ?_
  refine lv_aload_n hx hb dX2_init_45 rfl (lv_at hl 0 rfl) ?_
  refine va_get (D := g) (ci := 2) (v := .int (iI 4)) (C := RX2) (T := TX2) (N := 16) hx hb hts inX2 hown hK.1 hP 0 rfl rfl 1 (by decide) f24 (fun _ h9 => h9) rfl dX2_init_46 ?_
  refine lv_aload_n hx hb dX2_init_49 rfl (lv_at hl 0 rfl) ?_
  refine va_get (D := g) (ci := 2) (v := .int (iI 120)) (C := RX2) (T := TX2) (N := 16) hx hb hts inX2 hown hK.1 hP 0 rfl rfl 0 (by decide) f18 (fun _ h9 => h9) rfl dX2_init_50 ?_
  refine lv_iconst (v := iI 1) hx hb dX2_init_53 rfl ?_
  refine ri_iadd (a := 120) (b := 1) hx hb dX2_init_54 ?_
  refine ri_imul (a := 4) (b := (120 + 1)) hx hb dX2_init_55 ?_
  refine ri_newaJ (n := (4 * (120 + 1))) (N := 484) hx hb (hts (.arrayClass .long) (by decide +kernel)) hK hP hD hS hA (by omega) (Nat.le_of_ble_eq_true rfl) (Nat.le_of_ble_eq_true rfl) dX2_init_56 (fun q56 H hP hD hS => ?_)
  have hP : va_P g vwCl [(w, .inr (2, [.int (iI 120), .int (iI 4), .ref q39, .null, .null, .null, .null, .int (iI 0), .int (iI 0), .int (iI 0), .int (iI 0), .int (iI 0), .int (iI 0), .int (iI 0), .int (iI 0), .int (iI 0)])), (q39, .inl (k.2.1, 4, .inr (.inl (fun _ => 0)))), (q56, .inl (k.2.1, 484, .inr (.inl (fun _ => 0))))] H := hP
  have hD : va_D A [(w, .inr (2, [.int (iI 120), .int (iI 4), .ref q39, .null, .null, .null, .null, .int (iI 0), .int (iI 0), .int (iI 0), .int (iI 0), .int (iI 0), .int (iI 0), .int (iI 0), .int (iI 0), .int (iI 0)])), (q39, .inl (k.2.1, 4, .inr (.inl (fun _ => 0)))), (q56, .inl (k.2.1, 484, .inr (.inl (fun _ => 0))))] := hD
  refine W.widen (k := 2) (n := 488) (Nat.le_refl _) (Nat.le_refl _) ?_
  refine va_putF (D := g) (ci := 2) (v := .ref q56) (ty := (tyX2 3)) (C := RX2) (T := TX2) (N := 16) hx hb hts inX2 tyX2 tyX2_ok nmX2 hown hK.1 hP hD hS 0 rfl rfl 3 (by decide) f31 (fun _ h9 => h9) rfl hin rfl (by decide +kernel) rfl rfl (Nat.le_of_ble_eq_true rfl) dX2_init_58 (fun H locs hP hD hS => ?_)
  have hP : va_P g vwCl [(w, .inr (2, [.int (iI 120), .int (iI 4), .ref q39, .ref q56, .null, .null, .null, .int (iI 0), .int (iI 0), .int (iI 0), .int (iI 0), .int (iI 0), .int (iI 0), .int (iI 0), .int (iI 0), .int (iI 0)])), (q39, .inl (k.2.1, 4, .inr (.inl (fun _ => 0)))), (q56, .inl (k.2.1, 484, .inr (.inl (fun _ => 0))))] H := hP
  have hD : va_D A [(w, .inr (2, [.int (iI 120), .int (iI 4), .ref q39, .ref q56, .null, .null, .null, .int (iI 0), .int (iI 0), .int (iI 0), .int (iI 0), .int (iI 0), .int (iI 0), .int (iI 0), .int (iI 0), .int (iI 0)])), (q39, .inl (k.2.1, 4, .inr (.inl (fun _ => 0)))), (q56, .inl (k.2.1, 484, .inr (.inl (fun _ => 0))))] := hD
  refine lv_aload_n hx hb dX2_init_61 rfl (lv_at hl 0 rfl) ?_
  refine lv_aload_n hx hb dX2_init_62 rfl (lv_at hl 0 rfl) ?_
  refine va_get (D := g) (ci := 2) (v := .int (iI 120)) (C := RX2) (T := TX2) (N := 16) hx hb hts inX2 hown hK.1 hP 0 rfl rfl 0 (by decide) f18 (fun _ h9 => h9) rfl dX2_init_63 ?_
  refine lv_iconst (v := iI 1) hx hb dX2_init_66 rfl ?_
  refine ri_iadd (a := 120) (b := 1) hx hb dX2_init_67 ?_
  refine ri_newaI (n := (120 + 1)) (N := 121) hx hb (hts (.arrayClass .int) (by decide +kernel)) hK hP hD hS hA (by omega) (Nat.le_of_ble_eq_true rfl) (Nat.le_of_ble_eq_true rfl) dX2_init_68 (fun q68 H hP hD hS => ?_)
  have hP : va_P g vwCl [(w, .inr (2, [.int (iI 120), .int (iI 4), .ref q39, .ref q56, .null, .null, .null, .int (iI 0), .int (iI 0), .int (iI 0), .int (iI 0), .int (iI 0), .int (iI 0), .int (iI 0), .int (iI 0), .int (iI 0)])), (q39, .inl (k.2.1, 4, .inr (.inl (fun _ => 0)))), (q56, .inl (k.2.1, 484, .inr (.inl (fun _ => 0)))), (q68, .inl (k.1, 121, .inl (iF (fun _ => 0))))] H := hP
  have hD : va_D A [(w, .inr (2, [.int (iI 120), .int (iI 4), .ref q39, .ref q56, .null, .null, .null, .int (iI 0), .int (iI 0), .int (iI 0), .int (iI 0), .int (iI 0), .int (iI 0), .int (iI 0), .int (iI 0), .int (iI 0)])), (q39, .inl (k.2.1, 4, .inr (.inl (fun _ => 0)))), (q56, .inl (k.2.1, 484, .inr (.inl (fun _ => 0)))), (q68, .inl (k.1, 121, .inl (iF (fun _ => 0))))] := hD
  refine W.widen (k := 3) (n := 609) (Nat.le_refl _) (Nat.le_refl _) ?_
  refine va_putF (D := g) (ci := 2) (v := .ref q68) (ty := (tyX2 4)) (C := RX2) (T := TX2) (N := 16) hx hb hts inX2 tyX2 tyX2_ok nmX2 hown hK.1 hP hD hS 0 rfl rfl 4 (by decide) f34 (fun _ h9 => h9) rfl hin rfl (by decide +kernel) rfl rfl (Nat.le_of_ble_eq_true rfl) dX2_init_70 (fun H locs hP hD hS => ?_)
  have hP : va_P g vwCl [(w, .inr (2, [.int (iI 120), .int (iI 4), .ref q39, .ref q56, .ref q68, .null, .null, .int (iI 0), .int (iI 0), .int (iI 0), .int (iI 0), .int (iI 0), .int (iI 0), .int (iI 0), .int (iI 0), .int (iI 0)])), (q39, .inl (k.2.1, 4, .inr (.inl (fun _ => 0)))), (q56, .inl (k.2.1, 484, .inr (.inl (fun _ => 0)))), (q68, .inl (k.1, 121, .inl (iF (fun _ => 0))))] H := hP
  have hD : va_D A [(w, .inr (2, [.int (iI 120), .int (iI 4), .ref q39, .ref q56, .ref q68, .null, .null, .int (iI 0), .int (iI 0), .int (iI 0), .int (iI 0), .int (iI 0), .int (iI 0), .int (iI 0), .int (iI 0), .int (iI 0)])), (q39, .inl (k.2.1, 4, .inr (.inl (fun _ => 0)))), (q56, .inl (k.2.1, 484, .inr (.inl (fun _ => 0)))), (q68, .inl (k.1, 121, .inl (iF (fun _ => 0))))] := hD
  refine lv_aload_n hx hb dX2_init_73 rfl (lv_at hl 0 rfl) ?_
  refine lv_aload_n hx hb dX2_init_74 rfl (lv_at hl 0 rfl) ?_
  refine va_get (D := g) (ci := 2) (v := .int (iI 120)) (C := RX2) (T := TX2) (N := 16) hx hb hts inX2 hown hK.1 hP 0 rfl rfl 0 (by decide) f18 (fun _ h9 => h9) rfl dX2_init_75 ?_
  refine lv_iconst (v := iI 1) hx hb dX2_init_78 rfl ?_
  refine ri_iadd (a := 120) (b := 1) hx hb dX2_init_79 ?_
  refine ri_newaI (n := (120 + 1)) (N := 121) hx hb (hts (.arrayClass .int) (by decide +kernel)) hK hP hD hS hA (by omega) (Nat.le_of_ble_eq_true rfl) (Nat.le_of_ble_eq_true rfl) dX2_init_80 (fun q80 H hP hD hS => ?_)
  have hP : va_P g vwCl [(w, .inr (2, [.int (iI 120), .int (iI 4), .ref q39, .ref q56, .ref q68, .null, .null, .int (iI 0), .int (iI 0), .int (iI 0), .int (iI 0), .int (iI 0), .int (iI 0), .int (iI 0), .int (iI 0), .int (iI 0)])), (q39, .inl (k.2.1, 4, .inr (.inl (fun _ => 0)))), (q56, .inl (k.2.1, 484, .inr (.inl (fun _ => 0)))), (q68, .inl (k.1, 121, .inl (iF (fun _ => 0)))), (q80, .inl (k.1, 121, .inl (iF (fun _ => 0))))] H := hP
  have hD : va_D A [(w, .inr (2, [.int (iI 120), .int (iI 4), .ref q39, .ref q56, .ref q68, .null, .null, .int (iI 0), .int (iI 0), .int (iI 0), .int (iI 0), .int (iI 0), .int (iI 0), .int (iI 0), .int (iI 0), .int (iI 0)])), (q39, .inl (k.2.1, 4, .inr (.inl (fun _ => 0)))), (q56, .inl (k.2.1, 484, .inr (.inl (fun _ => 0)))), (q68, .inl (k.1, 121, .inl (iF (fun _ => 0)))), (q80, .inl (k.1, 121, .inl (iF (fun _ => 0))))] := hD
  refine W.widen (k := 4) (n := 730) (Nat.le_refl _) (Nat.le_refl _) ?_
  refine va_putF (D := g) (ci := 2) (v := .ref q80) (ty := (tyX2 5)) (C := RX2) (T := TX2) (N := 16) hx hb hts inX2 tyX2 tyX2_ok nmX2 hown hK.1 hP hD hS 0 rfl rfl 5 (by decide) f38 (fun _ h9 => h9) rfl hin rfl (by decide +kernel) rfl rfl (Nat.le_of_ble_eq_true rfl) dX2_init_82 (fun H locs hP hD hS => ?_)
  have hP : va_P g vwCl [(w, .inr (2, [.int (iI 120), .int (iI 4), .ref q39, .ref q56, .ref q68, .ref q80, .null, .int (iI 0), .int (iI 0), .int (iI 0), .int (iI 0), .int (iI 0), .int (iI 0), .int (iI 0), .int (iI 0), .int (iI 0)])), (q39, .inl (k.2.1, 4, .inr (.inl (fun _ => 0)))), (q56, .inl (k.2.1, 484, .inr (.inl (fun _ => 0)))), (q68, .inl (k.1, 121, .inl (iF (fun _ => 0)))), (q80, .inl (k.1, 121, .inl (iF (fun _ => 0))))] H := hP
  have hD : va_D A [(w, .inr (2, [.int (iI 120), .int (iI 4), .ref q39, .ref q56, .ref q68, .ref q80, .null, .int (iI 0), .int (iI 0), .int (iI 0), .int (iI 0), .int (iI 0), .int (iI 0), .int (iI 0), .int (iI 0), .int (iI 0)])), (q39, .inl (k.2.1, 4, .inr (.inl (fun _ => 0)))), (q56, .inl (k.2.1, 484, .inr (.inl (fun _ => 0)))), (q68, .inl (k.1, 121, .inl (iF (fun _ => 0)))), (q80, .inl (k.1, 121, .inl (iF (fun _ => 0))))] := hD
  refine lv_aload_n hx hb dX2_init_85 rfl (lv_at hl 0 rfl) ?_
  refine lv_aload_n hx hb dX2_init_86 rfl (lv_at hl 0 rfl) ?_
  refine va_get (D := g) (ci := 2) (v := .int (iI 120)) (C := RX2) (T := TX2) (N := 16) hx hb hts inX2 hown hK.1 hP 0 rfl rfl 0 (by decide) f18 (fun _ h9 => h9) rfl dX2_init_87 ?_
  refine lv_iconst (v := iI 1) hx hb dX2_init_90 rfl ?_
  refine ri_iadd (a := 120) (b := 1) hx hb dX2_init_91 ?_
  refine ri_newaI (n := (120 + 1)) (N := 121) hx hb (hts (.arrayClass .int) (by decide +kernel)) hK hP hD hS hA (by omega) (Nat.le_of_ble_eq_true rfl) (Nat.le_of_ble_eq_true rfl) dX2_init_92 (fun q92 H hP hD hS => ?_)
  have hP : va_P g vwCl [(w, .inr (2, [.int (iI 120), .int (iI 4), .ref q39, .ref q56, .ref q68, .ref q80, .null, .int (iI 0), .int (iI 0), .int (iI 0), .int (iI 0), .int (iI 0), .int (iI 0), .int (iI 0), .int (iI 0), .int (iI 0)])), (q39, .inl (k.2.1, 4, .inr (.inl (fun _ => 0)))), (q56, .inl (k.2.1, 484, .inr (.inl (fun _ => 0)))), (q68, .inl (k.1, 121, .inl (iF (fun _ => 0)))), (q80, .inl (k.1, 121, .inl (iF (fun _ => 0)))), (q92, .inl (k.1, 121, .inl (iF (fun _ => 0))))] H := hP
  have hD : va_D A [(w, .inr (2, [.int (iI 120), .int (iI 4), .ref q39, .ref q56, .ref q68, .ref q80, .null, .int (iI 0), .int (iI 0), .int (iI 0), .int (iI 0), .int (iI 0), .int (iI 0), .int (iI 0), .int (iI 0), .int (iI 0)])), (q39, .inl (k.2.1, 4, .inr (.inl (fun _ => 0)))), (q56, .inl (k.2.1, 484, .inr (.inl (fun _ => 0)))), (q68, .inl (k.1, 121, .inl (iF (fun _ => 0)))), (q80, .inl (k.1, 121, .inl (iF (fun _ => 0)))), (q92, .inl (k.1, 121, .inl (iF (fun _ => 0))))] := hD
  refine W.widen (k := 5) (n := 851) (Nat.le_refl _) (Nat.le_refl _) ?_
  refine va_putF (D := g) (ci := 2) (v := .ref q92) (ty := (tyX2 6)) (C := RX2) (T := TX2) (N := 16) hx hb hts inX2 tyX2 tyX2_ok nmX2 hown hK.1 hP hD hS 0 rfl rfl 6 (by decide) f41 (fun _ h9 => h9) rfl hin rfl (by decide +kernel) rfl rfl (Nat.le_of_ble_eq_true rfl) dX2_init_94 (fun H locs hP hD hS => ?_)
  have hP : va_P g vwCl [(w, .inr (2, [.int (iI 120), .int (iI 4), .ref q39, .ref q56, .ref q68, .ref q80, .ref q92, .int (iI 0), .int (iI 0), .int (iI 0), .int (iI 0), .int (iI 0), .int (iI 0), .int (iI 0), .int (iI 0), .int (iI 0)])), (q39, .inl (k.2.1, 4, .inr (.inl (fun _ => 0)))), (q56, .inl (k.2.1, 484, .inr (.inl (fun _ => 0)))), (q68, .inl (k.1, 121, .inl (iF (fun _ => 0)))), (q80, .inl (k.1, 121, .inl (iF (fun _ => 0)))), (q92, .inl (k.1, 121, .inl (iF (fun _ => 0))))] H := hP
  have hD : va_D A [(w, .inr (2, [.int (iI 120), .int (iI 4), .ref q39, .ref q56, .ref q68, .ref q80, .ref q92, .int (iI 0), .int (iI 0), .int (iI 0), .int (iI 0), .int (iI 0), .int (iI 0), .int (iI 0), .int (iI 0), .int (iI 0)])), (q39, .inl (k.2.1, 4, .inr (.inl (fun _ => 0)))), (q56, .inl (k.2.1, 484, .inr (.inl (fun _ => 0)))), (q68, .inl (k.1, 121, .inl (iF (fun _ => 0)))), (q80, .inl (k.1, 121, .inl (iF (fun _ => 0)))), (q92, .inl (k.1, 121, .inl (iF (fun _ => 0))))] := hD
  exact hret (q39, q56, q68, q80, q92) _ _ _ _ dX2_init_97 trivial hP hD hS

