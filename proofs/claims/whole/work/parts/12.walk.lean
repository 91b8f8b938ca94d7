/-! THE CLASS Walk: the small methods -/
abbrev rm_2 : Room := { frames := 2, cells := 0, slots := 0, locals := 60 }
abbrev rm_3 : Room := { frames := 3, cells := 0, slots := 0, locals := 90 }
abbrev rm_4 : Room := { frames := 4, cells := 0, slots := 0, locals := 120 }
abbrev rm_5 : Room := { frames := 5, cells := 0, slots := 0, locals := 150 }
theorem up_self {α : Type} (F : Int → α) (i : Int) : up F i (F i) = F := by
  funext j
  unfold up
  by_cases h : j = i
  · rw [if_pos h, h]
  · rw [if_neg h]
/-- a Walk of reach 300 -/
abbrev wO300 (w t0 t1 a0 a1 a2 : Nat) (o st pe dr sta hd on lf rt : Int) : Nat × va_E := (w, .inr (2, [.int (iI 300), .int (iI 10), .ref t0, .ref t1, .ref a0, .ref a1, .ref a2, .int (iI o), .int (iI st), .int (iI pe), .int (iI dr), .int (iI sta), .int (iI hd), .int (iI on), .int (iI lf), .int (iI rt)]))
abbrev wW300 (k : kT) (w t0 t1 a0 a1 a2 : Nat) (o st pe dr sta hd on lf rt : Int) (tp tps : Nat → Int64) (hs ss sd : Int → Int) : va_W := [(w, .inr (2, [.int (iI 300), .int (iI 10), .ref t0, .ref t1, .ref a0, .ref a1, .ref a2, .int (iI o), .int (iI st), .int (iI pe), .int (iI dr), .int (iI sta), .int (iI hd), .int (iI on), .int (iI lf), .int (iI rt)])), (t0, .inl (k.2.1, 10, .inr (.inl tp))), (t1, .inl (k.2.1, 3010, .inr (.inl tps))), (a0, .inl (k.1, 301, .inl (iF hs))), (a1, .inl (k.1, 301, .inl (iF ss))), (a2, .inl (k.1, 301, .inl (iF sd)))]
set_option maxHeartbeats 4000000 in
set_option maxRecDepth 100000 in
theorem c_symbolIn300 (l : Launch) (g : va_G) (k : kT) (w t0 t1 a0 a1 a2 : Nat) (o st pe dr sta hd on lf rt : Int) (ra N : Nat) (f : Nat → Int64) (fr ce : Int) (t : Int → Int) (h01 : ∀ j, t j = 0 ∨ t j = 1) (ht0 : ∀ j, (j < -300 ∨ 300 < j) → t j = 0) (hfr : 0 ≤ fr ∧ fr + 10 ≤ N ∧ N < 100000) (hf : ∀ w : Nat, w < 10 → f (fr.toNat + w) = bW 300 t w) (hce : -2147483648 ≤ ce ∧ ce < 2147483648) : cP l yX2_symbolIn wsX2_symbolIn rm_0 g k [wO300 w t0 t1 a0 a1 a2 o st pe dr sta hd on lf rt, (ra, .inl (k.2.1, N, .inr (.inl f)))] [.ref w, .ref ra, .int (iI fr), .int (iI ce)] (fun r => r = iI (t ce)) := by
  refine st_P (by decide) rfl (Nat.le_of_ble_eq_true rfl) ?_
  intro p e s m below meth c Q hx hb hml hown hts hP hK hret ls hl
  have hown : s.vm.findClass RX2 = some m.cls := hown
  have f18 := hts (.fieldLink RX2 18 "MachineTree$Walk" "reach" "I") (by decide +kernel)
  have inX2 := (by decide +kernel : ∀ w ∈ wsX20, w ∈ wsX2_symbolIn)
  have hl : lv_has ls 6 [(0, .ref w), (1, .ref ra), (2, .int (iI fr)), (3, .int (iI ce))] := hl
  refine lv_iload_n hx hb dX2_symbolIn_0 rfl (lv_at hl 3 rfl) ?_
  refine lv_aload_n hx hb dX2_symbolIn_1 rfl (lv_at hl 0 rfl) ?_
  refine va_get (D := g) (ci := 2) (v := .int (iI 300)) (C := RX2) (T := TX2) (N := 16) hx hb hts inX2 hown hK.1 hP 0 rfl rfl 0 (by decide) f18 (fun _ h9 => h9) rfl dX2_symbolIn_2 ?_
  refine lv_ineg hx hb dX2_symbolIn_5 ?_
  refine ri_top (iI_neg 300) ?_
  refine ri_icmp_lt (a := ce) (b := (-300)) (tgt := 17) hx hb (by omega) (by omega) dX2_symbolIn_6 (by decide) (fun c6 => ?_) (fun c6 => ?_)
  · skip
    refine lv_iconst (v := iI 0) hx hb dX2_symbolIn_17 rfl ?_
    exact hret (iI 0) _ _ dX2_symbolIn_18 (by rw [ht0 ce (by omega)])
  · skip
    refine lv_iload_n hx hb dX2_symbolIn_9 rfl (lv_at hl 3 rfl) ?_
    refine lv_aload_n hx hb dX2_symbolIn_10 rfl (lv_at hl 0 rfl) ?_
    refine va_get (D := g) (ci := 2) (v := .int (iI 300)) (C := RX2) (T := TX2) (N := 16) hx hb hts inX2 hown hK.1 hP 0 rfl rfl 0 (by decide) f18 (fun _ h9 => h9) rfl dX2_symbolIn_11 ?_
    refine ri_icmp_le (a := ce) (b := 300) (tgt := 19) hx hb (by omega) (by omega) dX2_symbolIn_14 (by decide) (fun c14 => ?_) (fun c14 => ?_)
    · skip
      refine lv_iload_n hx hb dX2_symbolIn_19 rfl (lv_at hl 3 rfl) ?_
      refine lv_aload_n hx hb dX2_symbolIn_20 rfl (lv_at hl 0 rfl) ?_
      refine va_get (D := g) (ci := 2) (v := .int (iI 300)) (C := RX2) (T := TX2) (N := 16) hx hb hts inX2 hown hK.1 hP 0 rfl rfl 0 (by decide) f18 (fun _ h9 => h9) rfl dX2_symbolIn_21 ?_
      refine ri_iadd (a := ce) (b := 300) hx hb dX2_symbolIn_24 ?_
      refine lv_istore (lv' := [(4, .int (iI (ce + 300))), (0, .ref w), (1, .ref ra), (2, .int (iI fr)), (3, .int (iI ce))]) hx hb dX2_symbolIn_25 hl (by decide) rfl (fun ls hl => ?_)
      refine lv_iload_n hx hb dX2_symbolIn_27 rfl (lv_at hl 3 rfl) ?_
      refine lv_iload hx hb dX2_symbolIn_28 (lv_at hl 0 rfl) ?_
      refine lv_bipush (v := iI 6) hx hb dX2_symbolIn_30 (by decide) ?_
      refine ri_shr (a := (ce + 300)) (b := 6) hx hb (by omega) 6 (by decide) dX2_symbolIn_32 ?_
      refine ri_ex (b := ((ce + 300) / 64)) (by first | rfl | simp | omega) ?_
      refine ri_iadd (a := fr) (b := ((ce + 300) / 64)) hx hb dX2_symbolIn_33 ?_
      refine lv_istore (lv' := [(5, .int (iI (fr + ((ce + 300) / 64)))), (4, .int (iI (ce + 300))), (0, .ref w), (1, .ref ra), (2, .int (iI fr)), (3, .int (iI ce))]) hx hb dX2_symbolIn_34 hl (by decide) rfl (fun ls hl => ?_)
      refine lv_iload hx hb dX2_symbolIn_36 (lv_at hl 0 rfl) ?_
      refine ri_if_lt (a := (fr + ((ce + 300) / 64))) (tgt := 64) hx hb (by omega) dX2_symbolIn_38 (by decide) (fun c38 => ?_) (fun c38 => ?_)
      · exact absurd c38 (by omega)
      · skip
        refine lv_iload hx hb dX2_symbolIn_41 (lv_at hl 0 rfl) ?_
        refine lv_aload_n hx hb dX2_symbolIn_43 rfl (lv_at hl 3 rfl) ?_
        refine ri_alen hx hb hK.1 hP 1 1 rfl rfl dX2_symbolIn_44 ?_
        refine ri_ex (b := ((N : Nat) : Int)) rfl ?_
        refine ri_icmp_ge (a := (fr + ((ce + 300) / 64))) (b := ((N : Nat) : Int)) (tgt := 64) hx hb (by omega) (by omega) dX2_symbolIn_45 (by decide) (fun c45 => ?_) (fun c45 => ?_)
        · exact absurd c45 (by omega)
        · skip
          refine lv_aload_n hx hb dX2_symbolIn_48 rfl (lv_at hl 3 rfl) ?_
          refine lv_iload hx hb dX2_symbolIn_49 (lv_at hl 0 rfl) ?_
          refine ri_lald (f := f) (i := (fr + ((ce + 300) / 64))) hx hb hK.1 hP 1 1 rfl rfl (by omega) (by omega) dX2_symbolIn_51 ?_
          refine lv_iload hx hb dX2_symbolIn_52 (lv_at hl 1 rfl) ?_
          refine lv_bipush (v := iI 63) hx hb dX2_symbolIn_54 (by decide) ?_
          refine ri_and1 (a := (ce + 300)) (b := 63) hx hb (by omega) 6 (by decide) dX2_symbolIn_56 ?_
          refine ri_ex (b := ((ce + 300) % 64)) (by first | rfl | simp | omega) ?_
          refine lv_lushr hx hb dX2_symbolIn_57 rfl ?_
          refine lv_l2i hx hb dX2_symbolIn_58 rfl ?_
          refine lv_iconst (v := iI 1) hx hb dX2_symbolIn_59 rfl ?_
          refine lv_iand hx hb dX2_symbolIn_60 ?_
          refine ri_top (y := iI (t ce)) (by rw [show (fr + (ce + 300) / 64).toNat = fr.toNat + ((ce + 300) / 64).toNat by omega, hf _ (by omega)]; exact (bW_rd 300 t _ _ (by omega) (h01 _)).trans (by congr 2; omega)) ?_
          refine lv_goto (tgt := 65) hx hb dX2_symbolIn_61 (by decide) ?_
          exact hret (iI (t ce)) _ _ dX2_symbolIn_65 rfl
    · skip
      refine lv_iconst (v := iI 0) hx hb dX2_symbolIn_17 rfl ?_
      exact hret (iI 0) _ _ dX2_symbolIn_18 (by rw [ht0 ce (by omega)])

set_option maxHeartbeats 4000000 in
set_option maxRecDepth 100000 in
theorem c_symbolNow300 (l : Launch) (g : va_G) (k : kT) (w t0 t1 a0 a1 a2 : Nat) (o st pe dr sta hd on lf rt : Int) (ce : Int) (t : Int → Int) (h01 : ∀ j, t j = 0 ∨ t j = 1) (ht0 : ∀ j, (j < -300 ∨ 300 < j) → t j = 0) (hce : -2147483648 ≤ ce ∧ ce < 2147483648) : cP l yX2_symbolNow wsX2_symbolNow rm_1 g k [wO300 w t0 t1 a0 a1 a2 o st pe dr sta hd on lf rt, (t0, .inl (k.2.1, 10, .inr (.inl (bW 300 t))))] [.ref w, .int (iI ce)] (fun r => r = iI (t ce)) := by
  refine st_P (by decide) rfl (Nat.le_of_ble_eq_true rfl) ?_
  intro p e s m below meth c Q hx hb hml hown hts hP hK hret ls hl
  have hown : s.vm.findClass RX2 = some m.cls := hown
  have f27 := hts (.fieldLink RX2 27 "MachineTree$Walk" "tape" "[J") (by decide +kernel)
  have inX2 := (by decide +kernel : ∀ w ∈ wsX20, w ∈ wsX2_symbolNow)
  have hl : lv_has ls 2 [(0, .ref w), (1, .int (iI ce))] := hl
  refine lv_aload_n hx hb dX2_symbolNow_0 rfl (lv_at hl 0 rfl) ?_
  refine lv_aload_n hx hb dX2_symbolNow_1 rfl (lv_at hl 0 rfl) ?_
  refine va_get (D := g) (ci := 2) (v := .ref t0) (C := RX2) (T := TX2) (N := 16) hx hb hts inX2 hown hK.1 hP 0 rfl rfl 2 (by decide) f27 (fun _ h9 => h9) rfl dX2_symbolNow_2 ?_
  refine lv_iconst (v := iI 0) hx hb dX2_symbolNow_5 rfl ?_
  refine lv_iload_n hx hb dX2_symbolNow_6 rfl (lv_at hl 1 rfl) ?_
  refine rc_P (own := RX2) (q := (RX2, TX2, 16)) (wc := [(w, .inr (2, [.int (iI 300), .int (iI 10), .ref t0, .ref t1, .ref a0, .ref a1, .ref a2, .int (iI o), .int (iI st), .int (iI pe), .int (iI dr), .int (iI sta), .int (iI hd), .int (iI on), .int (iI lf), .int (iI rt)])), (t0, .inl (k.2.1, 10, .inr (.inl (bW 300 t))))]) (As := [.ref t0, .int (iI 0), .int (iI ce)]) (rest := []) ⟨hx, hb, hml, hown, hts⟩ (c_symbolIn300 l g k w t0 t1 a0 a1 a2 o st pe dr sta hd on lf rt t0 10 (bW 300 t) 0 ce t h01 ht0 (by omega) (fun w _ => by rw [show (0 : Int).toNat + w = w by omega]) hce) (cwV 3 hts gX2_symbolNow_X2_symbolIn rfl rfl rfl (by decide +kernel) ⟨Nat.le_of_ble_eq_true rfl, Nat.le_of_ble_eq_true rfl⟩) hK hP [0, 1] rfl (ci := 2) (q0 := 0) rfl rfl rfl rfl hl.1 (Nat.le_of_ble_eq_true rfl) ⟨Nat.le_of_ble_eq_true rfl, Nat.le_of_ble_eq_true rfl⟩ dX2_symbolNow_7 (fun r7 hr7 => ?_)
  refine ri_top (y := iI (t ce)) hr7 ?_
  exact hret (iI (t ce)) _ _ dX2_symbolNow_10 rfl

set_option maxHeartbeats 4000000 in
set_option maxRecDepth 100000 in
theorem c_write300 (l : Launch) (g : va_G) (k : kT) (w t0 t1 a0 a1 a2 : Nat) (o st pe dr sta hd on lf rt : Int) (sz : Nat) (sy : Int) (t : Int → Int) (h01 : ∀ j, t j = 0 ∨ t j = 1) (ht0 : ∀ j, (j < -300 ∨ 300 < j) → t j = 0) (hhd : -300 ≤ hd ∧ hd ≤ 300) (hsy : sy = 0 ∨ sy = 1) : cV l yX2_write wsX2_write rm_2 g k [wO300 w t0 t1 a0 a1 a2 o st pe dr sta hd on lf rt, (t0, .inl (k.2.1, 10, .inr (.inl (bW 300 t))))] sz [.ref w, .int (iI sy)] 0 0 (fun u : Int × (Nat → Int64) => [wO300 w t0 t1 a0 a1 a2 o st pe dr sta hd u.1 lf rt, (t0, .inl (k.2.1, 10, .inr (.inl u.2)))]) (fun u => u.1 = on + (sy - t hd) ∧ u.2 = bW 300 (up t hd sy)) := by
  refine st_V (by decide) rfl (Nat.le_of_ble_eq_true rfl) ?_
  intro p e s m below meth c Q A hx hb hml hown hts hin hA hP hD hS hK hret ls hl
  have hown : s.vm.findClass RX2 = some m.cls := hown
  have f56 := hts (.fieldLink RX2 56 "MachineTree$Walk" "head" "I") (by decide +kernel)
  have inX2 := (by decide +kernel : ∀ w ∈ wsX20, w ∈ wsX2_write)
  have f18 := hts (.fieldLink RX2 18 "MachineTree$Walk" "reach" "I") (by decide +kernel)
  have f27 := hts (.fieldLink RX2 27 "MachineTree$Walk" "tape" "[J") (by decide +kernel)
  have f91 := hts (.fieldLink RX2 91 "MachineTree$Walk" "ones" "I") (by decide +kernel)
  have hl : lv_has ls 5 [(0, .ref w), (1, .int (iI sy))] := hl
  obtain ⟨H, hH⟩ : ∃ H, H = s.heap := ⟨_, rfl⟩
  obtain ⟨locs, hlo⟩ : ∃ L : List Loc, L = [] := ⟨_, rfl⟩
  rw [← hH] at hP
  have hS : va_S A s.heap H locs := by rw [hH, hlo]; exact hS
  rw [show W p l e rm_2 s m ([.ref w, .int (iI sy)] : List Value).toArray below meth c s.heap [] 0 0 Q (F0 m 0 ls []) = W p l e rm_2 s m ([.ref w, .int (iI sy)] : List Value).toArray below meth c H locs 0 0 Q (F0 m 0 ls []) by rw [hH, hlo]]
  clear hH hlo
  refine lv_aload_n hx hb dX2_write_0 rfl (lv_at hl 0 rfl) ?_
  refine va_get (D := g) (ci := 2) (v := .int (iI hd)) (C := RX2) (T := TX2) (N := 16) hx hb hts inX2 hown hK.1 hP 0 rfl rfl 12 (by decide) f56 (fun _ h9 => h9) rfl dX2_write_1 ?_
  refine lv_aload_n hx hb dX2_write_4 rfl (lv_at hl 0 rfl) ?_
  refine va_get (D := g) (ci := 2) (v := .int (iI 300)) (C := RX2) (T := TX2) (N := 16) hx hb hts inX2 hown hK.1 hP 0 rfl rfl 0 (by decide) f18 (fun _ h9 => h9) rfl dX2_write_5 ?_
  refine ri_iadd (a := hd) (b := 300) hx hb dX2_write_8 ?_
  refine lv_istore_n (lv' := [(2, .int (iI (hd + 300))), (0, .ref w), (1, .int (iI sy))]) hx hb dX2_write_9 rfl hl (by decide) rfl (fun ls hl => ?_)
  refine lv_iload_n hx hb dX2_write_10 rfl (lv_at hl 0 rfl) ?_
  refine lv_bipush (v := iI 6) hx hb dX2_write_11 (by decide) ?_
  refine ri_shr (a := (hd + 300)) (b := 6) hx hb (by omega) 6 (by decide) dX2_write_13 ?_
  refine ri_ex (b := ((hd + 300) / 64)) (by first | rfl | simp | omega) ?_
  refine lv_istore_n (lv' := [(3, .int (iI ((hd + 300) / 64))), (2, .int (iI (hd + 300))), (0, .ref w), (1, .int (iI sy))]) hx hb dX2_write_14 rfl hl (by decide) rfl (fun ls hl => ?_)
  refine lv_aload_n hx hb dX2_write_15 rfl (lv_at hl 2 rfl) ?_
  refine lv_aload_n hx hb dX2_write_16 rfl (lv_at hl 2 rfl) ?_
  refine va_get (D := g) (ci := 2) (v := .int (iI hd)) (C := RX2) (T := TX2) (N := 16) hx hb hts inX2 hown hK.1 hP 0 rfl rfl 12 (by decide) f56 (fun _ h9 => h9) rfl dX2_write_17 ?_
  refine rc_P (own := RX2) (q := (RX2, TX2, 16)) (wc := [(w, .inr (2, [.int (iI 300), .int (iI 10), .ref t0, .ref t1, .ref a0, .ref a1, .ref a2, .int (iI o), .int (iI st), .int (iI pe), .int (iI dr), .int (iI sta), .int (iI hd), .int (iI on), .int (iI lf), .int (iI rt)])), (t0, .inl (k.2.1, 10, .inr (.inl (bW 300 t))))]) (As := [.int (iI hd)]) (rest := []) ⟨hx, hb, hml, hown, hts⟩ (c_symbolNow300 l g k w t0 t1 a0 a1 a2 o st pe dr sta hd on lf rt hd t h01 ht0 (by omega)) (cwV 1 hts gX2_write_X2_symbolNow rfl rfl rfl (by decide +kernel) ⟨Nat.le_of_ble_eq_true rfl, Nat.le_of_ble_eq_true rfl⟩) hK hP [0, 1] rfl (ci := 2) (q0 := 0) rfl rfl rfl rfl hl.1 (Nat.le_of_ble_eq_true rfl) ⟨Nat.le_of_ble_eq_true rfl, Nat.le_of_ble_eq_true rfl⟩ dX2_write_20 (fun r20 hr20 => ?_)
  refine ri_top (y := iI (t hd)) hr20 ?_
  have hth := h01 hd
  refine lv_istore (lv' := [(4, .int (iI (t hd))), (3, .int (iI ((hd + 300) / 64))), (2, .int (iI (hd + 300))), (0, .ref w), (1, .int (iI sy))]) hx hb dX2_write_23 hl (by decide) rfl (fun ls hl => ?_)
  refine lv_iload hx hb dX2_write_25 (lv_at hl 0 rfl) ?_
  refine lv_iload_n hx hb dX2_write_27 rfl (lv_at hl 4 rfl) ?_
  refine ri_icmp_eq (a := (t hd)) (b := sy) (tgt := 72) hx hb (by omega) (by omega) dX2_write_28 (by decide) (fun c28 => ?_) (fun c28 => ?_)
  · skip
    exact hret (on, bW 300 t) _ _ _ _ dX2_write_72 ⟨by show on = on + (sy - t hd); omega, by show bW 300 t = bW 300 (up t hd sy); rw [show sy = t hd by omega, up_self]⟩ hP hD hS
  · skip
    refine lv_iload_n hx hb dX2_write_31 rfl (lv_at hl 1 rfl) ?_
    refine ri_if_lt (a := ((hd + 300) / 64)) (tgt := 72) hx hb (by omega) dX2_write_32 (by decide) (fun c32 => ?_) (fun c32 => ?_)
    · exact absurd c32 (by omega)
    · skip
      refine lv_iload_n hx hb dX2_write_35 rfl (lv_at hl 1 rfl) ?_
      refine lv_aload_n hx hb dX2_write_36 rfl (lv_at hl 3 rfl) ?_
      refine va_get (D := g) (ci := 2) (v := .ref t0) (C := RX2) (T := TX2) (N := 16) hx hb hts inX2 hown hK.1 hP 0 rfl rfl 2 (by decide) f27 (fun _ h9 => h9) rfl dX2_write_37 ?_
      refine ri_alen hx hb hK.1 hP 1 1 rfl rfl dX2_write_40 ?_
      refine ri_ex (b := 10) rfl ?_
      refine ri_icmp_ge (a := ((hd + 300) / 64)) (b := 10) (tgt := 72) hx hb (by omega) (by omega) dX2_write_41 (by decide) (fun c41 => ?_) (fun c41 => ?_)
      · exact absurd c41 (by omega)
      · skip
        refine lv_aload_n hx hb dX2_write_44 rfl (lv_at hl 3 rfl) ?_
        refine va_get (D := g) (ci := 2) (v := .ref t0) (C := RX2) (T := TX2) (N := 16) hx hb hts inX2 hown hK.1 hP 0 rfl rfl 2 (by decide) f27 (fun _ h9 => h9) rfl dX2_write_45 ?_
        refine lv_iload_n hx hb dX2_write_48 rfl (lv_at hl 1 rfl) ?_
        refine lv_dup2_11 hx hb dX2_write_49 rfl rfl ?_
        refine ri_lald (f := (bW 300 t)) (i := ((hd + 300) / 64)) hx hb hK.1 hP 1 1 rfl rfl (by omega) (by omega) dX2_write_50 ?_
        refine lv_lconst (v := 1) hx hb dX2_write_51 rfl ?_
        refine lv_iload_n hx hb dX2_write_52 rfl (lv_at hl 2 rfl) ?_
        refine lv_bipush (v := iI 63) hx hb dX2_write_53 (by decide) ?_
        refine ri_and1 (a := (hd + 300)) (b := 63) hx hb (by omega) 6 (by decide) dX2_write_55 ?_
        refine ri_ex (b := ((hd + 300) % 64)) (by first | rfl | simp | omega) ?_
        refine lv_lshl hx hb dX2_write_56 rfl ?_
        refine lv_lxor hx hb dX2_write_57 ?_
        refine ri_last (f := (bW 300 t)) (i := ((hd + 300) / 64)) (x := (((bW 300 t) (((hd + 300) / 64) : Int).toNat) ^^^ ((1 : Int64) <<< ((iI ((hd + 300) % 64)).toInt64 &&& 63)))) hx hb hK.1 hP hD hS 1 1 rfl rfl (by omega) (by omega) dX2_write_58 (fun H locs hP hD hS => ?_)
        have hP : va_P g vwCl [(w, .inr (2, [.int (iI 300), .int (iI 10), .ref t0, .ref t1, .ref a0, .ref a1, .ref a2, .int (iI o), .int (iI st), .int (iI pe), .int (iI dr), .int (iI sta), .int (iI hd), .int (iI on), .int (iI lf), .int (iI rt)])), (t0, .inl (k.2.1, 10, .inr (.inl (vp_updL (bW 300 t) (((hd + 300) / 64) : Int).toNat (((bW 300 t) (((hd + 300) / 64) : Int).toNat) ^^^ ((1 : Int64) <<< ((iI ((hd + 300) % 64)).toInt64 &&& 63)))))))] H := hP
        have hD : va_D A [(w, .inr (2, [.int (iI 300), .int (iI 10), .ref t0, .ref t1, .ref a0, .ref a1, .ref a2, .int (iI o), .int (iI st), .int (iI pe), .int (iI dr), .int (iI sta), .int (iI hd), .int (iI on), .int (iI lf), .int (iI rt)])), (t0, .inl (k.2.1, 10, .inr (.inl (vp_updL (bW 300 t) (((hd + 300) / 64) : Int).toNat (((bW 300 t) (((hd + 300) / 64) : Int).toNat) ^^^ ((1 : Int64) <<< ((iI ((hd + 300) % 64)).toInt64 &&& 63)))))))] := hD
        refine lv_aload_n hx hb dX2_write_59 rfl (lv_at hl 3 rfl) ?_
        refine lv_dup hx hb dX2_write_60 rfl ?_
        refine va_get (D := g) (ci := 2) (v := .int (iI on)) (C := RX2) (T := TX2) (N := 16) hx hb hts inX2 hown hK.1 hP 0 rfl rfl 13 (by decide) f91 (fun _ h9 => h9) rfl dX2_write_61 ?_
        refine lv_iload_n hx hb dX2_write_64 rfl (lv_at hl 4 rfl) ?_
        refine lv_iload hx hb dX2_write_65 (lv_at hl 0 rfl) ?_
        refine ri_isub (a := sy) (b := (t hd)) hx hb dX2_write_67 ?_
        refine ri_iadd (a := on) (b := (sy - (t hd))) hx hb dX2_write_68 ?_
        refine va_put (D := g) (ci := 2) (v := .int (iI (on + (sy - (t hd))))) (ty := .int) (C := RX2) (T := TX2) (N := 16) hx hb hts inX2 tyX2 tyX2_ok nmX2 hown hK.1 hP hD hS 0 rfl rfl 13 (by decide) f91 (fun _ h9 => h9) rfl (by decide +kernel) rfl rfl (Nat.le_of_ble_eq_true rfl) dX2_write_69 (fun H locs hP hD hS => ?_)
        have hP : va_P g vwCl [(w, .inr (2, [.int (iI 300), .int (iI 10), .ref t0, .ref t1, .ref a0, .ref a1, .ref a2, .int (iI o), .int (iI st), .int (iI pe), .int (iI dr), .int (iI sta), .int (iI hd), .int (iI (on + (sy - (t hd)))), .int (iI lf), .int (iI rt)])), (t0, .inl (k.2.1, 10, .inr (.inl (vp_updL (bW 300 t) (((hd + 300) / 64) : Int).toNat (((bW 300 t) (((hd + 300) / 64) : Int).toNat) ^^^ ((1 : Int64) <<< ((iI ((hd + 300) % 64)).toInt64 &&& 63)))))))] H := hP
        have hD : va_D A [(w, .inr (2, [.int (iI 300), .int (iI 10), .ref t0, .ref t1, .ref a0, .ref a1, .ref a2, .int (iI o), .int (iI st), .int (iI pe), .int (iI dr), .int (iI sta), .int (iI hd), .int (iI (on + (sy - (t hd)))), .int (iI lf), .int (iI rt)])), (t0, .inl (k.2.1, 10, .inr (.inl (vp_updL (bW 300 t) (((hd + 300) / 64) : Int).toNat (((bW 300 t) (((hd + 300) / 64) : Int).toNat) ^^^ ((1 : Int64) <<< ((iI ((hd + 300) % 64)).toInt64 &&& 63)))))))] := hD
        exact hret (on + (sy - t hd), (vp_updL (bW 300 t) ((hd + 300) / 64).toNat ((bW 300 t) ((hd + 300) / 64).toNat ^^^ ((1 : Int64) <<< ((iI ((hd + 300) % 64)).toInt64 &&& 63))))) _ _ _ _ dX2_write_72 ⟨rfl, by show (vp_updL (bW 300 t) ((hd + 300) / 64).toNat ((bW 300 t) ((hd + 300) / 64).toNat ^^^ ((1 : Int64) <<< ((iI ((hd + 300) % 64)).toInt64 &&& 63)))) = _; rw [bW_wr 300 t _ _ (by omega) sy (by rw [show 64 * (((hd + 300) / 64).toNat : Int) + (hd + 300) % 64 - 300 = hd by omega]; omega), show 64 * (((hd + 300) / 64).toNat : Int) + (hd + 300) % 64 - 300 = hd by omega]⟩ hP hD hS

set_option maxHeartbeats 4000000 in
set_option maxRecDepth 100000 in
theorem c_note300 (l : Launch) (g : va_G) (k : kT) (w t0 t1 a0 a1 a2 : Nat) (o st pe dr sta hd on lf rt : Int) (tp tps : Nat → Int64) (hs ss sd : Int → Int) (sz : Nat) (side : Int) (hst : 0 ≤ st ∧ st ≤ 300) : cV l yX2_note wsX2_note rm_1 g k (wW300 k w t0 t1 a0 a1 a2 o st pe dr sta hd on lf rt tp tps hs ss sd) sz [.ref w, .int (iI side)] 0 0 (fun _ : Unit => wW300 k w t0 t1 a0 a1 a2 o st pe dr sta hd on lf rt tp (va_cpy tp tps 0 (st * 10).toNat 10) (up hs st hd) (up ss st sta) (up sd st side)) (fun _ => True) := by
  refine st_V (by decide) rfl (Nat.le_of_ble_eq_true rfl) ?_
  intro p e s m below meth c Q A hx hb hml hown hts hin hA hP hD hS hK hret ls hl
  have hown : s.vm.findClass RX2 = some m.cls := hown
  have f47 := hts (.fieldLink RX2 47 "MachineTree$Walk" "steps" "I") (by decide +kernel)
  have inX2 := (by decide +kernel : ∀ w ∈ wsX20, w ∈ wsX2_note)
  have f18 := hts (.fieldLink RX2 18 "MachineTree$Walk" "reach" "I") (by decide +kernel)
  have f34 := hts (.fieldLink RX2 34 "MachineTree$Walk" "heads" "[I") (by decide +kernel)
  have f56 := hts (.fieldLink RX2 56 "MachineTree$Walk" "head" "I") (by decide +kernel)
  have f38 := hts (.fieldLink RX2 38 "MachineTree$Walk" "states" "[I") (by decide +kernel)
  have f53 := hts (.fieldLink RX2 53 "MachineTree$Walk" "state" "I") (by decide +kernel)
  have f41 := hts (.fieldLink RX2 41 "MachineTree$Walk" "sides" "[I") (by decide +kernel)
  have f27 := hts (.fieldLink RX2 27 "MachineTree$Walk" "tape" "[J") (by decide +kernel)
  have f31 := hts (.fieldLink RX2 31 "MachineTree$Walk" "tapes" "[J") (by decide +kernel)
  have f24 := hts (.fieldLink RX2 24 "MachineTree$Walk" "words" "I") (by decide +kernel)
  have hl : lv_has ls 2 [(0, .ref w), (1, .int (iI side))] := hl
  obtain ⟨H, hH⟩ : ∃ H, H = s.heap := ⟨_, rfl⟩
  obtain ⟨locs, hlo⟩ : ∃ L : List Loc, L = [] := ⟨_, rfl⟩
  rw [← hH] at hP
  have hS : va_S A s.heap H locs := by rw [hH, hlo]; exact hS
  rw [show W p l e rm_1 s m ([.ref w, .int (iI side)] : List Value).toArray below meth c s.heap [] 0 0 Q (F0 m 0 ls []) = W p l e rm_1 s m ([.ref w, .int (iI side)] : List Value).toArray below meth c H locs 0 0 Q (F0 m 0 ls []) by rw [hH, hlo]]
  clear hH hlo
  refine lv_aload_n hx hb dX2_note_0 rfl (lv_at hl 0 rfl) ?_
  refine va_get (D := g) (ci := 2) (v := .int (iI st)) (C := RX2) (T := TX2) (N := 16) hx hb hts inX2 hown hK.1 hP 0 rfl rfl 8 (by decide) f47 (fun _ h9 => h9) rfl dX2_note_1 ?_
  refine ri_if_lt (a := st) (tgt := 18) hx hb (by omega) dX2_note_4 (by decide) (fun c4 => ?_) (fun c4 => ?_)
  · exact absurd c4 (by omega)
  · skip
    refine lv_aload_n hx hb dX2_note_7 rfl (lv_at hl 0 rfl) ?_
    refine va_get (D := g) (ci := 2) (v := .int (iI st)) (C := RX2) (T := TX2) (N := 16) hx hb hts inX2 hown hK.1 hP 0 rfl rfl 8 (by decide) f47 (fun _ h9 => h9) rfl dX2_note_8 ?_
    refine lv_aload_n hx hb dX2_note_11 rfl (lv_at hl 0 rfl) ?_
    refine va_get (D := g) (ci := 2) (v := .int (iI 300)) (C := RX2) (T := TX2) (N := 16) hx hb hts inX2 hown hK.1 hP 0 rfl rfl 0 (by decide) f18 (fun _ h9 => h9) rfl dX2_note_12 ?_
    refine ri_icmp_le (a := st) (b := 300) (tgt := 19) hx hb (by omega) (by omega) dX2_note_15 (by decide) (fun c15 => ?_) (fun c15 => ?_)
    · skip
      refine lv_aload_n hx hb dX2_note_19 rfl (lv_at hl 0 rfl) ?_
      refine va_get (D := g) (ci := 2) (v := .ref a0) (C := RX2) (T := TX2) (N := 16) hx hb hts inX2 hown hK.1 hP 0 rfl rfl 4 (by decide) f34 (fun _ h9 => h9) rfl dX2_note_20 ?_
      refine lv_aload_n hx hb dX2_note_23 rfl (lv_at hl 0 rfl) ?_
      refine va_get (D := g) (ci := 2) (v := .int (iI st)) (C := RX2) (T := TX2) (N := 16) hx hb hts inX2 hown hK.1 hP 0 rfl rfl 8 (by decide) f47 (fun _ h9 => h9) rfl dX2_note_24 ?_
      refine lv_aload_n hx hb dX2_note_27 rfl (lv_at hl 0 rfl) ?_
      refine va_get (D := g) (ci := 2) (v := .int (iI hd)) (C := RX2) (T := TX2) (N := 16) hx hb hts inX2 hown hK.1 hP 0 rfl rfl 12 (by decide) f56 (fun _ h9 => h9) rfl dX2_note_28 ?_
      refine ri_iast (F := hs) (i := st) (x := hd) hx hb hK.1 hP hD hS 3 0 rfl rfl (by omega) (by omega) dX2_note_31 (fun H locs hP hD hS => ?_)
      have hP : va_P g vwCl [(w, .inr (2, [.int (iI 300), .int (iI 10), .ref t0, .ref t1, .ref a0, .ref a1, .ref a2, .int (iI o), .int (iI st), .int (iI pe), .int (iI dr), .int (iI sta), .int (iI hd), .int (iI on), .int (iI lf), .int (iI rt)])), (t0, .inl (k.2.1, 10, .inr (.inl tp))), (t1, .inl (k.2.1, 3010, .inr (.inl tps))), (a0, .inl (k.1, 301, .inl (iF (up hs st hd)))), (a1, .inl (k.1, 301, .inl (iF ss))), (a2, .inl (k.1, 301, .inl (iF sd)))] H := hP
      have hD : va_D A [(w, .inr (2, [.int (iI 300), .int (iI 10), .ref t0, .ref t1, .ref a0, .ref a1, .ref a2, .int (iI o), .int (iI st), .int (iI pe), .int (iI dr), .int (iI sta), .int (iI hd), .int (iI on), .int (iI lf), .int (iI rt)])), (t0, .inl (k.2.1, 10, .inr (.inl tp))), (t1, .inl (k.2.1, 3010, .inr (.inl tps))), (a0, .inl (k.1, 301, .inl (iF (up hs st hd)))), (a1, .inl (k.1, 301, .inl (iF ss))), (a2, .inl (k.1, 301, .inl (iF sd)))] := hD
      refine lv_aload_n hx hb dX2_note_32 rfl (lv_at hl 0 rfl) ?_
      refine va_get (D := g) (ci := 2) (v := .ref a1) (C := RX2) (T := TX2) (N := 16) hx hb hts inX2 hown hK.1 hP 0 rfl rfl 5 (by decide) f38 (fun _ h9 => h9) rfl dX2_note_33 ?_
      refine lv_aload_n hx hb dX2_note_36 rfl (lv_at hl 0 rfl) ?_
      refine va_get (D := g) (ci := 2) (v := .int (iI st)) (C := RX2) (T := TX2) (N := 16) hx hb hts inX2 hown hK.1 hP 0 rfl rfl 8 (by decide) f47 (fun _ h9 => h9) rfl dX2_note_37 ?_
      refine lv_aload_n hx hb dX2_note_40 rfl (lv_at hl 0 rfl) ?_
      refine va_get (D := g) (ci := 2) (v := .int (iI sta)) (C := RX2) (T := TX2) (N := 16) hx hb hts inX2 hown hK.1 hP 0 rfl rfl 11 (by decide) f53 (fun _ h9 => h9) rfl dX2_note_41 ?_
      refine ri_iast (F := ss) (i := st) (x := sta) hx hb hK.1 hP hD hS 4 0 rfl rfl (by omega) (by omega) dX2_note_44 (fun H locs hP hD hS => ?_)
      have hP : va_P g vwCl [(w, .inr (2, [.int (iI 300), .int (iI 10), .ref t0, .ref t1, .ref a0, .ref a1, .ref a2, .int (iI o), .int (iI st), .int (iI pe), .int (iI dr), .int (iI sta), .int (iI hd), .int (iI on), .int (iI lf), .int (iI rt)])), (t0, .inl (k.2.1, 10, .inr (.inl tp))), (t1, .inl (k.2.1, 3010, .inr (.inl tps))), (a0, .inl (k.1, 301, .inl (iF (up hs st hd)))), (a1, .inl (k.1, 301, .inl (iF (up ss st sta)))), (a2, .inl (k.1, 301, .inl (iF sd)))] H := hP
      have hD : va_D A [(w, .inr (2, [.int (iI 300), .int (iI 10), .ref t0, .ref t1, .ref a0, .ref a1, .ref a2, .int (iI o), .int (iI st), .int (iI pe), .int (iI dr), .int (iI sta), .int (iI hd), .int (iI on), .int (iI lf), .int (iI rt)])), (t0, .inl (k.2.1, 10, .inr (.inl tp))), (t1, .inl (k.2.1, 3010, .inr (.inl tps))), (a0, .inl (k.1, 301, .inl (iF (up hs st hd)))), (a1, .inl (k.1, 301, .inl (iF (up ss st sta)))), (a2, .inl (k.1, 301, .inl (iF sd)))] := hD
      refine lv_aload_n hx hb dX2_note_45 rfl (lv_at hl 0 rfl) ?_
      refine va_get (D := g) (ci := 2) (v := .ref a2) (C := RX2) (T := TX2) (N := 16) hx hb hts inX2 hown hK.1 hP 0 rfl rfl 6 (by decide) f41 (fun _ h9 => h9) rfl dX2_note_46 ?_
      refine lv_aload_n hx hb dX2_note_49 rfl (lv_at hl 0 rfl) ?_
      refine va_get (D := g) (ci := 2) (v := .int (iI st)) (C := RX2) (T := TX2) (N := 16) hx hb hts inX2 hown hK.1 hP 0 rfl rfl 8 (by decide) f47 (fun _ h9 => h9) rfl dX2_note_50 ?_
      refine lv_iload_n hx hb dX2_note_53 rfl (lv_at hl 1 rfl) ?_
      refine ri_iast (F := sd) (i := st) (x := side) hx hb hK.1 hP hD hS 5 0 rfl rfl (by omega) (by omega) dX2_note_54 (fun H locs hP hD hS => ?_)
      have hP : va_P g vwCl [(w, .inr (2, [.int (iI 300), .int (iI 10), .ref t0, .ref t1, .ref a0, .ref a1, .ref a2, .int (iI o), .int (iI st), .int (iI pe), .int (iI dr), .int (iI sta), .int (iI hd), .int (iI on), .int (iI lf), .int (iI rt)])), (t0, .inl (k.2.1, 10, .inr (.inl tp))), (t1, .inl (k.2.1, 3010, .inr (.inl tps))), (a0, .inl (k.1, 301, .inl (iF (up hs st hd)))), (a1, .inl (k.1, 301, .inl (iF (up ss st sta)))), (a2, .inl (k.1, 301, .inl (iF (up sd st side))))] H := hP
      have hD : va_D A [(w, .inr (2, [.int (iI 300), .int (iI 10), .ref t0, .ref t1, .ref a0, .ref a1, .ref a2, .int (iI o), .int (iI st), .int (iI pe), .int (iI dr), .int (iI sta), .int (iI hd), .int (iI on), .int (iI lf), .int (iI rt)])), (t0, .inl (k.2.1, 10, .inr (.inl tp))), (t1, .inl (k.2.1, 3010, .inr (.inl tps))), (a0, .inl (k.1, 301, .inl (iF (up hs st hd)))), (a1, .inl (k.1, 301, .inl (iF (up ss st sta)))), (a2, .inl (k.1, 301, .inl (iF (up sd st side))))] := hD
      refine lv_aload_n hx hb dX2_note_55 rfl (lv_at hl 0 rfl) ?_
      refine va_get (D := g) (ci := 2) (v := .ref t0) (C := RX2) (T := TX2) (N := 16) hx hb hts inX2 hown hK.1 hP 0 rfl rfl 2 (by decide) f27 (fun _ h9 => h9) rfl dX2_note_56 ?_
      refine lv_iconst (v := iI 0) hx hb dX2_note_59 rfl ?_
      refine lv_aload_n hx hb dX2_note_60 rfl (lv_at hl 0 rfl) ?_
      refine va_get (D := g) (ci := 2) (v := .ref t1) (C := RX2) (T := TX2) (N := 16) hx hb hts inX2 hown hK.1 hP 0 rfl rfl 3 (by decide) f31 (fun _ h9 => h9) rfl dX2_note_61 ?_
      refine lv_aload_n hx hb dX2_note_64 rfl (lv_at hl 0 rfl) ?_
      refine va_get (D := g) (ci := 2) (v := .int (iI st)) (C := RX2) (T := TX2) (N := 16) hx hb hts inX2 hown hK.1 hP 0 rfl rfl 8 (by decide) f47 (fun _ h9 => h9) rfl dX2_note_65 ?_
      refine lv_aload_n hx hb dX2_note_68 rfl (lv_at hl 0 rfl) ?_
      refine va_get (D := g) (ci := 2) (v := .int (iI 10)) (C := RX2) (T := TX2) (N := 16) hx hb hts inX2 hown hK.1 hP 0 rfl rfl 1 (by decide) f24 (fun _ h9 => h9) rfl dX2_note_69 ?_
      refine ri_imul (a := st) (b := 10) hx hb dX2_note_72 ?_
      refine lv_aload_n hx hb dX2_note_73 rfl (lv_at hl 0 rfl) ?_
      refine va_get (D := g) (ci := 2) (v := .int (iI 10)) (C := RX2) (T := TX2) (N := 16) hx hb hts inX2 hown hK.1 hP 0 rfl rfl 1 (by decide) f24 (fun _ h9 => h9) rfl dX2_note_74 ?_
      refine ri_copyJ (F := tp) (G := tps) (sp := 0) (dp := (st * 10)) (n := 10) hx hb (by rw [hml]; exact hl.1.symm) hown (hts (.methodLink RX2 106 arraycopyName) (by decide +kernel)) (hts (.native arraycopyName) (by decide +kernel)) (hts (.static arraycopyName) (by decide +kernel)) (hts (.initialized "java/lang/System") (by decide +kernel)) hK hP hD hS 1 2 rfl rfl (by omega) (Nat.le_of_ble_eq_true rfl) (Nat.le_of_ble_eq_true rfl) dX2_note_77 (fun H locs hP hD hS => ?_)
      have hP : va_P g vwCl [(w, .inr (2, [.int (iI 300), .int (iI 10), .ref t0, .ref t1, .ref a0, .ref a1, .ref a2, .int (iI o), .int (iI st), .int (iI pe), .int (iI dr), .int (iI sta), .int (iI hd), .int (iI on), .int (iI lf), .int (iI rt)])), (t0, .inl (k.2.1, 10, .inr (.inl tp))), (t1, .inl (k.2.1, 3010, .inr (.inl (va_cpy tp tps (0 : Int).toNat ((st * 10) : Int).toNat (10 : Int).toNat)))), (a0, .inl (k.1, 301, .inl (iF (up hs st hd)))), (a1, .inl (k.1, 301, .inl (iF (up ss st sta)))), (a2, .inl (k.1, 301, .inl (iF (up sd st side))))] H := hP
      have hD : va_D A [(w, .inr (2, [.int (iI 300), .int (iI 10), .ref t0, .ref t1, .ref a0, .ref a1, .ref a2, .int (iI o), .int (iI st), .int (iI pe), .int (iI dr), .int (iI sta), .int (iI hd), .int (iI on), .int (iI lf), .int (iI rt)])), (t0, .inl (k.2.1, 10, .inr (.inl tp))), (t1, .inl (k.2.1, 3010, .inr (.inl (va_cpy tp tps (0 : Int).toNat ((st * 10) : Int).toNat (10 : Int).toNat)))), (a0, .inl (k.1, 301, .inl (iF (up hs st hd)))), (a1, .inl (k.1, 301, .inl (iF (up ss st sta)))), (a2, .inl (k.1, 301, .inl (iF (up sd st side))))] := hD
      exact hret () _ _ _ _ dX2_note_80 trivial hP hD hS
    · exact absurd (by omega) c15

/-- a Walk of reach 120 -/
abbrev wO120 (w t0 t1 a0 a1 a2 : Nat) (o st pe dr sta hd on lf rt : Int) : Nat × va_E := (w, .inr (2, [.int (iI 120), .int (iI 4), .ref t0, .ref t1, .ref a0, .ref a1, .ref a2, .int (iI o), .int (iI st), .int (iI pe), .int (iI dr), .int (iI sta), .int (iI hd), .int (iI on), .int (iI lf), .int (iI rt)]))
abbrev wW120 (k : kT) (w t0 t1 a0 a1 a2 : Nat) (o st pe dr sta hd on lf rt : Int) (tp tps : Nat → Int64) (hs ss sd : Int → Int) : va_W := [(w, .inr (2, [.int (iI 120), .int (iI 4), .ref t0, .ref t1, .ref a0, .ref a1, .ref a2, .int (iI o), .int (iI st), .int (iI pe), .int (iI dr), .int (iI sta), .int (iI hd), .int (iI on), .int (iI lf), .int (iI rt)])), (t0, .inl (k.2.1, 4, .inr (.inl tp))), (t1, .inl (k.2.1, 484, .inr (.inl tps))), (a0, .inl (k.1, 121, .inl (iF hs))), (a1, .inl (k.1, 121, .inl (iF ss))), (a2, .inl (k.1, 121, .inl (iF sd)))]
set_option maxHeartbeats 4000000 in
set_option maxRecDepth 100000 in
theorem c_symbolIn120 (l : Launch) (g : va_G) (k : kT) (w t0 t1 a0 a1 a2 : Nat) (o st pe dr sta hd on lf rt : Int) (ra N : Nat) (f : Nat → Int64) (fr ce : Int) (t : Int → Int) (h01 : ∀ j, t j = 0 ∨ t j = 1) (ht0 : ∀ j, (j < -120 ∨ 120 < j) → t j = 0) (hfr : 0 ≤ fr ∧ fr + 4 ≤ N ∧ N < 100000) (hf : ∀ w : Nat, w < 4 → f (fr.toNat + w) = bW 120 t w) (hce : -2147483648 ≤ ce ∧ ce < 2147483648) : cP l yX2_symbolIn wsX2_symbolIn rm_0 g k [wO120 w t0 t1 a0 a1 a2 o st pe dr sta hd on lf rt, (ra, .inl (k.2.1, N, .inr (.inl f)))] [.ref w, .ref ra, .int (iI fr), .int (iI ce)] (fun r => r = iI (t ce)) := by
  refine st_P (by decide) rfl (Nat.le_of_ble_eq_true rfl) ?_
  intro p e s m below meth c Q hx hb hml hown hts hP hK hret ls hl
  have hown : s.vm.findClass RX2 = some m.cls := hown
  have f18 := hts (.fieldLink RX2 18 "MachineTree$Walk" "reach" "I") (by decide +kernel)
  have inX2 := (by decide +kernel : ∀ w ∈ wsX20, w ∈ wsX2_symbolIn)
  have hl : lv_has ls 6 [(0, .ref w), (1, .ref ra), (2, .int (iI fr)), (3, .int (iI ce))] := hl
  refine lv_iload_n hx hb dX2_symbolIn_0 rfl (lv_at hl 3 rfl) ?_
  refine lv_aload_n hx hb dX2_symbolIn_1 rfl (lv_at hl 0 rfl) ?_
  refine va_get (D := g) (ci := 2) (v := .int (iI 120)) (C := RX2) (T := TX2) (N := 16) hx hb hts inX2 hown hK.1 hP 0 rfl rfl 0 (by decide) f18 (fun _ h9 => h9) rfl dX2_symbolIn_2 ?_
  refine lv_ineg hx hb dX2_symbolIn_5 ?_
  refine ri_top (iI_neg 120) ?_
  refine ri_icmp_lt (a := ce) (b := (-120)) (tgt := 17) hx hb (by omega) (by omega) dX2_symbolIn_6 (by decide) (fun c6 => ?_) (fun c6 => ?_)
  · skip
    refine lv_iconst (v := iI 0) hx hb dX2_symbolIn_17 rfl ?_
    exact hret (iI 0) _ _ dX2_symbolIn_18 (by rw [ht0 ce (by omega)])
  · skip
    refine lv_iload_n hx hb dX2_symbolIn_9 rfl (lv_at hl 3 rfl) ?_
    refine lv_aload_n hx hb dX2_symbolIn_10 rfl (lv_at hl 0 rfl) ?_
    refine va_get (D := g) (ci := 2) (v := .int (iI 120)) (C := RX2) (T := TX2) (N := 16) hx hb hts inX2 hown hK.1 hP 0 rfl rfl 0 (by decide) f18 (fun _ h9 => h9) rfl dX2_symbolIn_11 ?_
    refine ri_icmp_le (a := ce) (b := 120) (tgt := 19) hx hb (by omega) (by omega) dX2_symbolIn_14 (by decide) (fun c14 => ?_) (fun c14 => ?_)
    · skip
      refine lv_iload_n hx hb dX2_symbolIn_19 rfl (lv_at hl 3 rfl) ?_
      refine lv_aload_n hx hb dX2_symbolIn_20 rfl (lv_at hl 0 rfl) ?_
      refine va_get (D := g) (ci := 2) (v := .int (iI 120)) (C := RX2) (T := TX2) (N := 16) hx hb hts inX2 hown hK.1 hP 0 rfl rfl 0 (by decide) f18 (fun _ h9 => h9) rfl dX2_symbolIn_21 ?_
      refine ri_iadd (a := ce) (b := 120) hx hb dX2_symbolIn_24 ?_
      refine lv_istore (lv' := [(4, .int (iI (ce + 120))), (0, .ref w), (1, .ref ra), (2, .int (iI fr)), (3, .int (iI ce))]) hx hb dX2_symbolIn_25 hl (by decide) rfl (fun ls hl => ?_)
      refine lv_iload_n hx hb dX2_symbolIn_27 rfl (lv_at hl 3 rfl) ?_
      refine lv_iload hx hb dX2_symbolIn_28 (lv_at hl 0 rfl) ?_
      refine lv_bipush (v := iI 6) hx hb dX2_symbolIn_30 (by decide) ?_
      refine ri_shr (a := (ce + 120)) (b := 6) hx hb (by omega) 6 (by decide) dX2_symbolIn_32 ?_
      refine ri_ex (b := ((ce + 120) / 64)) (by first | rfl | simp | omega) ?_
      refine ri_iadd (a := fr) (b := ((ce + 120) / 64)) hx hb dX2_symbolIn_33 ?_
      refine lv_istore (lv' := [(5, .int (iI (fr + ((ce + 120) / 64)))), (4, .int (iI (ce + 120))), (0, .ref w), (1, .ref ra), (2, .int (iI fr)), (3, .int (iI ce))]) hx hb dX2_symbolIn_34 hl (by decide) rfl (fun ls hl => ?_)
      refine lv_iload hx hb dX2_symbolIn_36 (lv_at hl 0 rfl) ?_
      refine ri_if_lt (a := (fr + ((ce + 120) / 64))) (tgt := 64) hx hb (by omega) dX2_symbolIn_38 (by decide) (fun c38 => ?_) (fun c38 => ?_)
      · exact absurd c38 (by omega)
      · skip
        refine lv_iload hx hb dX2_symbolIn_41 (lv_at hl 0 rfl) ?_
        refine lv_aload_n hx hb dX2_symbolIn_43 rfl (lv_at hl 3 rfl) ?_
        refine ri_alen hx hb hK.1 hP 1 1 rfl rfl dX2_symbolIn_44 ?_
        refine ri_ex (b := ((N : Nat) : Int)) rfl ?_
        refine ri_icmp_ge (a := (fr + ((ce + 120) / 64))) (b := ((N : Nat) : Int)) (tgt := 64) hx hb (by omega) (by omega) dX2_symbolIn_45 (by decide) (fun c45 => ?_) (fun c45 => ?_)
        · exact absurd c45 (by omega)
        · skip
          refine lv_aload_n hx hb dX2_symbolIn_48 rfl (lv_at hl 3 rfl) ?_
          refine lv_iload hx hb dX2_symbolIn_49 (lv_at hl 0 rfl) ?_
          refine ri_lald (f := f) (i := (fr + ((ce + 120) / 64))) hx hb hK.1 hP 1 1 rfl rfl (by omega) (by omega) dX2_symbolIn_51 ?_
          refine lv_iload hx hb dX2_symbolIn_52 (lv_at hl 1 rfl) ?_
          refine lv_bipush (v := iI 63) hx hb dX2_symbolIn_54 (by decide) ?_
          refine ri_and1 (a := (ce + 120)) (b := 63) hx hb (by omega) 6 (by decide) dX2_symbolIn_56 ?_
          refine ri_ex (b := ((ce + 120) % 64)) (by first | rfl | simp | omega) ?_
          refine lv_lushr hx hb dX2_symbolIn_57 rfl ?_
          refine lv_l2i hx hb dX2_symbolIn_58 rfl ?_
          refine lv_iconst (v := iI 1) hx hb dX2_symbolIn_59 rfl ?_
          refine lv_iand hx hb dX2_symbolIn_60 ?_
          refine ri_top (y := iI (t ce)) (by rw [show (fr + (ce + 120) / 64).toNat = fr.toNat + ((ce + 120) / 64).toNat by omega, hf _ (by omega)]; exact (bW_rd 120 t _ _ (by omega) (h01 _)).trans (by congr 2; omega)) ?_
          refine lv_goto (tgt := 65) hx hb dX2_symbolIn_61 (by decide) ?_
          exact hret (iI (t ce)) _ _ dX2_symbolIn_65 rfl
    · skip
      refine lv_iconst (v := iI 0) hx hb dX2_symbolIn_17 rfl ?_
      exact hret (iI 0) _ _ dX2_symbolIn_18 (by rw [ht0 ce (by omega)])

set_option maxHeartbeats 4000000 in
set_option maxRecDepth 100000 in
theorem c_symbolNow120 (l : Launch) (g : va_G) (k : kT) (w t0 t1 a0 a1 a2 : Nat) (o st pe dr sta hd on lf rt : Int) (ce : Int) (t : Int → Int) (h01 : ∀ j, t j = 0 ∨ t j = 1) (ht0 : ∀ j, (j < -120 ∨ 120 < j) → t j = 0) (hce : -2147483648 ≤ ce ∧ ce < 2147483648) : cP l yX2_symbolNow wsX2_symbolNow rm_1 g k [wO120 w t0 t1 a0 a1 a2 o st pe dr sta hd on lf rt, (t0, .inl (k.2.1, 4, .inr (.inl (bW 120 t))))] [.ref w, .int (iI ce)] (fun r => r = iI (t ce)) := by
  refine st_P (by decide) rfl (Nat.le_of_ble_eq_true rfl) ?_
  intro p e s m below meth c Q hx hb hml hown hts hP hK hret ls hl
  have hown : s.vm.findClass RX2 = some m.cls := hown
  have f27 := hts (.fieldLink RX2 27 "MachineTree$Walk" "tape" "[J") (by decide +kernel)
  have inX2 := (by decide +kernel : ∀ w ∈ wsX20, w ∈ wsX2_symbolNow)
  have hl : lv_has ls 2 [(0, .ref w), (1, .int (iI ce))] := hl
  refine lv_aload_n hx hb dX2_symbolNow_0 rfl (lv_at hl 0 rfl) ?_
  refine lv_aload_n hx hb dX2_symbolNow_1 rfl (lv_at hl 0 rfl) ?_
  refine va_get (D := g) (ci := 2) (v := .ref t0) (C := RX2) (T := TX2) (N := 16) hx hb hts inX2 hown hK.1 hP 0 rfl rfl 2 (by decide) f27 (fun _ h9 => h9) rfl dX2_symbolNow_2 ?_
  refine lv_iconst (v := iI 0) hx hb dX2_symbolNow_5 rfl ?_
  refine lv_iload_n hx hb dX2_symbolNow_6 rfl (lv_at hl 1 rfl) ?_
  refine rc_P (own := RX2) (q := (RX2, TX2, 16)) (wc := [(w, .inr (2, [.int (iI 120), .int (iI 4), .ref t0, .ref t1, .ref a0, .ref a1, .ref a2, .int (iI o), .int (iI st), .int (iI pe), .int (iI dr), .int (iI sta), .int (iI hd), .int (iI on), .int (iI lf), .int (iI rt)])), (t0, .inl (k.2.1, 4, .inr (.inl (bW 120 t))))]) (As := [.ref t0, .int (iI 0), .int (iI ce)]) (rest := []) ⟨hx, hb, hml, hown, hts⟩ (c_symbolIn120 l g k w t0 t1 a0 a1 a2 o st pe dr sta hd on lf rt t0 4 (bW 120 t) 0 ce t h01 ht0 (by omega) (fun w _ => by rw [show (0 : Int).toNat + w = w by omega]) hce) (cwV 3 hts gX2_symbolNow_X2_symbolIn rfl rfl rfl (by decide +kernel) ⟨Nat.le_of_ble_eq_true rfl, Nat.le_of_ble_eq_true rfl⟩) hK hP [0, 1] rfl (ci := 2) (q0 := 0) rfl rfl rfl rfl hl.1 (Nat.le_of_ble_eq_true rfl) ⟨Nat.le_of_ble_eq_true rfl, Nat.le_of_ble_eq_true rfl⟩ dX2_symbolNow_7 (fun r7 hr7 => ?_)
  refine ri_top (y := iI (t ce)) hr7 ?_
  exact hret (iI (t ce)) _ _ dX2_symbolNow_10 rfl

set_option maxHeartbeats 4000000 in
set_option maxRecDepth 100000 in
theorem c_write120 (l : Launch) (g : va_G) (k : kT) (w t0 t1 a0 a1 a2 : Nat) (o st pe dr sta hd on lf rt : Int) (sz : Nat) (sy : Int) (t : Int → Int) (h01 : ∀ j, t j = 0 ∨ t j = 1) (ht0 : ∀ j, (j < -120 ∨ 120 < j) → t j = 0) (hhd : -120 ≤ hd ∧ hd ≤ 120) (hsy : sy = 0 ∨ sy = 1) : cV l yX2_write wsX2_write rm_2 g k [wO120 w t0 t1 a0 a1 a2 o st pe dr sta hd on lf rt, (t0, .inl (k.2.1, 4, .inr (.inl (bW 120 t))))] sz [.ref w, .int (iI sy)] 0 0 (fun u : Int × (Nat → Int64) => [wO120 w t0 t1 a0 a1 a2 o st pe dr sta hd u.1 lf rt, (t0, .inl (k.2.1, 4, .inr (.inl u.2)))]) (fun u => u.1 = on + (sy - t hd) ∧ u.2 = bW 120 (up t hd sy)) := by
  refine st_V (by decide) rfl (Nat.le_of_ble_eq_true rfl) ?_
  intro p e s m below meth c Q A hx hb hml hown hts hin hA hP hD hS hK hret ls hl
  have hown : s.vm.findClass RX2 = some m.cls := hown
  have f56 := hts (.fieldLink RX2 56 "MachineTree$Walk" "head" "I") (by decide +kernel)
  have inX2 := (by decide +kernel : ∀ w ∈ wsX20, w ∈ wsX2_write)
  have f18 := hts (.fieldLink RX2 18 "MachineTree$Walk" "reach" "I") (by decide +kernel)
  have f27 := hts (.fieldLink RX2 27 "MachineTree$Walk" "tape" "[J") (by decide +kernel)
  have f91 := hts (.fieldLink RX2 91 "MachineTree$Walk" "ones" "I") (by decide +kernel)
  have hl : lv_has ls 5 [(0, .ref w), (1, .int (iI sy))] := hl
  obtain ⟨H, hH⟩ : ∃ H, H = s.heap := ⟨_, rfl⟩
  obtain ⟨locs, hlo⟩ : ∃ L : List Loc, L = [] := ⟨_, rfl⟩
  rw [← hH] at hP
  have hS : va_S A s.heap H locs := by rw [hH, hlo]; exact hS
  rw [show W p l e rm_2 s m ([.ref w, .int (iI sy)] : List Value).toArray below meth c s.heap [] 0 0 Q (F0 m 0 ls []) = W p l e rm_2 s m ([.ref w, .int (iI sy)] : List Value).toArray below meth c H locs 0 0 Q (F0 m 0 ls []) by rw [hH, hlo]]
  clear hH hlo
  refine lv_aload_n hx hb dX2_write_0 rfl (lv_at hl 0 rfl) ?_
  refine va_get (D := g) (ci := 2) (v := .int (iI hd)) (C := RX2) (T := TX2) (N := 16) hx hb hts inX2 hown hK.1 hP 0 rfl rfl 12 (by decide) f56 (fun _ h9 => h9) rfl dX2_write_1 ?_
  refine lv_aload_n hx hb dX2_write_4 rfl (lv_at hl 0 rfl) ?_
  refine va_get (D := g) (ci := 2) (v := .int (iI 120)) (C := RX2) (T := TX2) (N := 16) hx hb hts inX2 hown hK.1 hP 0 rfl rfl 0 (by decide) f18 (fun _ h9 => h9) rfl dX2_write_5 ?_
  refine ri_iadd (a := hd) (b := 120) hx hb dX2_write_8 ?_
  refine lv_istore_n (lv' := [(2, .int (iI (hd + 120))), (0, .ref w), (1, .int (iI sy))]) hx hb dX2_write_9 rfl hl (by decide) rfl (fun ls hl => ?_)
  refine lv_iload_n hx hb dX2_write_10 rfl (lv_at hl 0 rfl) ?_
  refine lv_bipush (v := iI 6) hx hb dX2_write_11 (by decide) ?_
  refine ri_shr (a := (hd + 120)) (b := 6) hx hb (by omega) 6 (by decide) dX2_write_13 ?_
  refine ri_ex (b := ((hd + 120) / 64)) (by first | rfl | simp | omega) ?_
  refine lv_istore_n (lv' := [(3, .int (iI ((hd + 120) / 64))), (2, .int (iI (hd + 120))), (0, .ref w), (1, .int (iI sy))]) hx hb dX2_write_14 rfl hl (by decide) rfl (fun ls hl => ?_)
  refine lv_aload_n hx hb dX2_write_15 rfl (lv_at hl 2 rfl) ?_
  refine lv_aload_n hx hb dX2_write_16 rfl (lv_at hl 2 rfl) ?_
  refine va_get (D := g) (ci := 2) (v := .int (iI hd)) (C := RX2) (T := TX2) (N := 16) hx hb hts inX2 hown hK.1 hP 0 rfl rfl 12 (by decide) f56 (fun _ h9 => h9) rfl dX2_write_17 ?_
  refine rc_P (own := RX2) (q := (RX2, TX2, 16)) (wc := [(w, .inr (2, [.int (iI 120), .int (iI 4), .ref t0, .ref t1, .ref a0, .ref a1, .ref a2, .int (iI o), .int (iI st), .int (iI pe), .int (iI dr), .int (iI sta), .int (iI hd), .int (iI on), .int (iI lf), .int (iI rt)])), (t0, .inl (k.2.1, 4, .inr (.inl (bW 120 t))))]) (As := [.int (iI hd)]) (rest := []) ⟨hx, hb, hml, hown, hts⟩ (c_symbolNow120 l g k w t0 t1 a0 a1 a2 o st pe dr sta hd on lf rt hd t h01 ht0 (by omega)) (cwV 1 hts gX2_write_X2_symbolNow rfl rfl rfl (by decide +kernel) ⟨Nat.le_of_ble_eq_true rfl, Nat.le_of_ble_eq_true rfl⟩) hK hP [0, 1] rfl (ci := 2) (q0 := 0) rfl rfl rfl rfl hl.1 (Nat.le_of_ble_eq_true rfl) ⟨Nat.le_of_ble_eq_true rfl, Nat.le_of_ble_eq_true rfl⟩ dX2_write_20 (fun r20 hr20 => ?_)
  refine ri_top (y := iI (t hd)) hr20 ?_
  have hth := h01 hd
  refine lv_istore (lv' := [(4, .int (iI (t hd))), (3, .int (iI ((hd + 120) / 64))), (2, .int (iI (hd + 120))), (0, .ref w), (1, .int (iI sy))]) hx hb dX2_write_23 hl (by decide) rfl (fun ls hl => ?_)
  refine lv_iload hx hb dX2_write_25 (lv_at hl 0 rfl) ?_
  refine lv_iload_n hx hb dX2_write_27 rfl (lv_at hl 4 rfl) ?_
  refine ri_icmp_eq (a := (t hd)) (b := sy) (tgt := 72) hx hb (by omega) (by omega) dX2_write_28 (by decide) (fun c28 => ?_) (fun c28 => ?_)
  · skip
    exact hret (on, bW 120 t) _ _ _ _ dX2_write_72 ⟨by show on = on + (sy - t hd); omega, by show bW 120 t = bW 120 (up t hd sy); rw [show sy = t hd by omega, up_self]⟩ hP hD hS
  · skip
    refine lv_iload_n hx hb dX2_write_31 rfl (lv_at hl 1 rfl) ?_
    refine ri_if_lt (a := ((hd + 120) / 64)) (tgt := 72) hx hb (by omega) dX2_write_32 (by decide) (fun c32 => ?_) (fun c32 => ?_)
    · exact absurd c32 (by omega)
    · skip
      refine lv_iload_n hx hb dX2_write_35 rfl (lv_at hl 1 rfl) ?_
      refine lv_aload_n hx hb dX2_write_36 rfl (lv_at hl 3 rfl) ?_
      refine va_get (D := g) (ci := 2) (v := .ref t0) (C := RX2) (T := TX2) (N := 16) hx hb hts inX2 hown hK.1 hP 0 rfl rfl 2 (by decide) f27 (fun _ h9 => h9) rfl dX2_write_37 ?_
      refine ri_alen hx hb hK.1 hP 1 1 rfl rfl dX2_write_40 ?_
      refine ri_ex (b := 4) rfl ?_
      refine ri_icmp_ge (a := ((hd + 120) / 64)) (b := 4) (tgt := 72) hx hb (by omega) (by omega) dX2_write_41 (by decide) (fun c41 => ?_) (fun c41 => ?_)
      · exact absurd c41 (by omega)
      · skip
        refine lv_aload_n hx hb dX2_write_44 rfl (lv_at hl 3 rfl) ?_
        refine va_get (D := g) (ci := 2) (v := .ref t0) (C := RX2) (T := TX2) (N := 16) hx hb hts inX2 hown hK.1 hP 0 rfl rfl 2 (by decide) f27 (fun _ h9 => h9) rfl dX2_write_45 ?_
        refine lv_iload_n hx hb dX2_write_48 rfl (lv_at hl 1 rfl) ?_
        refine lv_dup2_11 hx hb dX2_write_49 rfl rfl ?_
        refine ri_lald (f := (bW 120 t)) (i := ((hd + 120) / 64)) hx hb hK.1 hP 1 1 rfl rfl (by omega) (by omega) dX2_write_50 ?_
        refine lv_lconst (v := 1) hx hb dX2_write_51 rfl ?_
        refine lv_iload_n hx hb dX2_write_52 rfl (lv_at hl 2 rfl) ?_
        refine lv_bipush (v := iI 63) hx hb dX2_write_53 (by decide) ?_
        refine ri_and1 (a := (hd + 120)) (b := 63) hx hb (by omega) 6 (by decide) dX2_write_55 ?_
        refine ri_ex (b := ((hd + 120) % 64)) (by first | rfl | simp | omega) ?_
        refine lv_lshl hx hb dX2_write_56 rfl ?_
        refine lv_lxor hx hb dX2_write_57 ?_
        refine ri_last (f := (bW 120 t)) (i := ((hd + 120) / 64)) (x := (((bW 120 t) (((hd + 120) / 64) : Int).toNat) ^^^ ((1 : Int64) <<< ((iI ((hd + 120) % 64)).toInt64 &&& 63)))) hx hb hK.1 hP hD hS 1 1 rfl rfl (by omega) (by omega) dX2_write_58 (fun H locs hP hD hS => ?_)
        have hP : va_P g vwCl [(w, .inr (2, [.int (iI 120), .int (iI 4), .ref t0, .ref t1, .ref a0, .ref a1, .ref a2, .int (iI o), .int (iI st), .int (iI pe), .int (iI dr), .int (iI sta), .int (iI hd), .int (iI on), .int (iI lf), .int (iI rt)])), (t0, .inl (k.2.1, 4, .inr (.inl (vp_updL (bW 120 t) (((hd + 120) / 64) : Int).toNat (((bW 120 t) (((hd + 120) / 64) : Int).toNat) ^^^ ((1 : Int64) <<< ((iI ((hd + 120) % 64)).toInt64 &&& 63)))))))] H := hP
        have hD : va_D A [(w, .inr (2, [.int (iI 120), .int (iI 4), .ref t0, .ref t1, .ref a0, .ref a1, .ref a2, .int (iI o), .int (iI st), .int (iI pe), .int (iI dr), .int (iI sta), .int (iI hd), .int (iI on), .int (iI lf), .int (iI rt)])), (t0, .inl (k.2.1, 4, .inr (.inl (vp_updL (bW 120 t) (((hd + 120) / 64) : Int).toNat (((bW 120 t) (((hd + 120) / 64) : Int).toNat) ^^^ ((1 : Int64) <<< ((iI ((hd + 120) % 64)).toInt64 &&& 63)))))))] := hD
        refine lv_aload_n hx hb dX2_write_59 rfl (lv_at hl 3 rfl) ?_
        refine lv_dup hx hb dX2_write_60 rfl ?_
        refine va_get (D := g) (ci := 2) (v := .int (iI on)) (C := RX2) (T := TX2) (N := 16) hx hb hts inX2 hown hK.1 hP 0 rfl rfl 13 (by decide) f91 (fun _ h9 => h9) rfl dX2_write_61 ?_
        refine lv_iload_n hx hb dX2_write_64 rfl (lv_at hl 4 rfl) ?_
        refine lv_iload hx hb dX2_write_65 (lv_at hl 0 rfl) ?_
        refine ri_isub (a := sy) (b := (t hd)) hx hb dX2_write_67 ?_
        refine ri_iadd (a := on) (b := (sy - (t hd))) hx hb dX2_write_68 ?_
        refine va_put (D := g) (ci := 2) (v := .int (iI (on + (sy - (t hd))))) (ty := .int) (C := RX2) (T := TX2) (N := 16) hx hb hts inX2 tyX2 tyX2_ok nmX2 hown hK.1 hP hD hS 0 rfl rfl 13 (by decide) f91 (fun _ h9 => h9) rfl (by decide +kernel) rfl rfl (Nat.le_of_ble_eq_true rfl) dX2_write_69 (fun H locs hP hD hS => ?_)
        have hP : va_P g vwCl [(w, .inr (2, [.int (iI 120), .int (iI 4), .ref t0, .ref t1, .ref a0, .ref a1, .ref a2, .int (iI o), .int (iI st), .int (iI pe), .int (iI dr), .int (iI sta), .int (iI hd), .int (iI (on + (sy - (t hd)))), .int (iI lf), .int (iI rt)])), (t0, .inl (k.2.1, 4, .inr (.inl (vp_updL (bW 120 t) (((hd + 120) / 64) : Int).toNat (((bW 120 t) (((hd + 120) / 64) : Int).toNat) ^^^ ((1 : Int64) <<< ((iI ((hd + 120) % 64)).toInt64 &&& 63)))))))] H := hP
        have hD : va_D A [(w, .inr (2, [.int (iI 120), .int (iI 4), .ref t0, .ref t1, .ref a0, .ref a1, .ref a2, .int (iI o), .int (iI st), .int (iI pe), .int (iI dr), .int (iI sta), .int (iI hd), .int (iI (on + (sy - (t hd)))), .int (iI lf), .int (iI rt)])), (t0, .inl (k.2.1, 4, .inr (.inl (vp_updL (bW 120 t) (((hd + 120) / 64) : Int).toNat (((bW 120 t) (((hd + 120) / 64) : Int).toNat) ^^^ ((1 : Int64) <<< ((iI ((hd + 120) % 64)).toInt64 &&& 63)))))))] := hD
        exact hret (on + (sy - t hd), (vp_updL (bW 120 t) ((hd + 120) / 64).toNat ((bW 120 t) ((hd + 120) / 64).toNat ^^^ ((1 : Int64) <<< ((iI ((hd + 120) % 64)).toInt64 &&& 63))))) _ _ _ _ dX2_write_72 ⟨rfl, by show (vp_updL (bW 120 t) ((hd + 120) / 64).toNat ((bW 120 t) ((hd + 120) / 64).toNat ^^^ ((1 : Int64) <<< ((iI ((hd + 120) % 64)).toInt64 &&& 63)))) = _; rw [bW_wr 120 t _ _ (by omega) sy (by rw [show 64 * (((hd + 120) / 64).toNat : Int) + (hd + 120) % 64 - 120 = hd by omega]; omega), show 64 * (((hd + 120) / 64).toNat : Int) + (hd + 120) % 64 - 120 = hd by omega]⟩ hP hD hS

set_option maxHeartbeats 4000000 in
set_option maxRecDepth 100000 in
theorem c_note120 (l : Launch) (g : va_G) (k : kT) (w t0 t1 a0 a1 a2 : Nat) (o st pe dr sta hd on lf rt : Int) (tp tps : Nat → Int64) (hs ss sd : Int → Int) (sz : Nat) (side : Int) (hst : 0 ≤ st ∧ st ≤ 120) : cV l yX2_note wsX2_note rm_1 g k (wW120 k w t0 t1 a0 a1 a2 o st pe dr sta hd on lf rt tp tps hs ss sd) sz [.ref w, .int (iI side)] 0 0 (fun _ : Unit => wW120 k w t0 t1 a0 a1 a2 o st pe dr sta hd on lf rt tp (va_cpy tp tps 0 (st * 4).toNat 4) (up hs st hd) (up ss st sta) (up sd st side)) (fun _ => True) := by
  refine st_V (by decide) rfl (Nat.le_of_ble_eq_true rfl) ?_
  intro p e s m below meth c Q A hx hb hml hown hts hin hA hP hD hS hK hret ls hl
  have hown : s.vm.findClass RX2 = some m.cls := hown
  have f47 := hts (.fieldLink RX2 47 "MachineTree$Walk" "steps" "I") (by decide +kernel)
  have inX2 := (by decide +kernel : ∀ w ∈ wsX20, w ∈ wsX2_note)
  have f18 := hts (.fieldLink RX2 18 "MachineTree$Walk" "reach" "I") (by decide +kernel)
  have f34 := hts (.fieldLink RX2 34 "MachineTree$Walk" "heads" "[I") (by decide +kernel)
  have f56 := hts (.fieldLink RX2 56 "MachineTree$Walk" "head" "I") (by decide +kernel)
  have f38 := hts (.fieldLink RX2 38 "MachineTree$Walk" "states" "[I") (by decide +kernel)
  have f53 := hts (.fieldLink RX2 53 "MachineTree$Walk" "state" "I") (by decide +kernel)
  have f41 := hts (.fieldLink RX2 41 "MachineTree$Walk" "sides" "[I") (by decide +kernel)
  have f27 := hts (.fieldLink RX2 27 "MachineTree$Walk" "tape" "[J") (by decide +kernel)
  have f31 := hts (.fieldLink RX2 31 "MachineTree$Walk" "tapes" "[J") (by decide +kernel)
  have f24 := hts (.fieldLink RX2 24 "MachineTree$Walk" "words" "I") (by decide +kernel)
  have hl : lv_has ls 2 [(0, .ref w), (1, .int (iI side))] := hl
  obtain ⟨H, hH⟩ : ∃ H, H = s.heap := ⟨_, rfl⟩
  obtain ⟨locs, hlo⟩ : ∃ L : List Loc, L = [] := ⟨_, rfl⟩
  rw [← hH] at hP
  have hS : va_S A s.heap H locs := by rw [hH, hlo]; exact hS
  rw [show W p l e rm_1 s m ([.ref w, .int (iI side)] : List Value).toArray below meth c s.heap [] 0 0 Q (F0 m 0 ls []) = W p l e rm_1 s m ([.ref w, .int (iI side)] : List Value).toArray below meth c H locs 0 0 Q (F0 m 0 ls []) by rw [hH, hlo]]
  clear hH hlo
  refine lv_aload_n hx hb dX2_note_0 rfl (lv_at hl 0 rfl) ?_
  refine va_get (D := g) (ci := 2) (v := .int (iI st)) (C := RX2) (T := TX2) (N := 16) hx hb hts inX2 hown hK.1 hP 0 rfl rfl 8 (by decide) f47 (fun _ h9 => h9) rfl dX2_note_1 ?_
  refine ri_if_lt (a := st) (tgt := 18) hx hb (by omega) dX2_note_4 (by decide) (fun c4 => ?_) (fun c4 => ?_)
  · exact absurd c4 (by omega)
  · skip
    refine lv_aload_n hx hb dX2_note_7 rfl (lv_at hl 0 rfl) ?_
    refine va_get (D := g) (ci := 2) (v := .int (iI st)) (C := RX2) (T := TX2) (N := 16) hx hb hts inX2 hown hK.1 hP 0 rfl rfl 8 (by decide) f47 (fun _ h9 => h9) rfl dX2_note_8 ?_
    refine lv_aload_n hx hb dX2_note_11 rfl (lv_at hl 0 rfl) ?_
    refine va_get (D := g) (ci := 2) (v := .int (iI 120)) (C := RX2) (T := TX2) (N := 16) hx hb hts inX2 hown hK.1 hP 0 rfl rfl 0 (by decide) f18 (fun _ h9 => h9) rfl dX2_note_12 ?_
    refine ri_icmp_le (a := st) (b := 120) (tgt := 19) hx hb (by omega) (by omega) dX2_note_15 (by decide) (fun c15 => ?_) (fun c15 => ?_)
    · skip
      refine lv_aload_n hx hb dX2_note_19 rfl (lv_at hl 0 rfl) ?_
      refine va_get (D := g) (ci := 2) (v := .ref a0) (C := RX2) (T := TX2) (N := 16) hx hb hts inX2 hown hK.1 hP 0 rfl rfl 4 (by decide) f34 (fun _ h9 => h9) rfl dX2_note_20 ?_
      refine lv_aload_n hx hb dX2_note_23 rfl (lv_at hl 0 rfl) ?_
      refine va_get (D := g) (ci := 2) (v := .int (iI st)) (C := RX2) (T := TX2) (N := 16) hx hb hts inX2 hown hK.1 hP 0 rfl rfl 8 (by decide) f47 (fun _ h9 => h9) rfl dX2_note_24 ?_
      refine lv_aload_n hx hb dX2_note_27 rfl (lv_at hl 0 rfl) ?_
      refine va_get (D := g) (ci := 2) (v := .int (iI hd)) (C := RX2) (T := TX2) (N := 16) hx hb hts inX2 hown hK.1 hP 0 rfl rfl 12 (by decide) f56 (fun _ h9 => h9) rfl dX2_note_28 ?_
      refine ri_iast (F := hs) (i := st) (x := hd) hx hb hK.1 hP hD hS 3 0 rfl rfl (by omega) (by omega) dX2_note_31 (fun H locs hP hD hS => ?_)
      have hP : va_P g vwCl [(w, .inr (2, [.int (iI 120), .int (iI 4), .ref t0, .ref t1, .ref a0, .ref a1, .ref a2, .int (iI o), .int (iI st), .int (iI pe), .int (iI dr), .int (iI sta), .int (iI hd), .int (iI on), .int (iI lf), .int (iI rt)])), (t0, .inl (k.2.1, 4, .inr (.inl tp))), (t1, .inl (k.2.1, 484, .inr (.inl tps))), (a0, .inl (k.1, 121, .inl (iF (up hs st hd)))), (a1, .inl (k.1, 121, .inl (iF ss))), (a2, .inl (k.1, 121, .inl (iF sd)))] H := hP
      have hD : va_D A [(w, .inr (2, [.int (iI 120), .int (iI 4), .ref t0, .ref t1, .ref a0, .ref a1, .ref a2, .int (iI o), .int (iI st), .int (iI pe), .int (iI dr), .int (iI sta), .int (iI hd), .int (iI on), .int (iI lf), .int (iI rt)])), (t0, .inl (k.2.1, 4, .inr (.inl tp))), (t1, .inl (k.2.1, 484, .inr (.inl tps))), (a0, .inl (k.1, 121, .inl (iF (up hs st hd)))), (a1, .inl (k.1, 121, .inl (iF ss))), (a2, .inl (k.1, 121, .inl (iF sd)))] := hD
      refine lv_aload_n hx hb dX2_note_32 rfl (lv_at hl 0 rfl) ?_
      refine va_get (D := g) (ci := 2) (v := .ref a1) (C := RX2) (T := TX2) (N := 16) hx hb hts inX2 hown hK.1 hP 0 rfl rfl 5 (by decide) f38 (fun _ h9 => h9) rfl dX2_note_33 ?_
      refine lv_aload_n hx hb dX2_note_36 rfl (lv_at hl 0 rfl) ?_
      refine va_get (D := g) (ci := 2) (v := .int (iI st)) (C := RX2) (T := TX2) (N := 16) hx hb hts inX2 hown hK.1 hP 0 rfl rfl 8 (by decide) f47 (fun _ h9 => h9) rfl dX2_note_37 ?_
      refine lv_aload_n hx hb dX2_note_40 rfl (lv_at hl 0 rfl) ?_
      refine va_get (D := g) (ci := 2) (v := .int (iI sta)) (C := RX2) (T := TX2) (N := 16) hx hb hts inX2 hown hK.1 hP 0 rfl rfl 11 (by decide) f53 (fun _ h9 => h9) rfl dX2_note_41 ?_
      refine ri_iast (F := ss) (i := st) (x := sta) hx hb hK.1 hP hD hS 4 0 rfl rfl (by omega) (by omega) dX2_note_44 (fun H locs hP hD hS => ?_)
      have hP : va_P g vwCl [(w, .inr (2, [.int (iI 120), .int (iI 4), .ref t0, .ref t1, .ref a0, .ref a1, .ref a2, .int (iI o), .int (iI st), .int (iI pe), .int (iI dr), .int (iI sta), .int (iI hd), .int (iI on), .int (iI lf), .int (iI rt)])), (t0, .inl (k.2.1, 4, .inr (.inl tp))), (t1, .inl (k.2.1, 484, .inr (.inl tps))), (a0, .inl (k.1, 121, .inl (iF (up hs st hd)))), (a1, .inl (k.1, 121, .inl (iF (up ss st sta)))), (a2, .inl (k.1, 121, .inl (iF sd)))] H := hP
      have hD : va_D A [(w, .inr (2, [.int (iI 120), .int (iI 4), .ref t0, .ref t1, .ref a0, .ref a1, .ref a2, .int (iI o), .int (iI st), .int (iI pe), .int (iI dr), .int (iI sta), .int (iI hd), .int (iI on), .int (iI lf), .int (iI rt)])), (t0, .inl (k.2.1, 4, .inr (.inl tp))), (t1, .inl (k.2.1, 484, .inr (.inl tps))), (a0, .inl (k.1, 121, .inl (iF (up hs st hd)))), (a1, .inl (k.1, 121, .inl (iF (up ss st sta)))), (a2, .inl (k.1, 121, .inl (iF sd)))] := hD
      refine lv_aload_n hx hb dX2_note_45 rfl (lv_at hl 0 rfl) ?_
      refine va_get (D := g) (ci := 2) (v := .ref a2) (C := RX2) (T := TX2) (N := 16) hx hb hts inX2 hown hK.1 hP 0 rfl rfl 6 (by decide) f41 (fun _ h9 => h9) rfl dX2_note_46 ?_
      refine lv_aload_n hx hb dX2_note_49 rfl (lv_at hl 0 rfl) ?_
      refine va_get (D := g) (ci := 2) (v := .int (iI st)) (C := RX2) (T := TX2) (N := 16) hx hb hts inX2 hown hK.1 hP 0 rfl rfl 8 (by decide) f47 (fun _ h9 => h9) rfl dX2_note_50 ?_
      refine lv_iload_n hx hb dX2_note_53 rfl (lv_at hl 1 rfl) ?_
      refine ri_iast (F := sd) (i := st) (x := side) hx hb hK.1 hP hD hS 5 0 rfl rfl (by omega) (by omega) dX2_note_54 (fun H locs hP hD hS => ?_)
      have hP : va_P g vwCl [(w, .inr (2, [.int (iI 120), .int (iI 4), .ref t0, .ref t1, .ref a0, .ref a1, .ref a2, .int (iI o), .int (iI st), .int (iI pe), .int (iI dr), .int (iI sta), .int (iI hd), .int (iI on), .int (iI lf), .int (iI rt)])), (t0, .inl (k.2.1, 4, .inr (.inl tp))), (t1, .inl (k.2.1, 484, .inr (.inl tps))), (a0, .inl (k.1, 121, .inl (iF (up hs st hd)))), (a1, .inl (k.1, 121, .inl (iF (up ss st sta)))), (a2, .inl (k.1, 121, .inl (iF (up sd st side))))] H := hP
      have hD : va_D A [(w, .inr (2, [.int (iI 120), .int (iI 4), .ref t0, .ref t1, .ref a0, .ref a1, .ref a2, .int (iI o), .int (iI st), .int (iI pe), .int (iI dr), .int (iI sta), .int (iI hd), .int (iI on), .int (iI lf), .int (iI rt)])), (t0, .inl (k.2.1, 4, .inr (.inl tp))), (t1, .inl (k.2.1, 484, .inr (.inl tps))), (a0, .inl (k.1, 121, .inl (iF (up hs st hd)))), (a1, .inl (k.1, 121, .inl (iF (up ss st sta)))), (a2, .inl (k.1, 121, .inl (iF (up sd st side))))] := hD
      refine lv_aload_n hx hb dX2_note_55 rfl (lv_at hl 0 rfl) ?_
      refine va_get (D := g) (ci := 2) (v := .ref t0) (C := RX2) (T := TX2) (N := 16) hx hb hts inX2 hown hK.1 hP 0 rfl rfl 2 (by decide) f27 (fun _ h9 => h9) rfl dX2_note_56 ?_
      refine lv_iconst (v := iI 0) hx hb dX2_note_59 rfl ?_
      refine lv_aload_n hx hb dX2_note_60 rfl (lv_at hl 0 rfl) ?_
      refine va_get (D := g) (ci := 2) (v := .ref t1) (C := RX2) (T := TX2) (N := 16) hx hb hts inX2 hown hK.1 hP 0 rfl rfl 3 (by decide) f31 (fun _ h9 => h9) rfl dX2_note_61 ?_
      refine lv_aload_n hx hb dX2_note_64 rfl (lv_at hl 0 rfl) ?_
      refine va_get (D := g) (ci := 2) (v := .int (iI st)) (C := RX2) (T := TX2) (N := 16) hx hb hts inX2 hown hK.1 hP 0 rfl rfl 8 (by decide) f47 (fun _ h9 => h9) rfl dX2_note_65 ?_
      refine lv_aload_n hx hb dX2_note_68 rfl (lv_at hl 0 rfl) ?_
      refine va_get (D := g) (ci := 2) (v := .int (iI 4)) (C := RX2) (T := TX2) (N := 16) hx hb hts inX2 hown hK.1 hP 0 rfl rfl 1 (by decide) f24 (fun _ h9 => h9) rfl dX2_note_69 ?_
      refine ri_imul (a := st) (b := 4) hx hb dX2_note_72 ?_
      refine lv_aload_n hx hb dX2_note_73 rfl (lv_at hl 0 rfl) ?_
      refine va_get (D := g) (ci := 2) (v := .int (iI 4)) (C := RX2) (T := TX2) (N := 16) hx hb hts inX2 hown hK.1 hP 0 rfl rfl 1 (by decide) f24 (fun _ h9 => h9) rfl dX2_note_74 ?_
      refine ri_copyJ (F := tp) (G := tps) (sp := 0) (dp := (st * 4)) (n := 4) hx hb (by rw [hml]; exact hl.1.symm) hown (hts (.methodLink RX2 106 arraycopyName) (by decide +kernel)) (hts (.native arraycopyName) (by decide +kernel)) (hts (.static arraycopyName) (by decide +kernel)) (hts (.initialized "java/lang/System") (by decide +kernel)) hK hP hD hS 1 2 rfl rfl (by omega) (Nat.le_of_ble_eq_true rfl) (Nat.le_of_ble_eq_true rfl) dX2_note_77 (fun H locs hP hD hS => ?_)
      have hP : va_P g vwCl [(w, .inr (2, [.int (iI 120), .int (iI 4), .ref t0, .ref t1, .ref a0, .ref a1, .ref a2, .int (iI o), .int (iI st), .int (iI pe), .int (iI dr), .int (iI sta), .int (iI hd), .int (iI on), .int (iI lf), .int (iI rt)])), (t0, .inl (k.2.1, 4, .inr (.inl tp))), (t1, .inl (k.2.1, 484, .inr (.inl (va_cpy tp tps (0 : Int).toNat ((st * 4) : Int).toNat (4 : Int).toNat)))), (a0, .inl (k.1, 121, .inl (iF (up hs st hd)))), (a1, .inl (k.1, 121, .inl (iF (up ss st sta)))), (a2, .inl (k.1, 121, .inl (iF (up sd st side))))] H := hP
      have hD : va_D A [(w, .inr (2, [.int (iI 120), .int (iI 4), .ref t0, .ref t1, .ref a0, .ref a1, .ref a2, .int (iI o), .int (iI st), .int (iI pe), .int (iI dr), .int (iI sta), .int (iI hd), .int (iI on), .int (iI lf), .int (iI rt)])), (t0, .inl (k.2.1, 4, .inr (.inl tp))), (t1, .inl (k.2.1, 484, .inr (.inl (va_cpy tp tps (0 : Int).toNat ((st * 4) : Int).toNat (4 : Int).toNat)))), (a0, .inl (k.1, 121, .inl (iF (up hs st hd)))), (a1, .inl (k.1, 121, .inl (iF (up ss st sta)))), (a2, .inl (k.1, 121, .inl (iF (up sd st side))))] := hD
      exact hret () _ _ _ _ dX2_note_80 trivial hP hD hS
    · exact absurd (by omega) c15

