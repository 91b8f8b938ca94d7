/-! THE CLASS Machine: a number of states and eight codes -/
abbrev wMa (k : kT) (q qc : Nat) (n : Int) (F : Int → Int) : va_W := [(q, .inr (0, [.int (iI n), .ref qc])), (qc, .inl (k.1, 8, .inl (iF F)))]
abbrev rm_0 : Room := { frames := 0, cells := 0, slots := 0, locals := 0 }
abbrev rm_1 : Room := { frames := 1, cells := 0, slots := 0, locals := 32 }
set_option maxHeartbeats 4000000 in
set_option maxRecDepth 100000 in
theorem c_hasPlace (l : Launch) (g : va_G) (k : kT) (q qc : Nat) (n : Int) (F : Int → Int) (st sy : Int) (hn : 2 ≤ n ∧ n ≤ 4) (hst : -2147483648 ≤ st ∧ st < 2147483648) (hsy : -2147483648 ≤ sy ∧ sy < 2147483648) : cP l yX0_hasPlace wsX0_hasPlace rm_0 g k (wMa k q qc n F) [.ref q, .int (iI st), .int (iI sy)] (fun r => r = iI (if 0 ≤ st ∧ st < n ∧ (sy = 0 ∨ sy = 1) then 1 else 0)) := by
  refine st_Z (by decide) rfl (Nat.le_of_ble_eq_true rfl) ?_
  intro p e s m below meth c Q hx hb hml hown hts hP hK hret ls hl
  have hown : s.vm.findClass RX0 = some m.cls := hown
  have f9 := hts (.fieldLink RX0 9 "MachineTree$Machine" "states" "I") (by decide +kernel)
  have inX0 := (by decide +kernel : ∀ w ∈ wsX00, w ∈ wsX0_hasPlace)
  have hl : lv_has ls 3 [(0, .ref q), (1, .int (iI st)), (2, .int (iI sy))] := hl
  refine lv_iload_n hx hb dX0_hasPlace_0 rfl (lv_at hl 1 rfl) ?_
  refine ri_if_lt (a := st) (tgt := 25) hx hb (by omega) dX0_hasPlace_1 (by decide) (fun c1 => ?_) (fun c1 => ?_)
  · skip
    refine lv_iconst (v := iI 0) hx hb dX0_hasPlace_25 rfl ?_
    exact hret 0 _ _ dX0_hasPlace_26 (by first | exact Or.inl rfl | exact Or.inr rfl | omega) (by show iI 0 = iI _; congr 1; omega)
  · skip
    refine lv_iload_n hx hb dX0_hasPlace_4 rfl (lv_at hl 1 rfl) ?_
    refine lv_aload_n hx hb dX0_hasPlace_5 rfl (lv_at hl 0 rfl) ?_
    refine va_get (D := g) (ci := 0) (v := .int (iI n)) (C := RX0) (T := TX0) (N := 2) hx hb hts inX0 hown hK.1 hP 0 rfl rfl 0 (by decide) f9 (fun _ h9 => h9) rfl dX0_hasPlace_6 ?_
    refine ri_icmp_ge (a := st) (b := n) (tgt := 25) hx hb (by omega) (by omega) dX0_hasPlace_9 (by decide) (fun c9 => ?_) (fun c9 => ?_)
    · skip
      refine lv_iconst (v := iI 0) hx hb dX0_hasPlace_25 rfl ?_
      exact hret 0 _ _ dX0_hasPlace_26 (by first | exact Or.inl rfl | exact Or.inr rfl | omega) (by show iI 0 = iI _; congr 1; omega)
    · skip
      refine lv_iload_n hx hb dX0_hasPlace_12 rfl (lv_at hl 2 rfl) ?_
      refine ri_if_eq (a := sy) (tgt := 21) hx hb (by omega) dX0_hasPlace_13 (by decide) (fun c13 => ?_) (fun c13 => ?_)
      · skip
        refine lv_iconst (v := iI 1) hx hb dX0_hasPlace_21 rfl ?_
        refine lv_goto (tgt := 26) hx hb dX0_hasPlace_22 (by decide) ?_
        exact hret 1 _ _ dX0_hasPlace_26 (by first | exact Or.inl rfl | exact Or.inr rfl | omega) (by show iI 1 = iI _; congr 1; omega)
      · skip
        refine lv_iload_n hx hb dX0_hasPlace_16 rfl (lv_at hl 2 rfl) ?_
        refine lv_iconst (v := iI 1) hx hb dX0_hasPlace_17 rfl ?_
        refine ri_icmp_ne (a := sy) (b := 1) (tgt := 25) hx hb (by omega) (by omega) dX0_hasPlace_18 (by decide) (fun c18 => ?_) (fun c18 => ?_)
        · skip
          refine lv_iconst (v := iI 0) hx hb dX0_hasPlace_25 rfl ?_
          exact hret 0 _ _ dX0_hasPlace_26 (by first | exact Or.inl rfl | exact Or.inr rfl | omega) (by show iI 0 = iI _; congr 1; omega)
        · skip
          refine lv_iconst (v := iI 1) hx hb dX0_hasPlace_21 rfl ?_
          refine lv_goto (tgt := 26) hx hb dX0_hasPlace_22 (by decide) ?_
          exact hret 1 _ _ dX0_hasPlace_26 (by first | exact Or.inl rfl | exact Or.inr rfl | omega) (by show iI 1 = iI _; congr 1; omega)

set_option maxHeartbeats 4000000 in
set_option maxRecDepth 100000 in
theorem c_allows (l : Launch) (g : va_G) (k : kT) (q qc : Nat) (n : Int) (F : Int → Int) (co : Int) (hn : 2 ≤ n ∧ n ≤ 4) (hco : -2147483648 ≤ co ∧ co < 2147483648) : cP l yX0_allows wsX0_allows rm_0 g k (wMa k q qc n F) [.ref q, .int (iI co)] (fun r => r = iI (if -1 ≤ co ∧ co < 4 * n then 1 else 0)) := by
  refine st_Z (by decide) rfl (Nat.le_of_ble_eq_true rfl) ?_
  intro p e s m below meth c Q hx hb hml hown hts hP hK hret ls hl
  have hown : s.vm.findClass RX0 = some m.cls := hown
  have f9 := hts (.fieldLink RX0 9 "MachineTree$Machine" "states" "I") (by decide +kernel)
  have inX0 := (by decide +kernel : ∀ w ∈ wsX00, w ∈ wsX0_allows)
  have hl : lv_has ls 2 [(0, .ref q), (1, .int (iI co))] := hl
  refine lv_iload_n hx hb dX0_allows_0 rfl (lv_at hl 1 rfl) ?_
  refine lv_iconst (v := iI (-1)) hx hb dX0_allows_1 rfl ?_
  refine ri_icmp_lt (a := co) (b := (-1)) (tgt := 19) hx hb (by omega) (by omega) dX0_allows_2 (by decide) (fun c2 => ?_) (fun c2 => ?_)
  · skip
    refine lv_iconst (v := iI 0) hx hb dX0_allows_19 rfl ?_
    exact hret 0 _ _ dX0_allows_20 (by first | exact Or.inl rfl | exact Or.inr rfl | omega) (by show iI 0 = iI _; congr 1; omega)
  · skip
    refine lv_iload_n hx hb dX0_allows_5 rfl (lv_at hl 1 rfl) ?_
    refine lv_iconst (v := iI 4) hx hb dX0_allows_6 rfl ?_
    refine lv_aload_n hx hb dX0_allows_7 rfl (lv_at hl 0 rfl) ?_
    refine va_get (D := g) (ci := 0) (v := .int (iI n)) (C := RX0) (T := TX0) (N := 2) hx hb hts inX0 hown hK.1 hP 0 rfl rfl 0 (by decide) f9 (fun _ h9 => h9) rfl dX0_allows_8 ?_
    refine ri_imul (a := 4) (b := n) hx hb dX0_allows_11 ?_
    refine ri_icmp_ge (a := co) (b := (4 * n)) (tgt := 19) hx hb (by omega) (by omega) dX0_allows_12 (by decide) (fun c12 => ?_) (fun c12 => ?_)
    · skip
      refine lv_iconst (v := iI 0) hx hb dX0_allows_19 rfl ?_
      exact hret 0 _ _ dX0_allows_20 (by first | exact Or.inl rfl | exact Or.inr rfl | omega) (by show iI 0 = iI _; congr 1; omega)
    · skip
      refine lv_iconst (v := iI 1) hx hb dX0_allows_15 rfl ?_
      refine lv_goto (tgt := 20) hx hb dX0_allows_16 (by decide) ?_
      exact hret 1 _ _ dX0_allows_20 (by first | exact Or.inl rfl | exact Or.inr rfl | omega) (by show iI 1 = iI _; congr 1; omega)

set_option maxHeartbeats 4000000 in
set_option maxRecDepth 100000 in
theorem c_codeAt (l : Launch) (g : va_G) (k : kT) (q qc : Nat) (n : Int) (F : Int → Int) (st sy : Int) (hp : 0 ≤ 2 * st + sy ∧ 2 * st + sy < 8) : cP l yX0_codeAt wsX0_codeAt rm_0 g k (wMa k q qc n F) [.ref q, .int (iI st), .int (iI sy)] (fun r => r = iI (F (2 * st + sy))) := by
  refine st_P (by decide) rfl (Nat.le_of_ble_eq_true rfl) ?_
  intro p e s m below meth c Q hx hb hml hown hts hP hK hret ls hl
  have hown : s.vm.findClass RX0 = some m.cls := hown
  have f15 := hts (.fieldLink RX0 15 "MachineTree$Machine" "codes" "[I") (by decide +kernel)
  have inX0 := (by decide +kernel : ∀ w ∈ wsX00, w ∈ wsX0_codeAt)
  have hl : lv_has ls 4 [(0, .ref q), (1, .int (iI st)), (2, .int (iI sy))] := hl
  refine lv_iconst (v := iI 2) hx hb dX0_codeAt_0 rfl ?_
  refine lv_iload_n hx hb dX0_codeAt_1 rfl (lv_at hl 1 rfl) ?_
  refine ri_imul (a := 2) (b := st) hx hb dX0_codeAt_2 ?_
  refine lv_iload_n hx hb dX0_codeAt_3 rfl (lv_at hl 2 rfl) ?_
  refine ri_iadd (a := (2 * st)) (b := sy) hx hb dX0_codeAt_4 ?_
  refine lv_istore_n (lv' := [(3, .int (iI ((2 * st) + sy))), (0, .ref q), (1, .int (iI st)), (2, .int (iI sy))]) hx hb dX0_codeAt_5 rfl hl (by decide) rfl (fun ls hl => ?_)
  refine lv_iload_n hx hb dX0_codeAt_6 rfl (lv_at hl 0 rfl) ?_
  refine ri_if_lt (a := ((2 * st) + sy)) (tgt := 28) hx hb (by omega) dX0_codeAt_7 (by decide) (fun c7 => ?_) (fun c7 => ?_)
  · exact (by omega : False).elim
  · skip
    refine lv_iload_n hx hb dX0_codeAt_10 rfl (lv_at hl 0 rfl) ?_
    refine lv_aload_n hx hb dX0_codeAt_11 rfl (lv_at hl 1 rfl) ?_
    refine va_get (D := g) (ci := 0) (v := .ref qc) (C := RX0) (T := TX0) (N := 2) hx hb hts inX0 hown hK.1 hP 0 rfl rfl 1 (by decide) f15 (fun _ h9 => h9) rfl dX0_codeAt_12 ?_
    refine ri_alen hx hb hK.1 hP 1 0 rfl rfl dX0_codeAt_15 ?_
    refine ri_ex (b := 8) rfl ?_
    refine ri_icmp_ge (a := ((2 * st) + sy)) (b := 8) (tgt := 28) hx hb (by omega) (by omega) dX0_codeAt_16 (by decide) (fun c16 => ?_) (fun c16 => ?_)
    · exact (by omega : False).elim
    · skip
      refine lv_aload_n hx hb dX0_codeAt_19 rfl (lv_at hl 1 rfl) ?_
      refine va_get (D := g) (ci := 0) (v := .ref qc) (C := RX0) (T := TX0) (N := 2) hx hb hts inX0 hown hK.1 hP 0 rfl rfl 1 (by decide) f15 (fun _ h9 => h9) rfl dX0_codeAt_20 ?_
      refine lv_iload_n hx hb dX0_codeAt_23 rfl (lv_at hl 0 rfl) ?_
      refine ri_iald (F := F) (i := ((2 * st) + sy)) hx hb hK.1 hP 1 0 rfl rfl (by omega) (by omega) dX0_codeAt_24 ?_
      refine lv_goto (tgt := 29) hx hb dX0_codeAt_25 (by decide) ?_
      exact hret (iI (F ((2 * st) + sy))) _ _ dX0_codeAt_29 rfl

set_option maxHeartbeats 4000000 in
set_option maxRecDepth 100000 in
theorem c_put (l : Launch) (g : va_G) (k : kT) (q qc : Nat) (n : Int) (F : Int → Int) (sz : Nat) (st sy co : Int) (hp : 0 ≤ 2 * st + sy ∧ 2 * st + sy < 8) : cV l yX0_put wsX0_put rm_0 g k (wMa k q qc n F) sz [.ref q, .int (iI st), .int (iI sy), .int (iI co)] 0 0 (fun _ : Unit => wMa k q qc n (up F (2 * st + sy) co)) (fun _ => True) := by
  refine st_V (by decide) rfl (Nat.le_of_ble_eq_true rfl) ?_
  intro p e s m below meth c Q A hx hb hml hown hts hin hA hP hD hS hK hret ls hl
  have hown : s.vm.findClass RX0 = some m.cls := hown
  have f15 := hts (.fieldLink RX0 15 "MachineTree$Machine" "codes" "[I") (by decide +kernel)
  have inX0 := (by decide +kernel : ∀ w ∈ wsX00, w ∈ wsX0_put)
  have hl : lv_has ls 5 [(0, .ref q), (1, .int (iI st)), (2, .int (iI sy)), (3, .int (iI co))] := hl
  obtain ⟨H, hH⟩ : ∃ H, H = s.heap := ⟨_, rfl⟩
  obtain ⟨locs, hlo⟩ : ∃ L : List Loc, L = [] := ⟨_, rfl⟩
  rw [← hH] at hP
  have hS : va_S A s.heap H locs := by rw [hH, hlo]; exact hS
  rw [show W p l e rm_0 s m ([.ref q, .int (iI st), .int (iI sy), .int (iI co)] : List Value).toArray below meth c s.heap [] 0 0 Q (F0 m 0 ls []) = W p l e rm_0 s m ([.ref q, .int (iI st), .int (iI sy), .int (iI co)] : List Value).toArray below meth c H locs 0 0 Q (F0 m 0 ls []) by rw [hH, hlo]]
  clear hH hlo
  refine lv_iconst (v := iI 2) hx hb dX0_put_0 rfl ?_
  refine lv_iload_n hx hb dX0_put_1 rfl (lv_at hl 1 rfl) ?_
  refine ri_imul (a := 2) (b := st) hx hb dX0_put_2 ?_
  refine lv_iload_n hx hb dX0_put_3 rfl (lv_at hl 2 rfl) ?_
  refine ri_iadd (a := (2 * st)) (b := sy) hx hb dX0_put_4 ?_
  refine lv_istore (lv' := [(4, .int (iI ((2 * st) + sy))), (0, .ref q), (1, .int (iI st)), (2, .int (iI sy)), (3, .int (iI co))]) hx hb dX0_put_5 hl (by decide) rfl (fun ls hl => ?_)
  refine lv_iload hx hb dX0_put_7 (lv_at hl 0 rfl) ?_
  refine ri_if_lt (a := ((2 * st) + sy)) (tgt := 30) hx hb (by omega) dX0_put_9 (by decide) (fun c9 => ?_) (fun c9 => ?_)
  · exact (by omega : False).elim
  · skip
    refine lv_iload hx hb dX0_put_12 (lv_at hl 0 rfl) ?_
    refine lv_aload_n hx hb dX0_put_14 rfl (lv_at hl 1 rfl) ?_
    refine va_get (D := g) (ci := 0) (v := .ref qc) (C := RX0) (T := TX0) (N := 2) hx hb hts inX0 hown hK.1 hP 0 rfl rfl 1 (by decide) f15 (fun _ h9 => h9) rfl dX0_put_15 ?_
    refine ri_alen hx hb hK.1 hP 1 0 rfl rfl dX0_put_18 ?_
    refine ri_ex (b := 8) rfl ?_
    refine ri_icmp_ge (a := ((2 * st) + sy)) (b := 8) (tgt := 30) hx hb (by omega) (by omega) dX0_put_19 (by decide) (fun c19 => ?_) (fun c19 => ?_)
    · exact (by omega : False).elim
    · skip
      refine lv_aload_n hx hb dX0_put_22 rfl (lv_at hl 1 rfl) ?_
      refine va_get (D := g) (ci := 0) (v := .ref qc) (C := RX0) (T := TX0) (N := 2) hx hb hts inX0 hown hK.1 hP 0 rfl rfl 1 (by decide) f15 (fun _ h9 => h9) rfl dX0_put_23 ?_
      refine lv_iload hx hb dX0_put_26 (lv_at hl 0 rfl) ?_
      refine lv_iload_n hx hb dX0_put_28 rfl (lv_at hl 4 rfl) ?_
      refine ri_iast (F := F) (i := ((2 * st) + sy)) (x := co) hx hb hK.1 hP hD hS 1 0 rfl rfl (by omega) (by omega) dX0_put_29 (fun H locs hP hD hS => ?_)
      have hP : va_P g vwCl [(q, .inr (0, [.int (iI n), .ref qc])), (qc, .inl (k.1, 8, .inl (iF (up F ((2 * st) + sy) co))))] H := hP
      have hD : va_D A [(q, .inr (0, [.int (iI n), .ref qc])), (qc, .inl (k.1, 8, .inl (iF (up F ((2 * st) + sy) co))))] := hD
      exact hret () _ _ _ _ dX0_put_30 trivial hP hD hS

/-- the greatest next state among the first j codes -/
def gN (F : Int → Int) : Nat → Int
  | 0 => 0
  | j + 1 => max (gN F j) (F j / 4)
theorem gN_s (F : Int → Int) (i : Int) (h : 0 ≤ i) : gN F (i + 1).toNat = max (gN F i.toNat) (F i / 4) := by
  rw [show (i + 1).toNat = i.toNat + 1 by omega]
  show max (gN F i.toNat) (F ((i.toNat : Nat) : Int) / 4) = _
  rw [Int.toNat_of_nonneg h]
theorem gN_le (F : Int → Int) (hF : okC F) : ∀ j, j ≤ 8 → 0 ≤ gN F j ∧ gN F j < 4
  | 0, _ => by simp [gN]
  | j + 1, h => by
    have h1 := gN_le F hF j (by omega)
    have h2 := hF j (by omega) (by omega)
    simp only [gN]
    omega
set_option maxHeartbeats 4000000 in
set_option maxRecDepth 100000 in
theorem c_greatestNext (l : Launch) (g : va_G) (k : kT) (q qc : Nat) (n : Int) (F : Int → Int) (hF : okC F) : cP l yX0_greatestNext wsX0_greatestNext rm_1 g k (wMa k q qc n F) [.ref q] (fun r => r = iI (gN F 8)) := by
  refine st_P (by decide) rfl (Nat.le_of_ble_eq_true rfl) ?_
  intro p e s m below meth c Q hx hb hml hown hts hP hK hret ls hl
  have hown : s.vm.findClass RX0 = some m.cls := hown
  have f15 := hts (.fieldLink RX0 15 "MachineTree$Machine" "codes" "[I") (by decide +kernel)
  have inX0 := (by decide +kernel : ∀ w ∈ wsX00, w ∈ wsX0_greatestNext)
  have hl : lv_has ls 6 [(0, .ref q)] := hl
  refine lv_iconst (v := iI 0) hx hb dX0_greatestNext_0 rfl ?_
  refine lv_istore_n (lv' := [(1, .int (iI 0)), (0, .ref q)]) hx hb dX0_greatestNext_1 rfl hl (by decide) rfl (fun ls hl => ?_)
  refine lv_aload_n hx hb dX0_greatestNext_2 rfl (lv_at hl 1 rfl) ?_
  refine va_get (D := g) (ci := 0) (v := .ref qc) (C := RX0) (T := TX0) (N := 2) hx hb hts inX0 hown hK.1 hP 0 rfl rfl 1 (by decide) f15 (fun _ h9 => h9) rfl dX0_greatestNext_3 ?_
  refine lv_astore_n (lv' := [(2, .ref qc), (1, .int (iI 0)), (0, .ref q)]) hx hb dX0_greatestNext_6 rfl hl (by decide) rfl (fun ls hl => ?_)
  refine lv_aload_n hx hb dX0_greatestNext_7 rfl (lv_at hl 0 rfl) ?_
  refine ri_alen hx hb hK.1 hP 1 0 rfl rfl dX0_greatestNext_8 ?_
  refine ri_ex (b := 8) rfl ?_
  refine lv_istore_n (lv' := [(3, .int (iI 8)), (2, .ref qc), (1, .int (iI 0)), (0, .ref q)]) hx hb dX0_greatestNext_9 rfl hl (by decide) rfl (fun ls hl => ?_)
  refine lv_iconst (v := iI 0) hx hb dX0_greatestNext_10 rfl ?_
  refine lv_istore (lv' := [(4, .int (iI 0)), (3, .int (iI 8)), (2, .ref qc), (1, .int (iI 0)), (0, .ref q)]) hx hb dX0_greatestNext_11 hl (by decide) rfl (fun ls hl => ?_)
  have J13 : ∀ (n9 : Nat) (i : Int) (x : Int), 8 - i < (n9 : Int) → (0 ≤ i ∧ i ≤ 8) → (x = gN F i.toNat) → ∀ (ls : Array Slot), lv_has ls 6 [(0, .ref q), (1, .int (iI x)), (2, .ref qc), (3, .int (iI 8)), (4, .int (iI i))] → W p l e rm_1 s m ([.ref q] : List Value).toArray below meth c s.heap [] 0 0 Q (F0 m 13 ls []) := by
    intro n9
    induction n9 with
    | zero => intro i x hm9 hi hx9; exact absurd hm9 (by omega)
    | succ n9 ih =>
      intro i x hm9 hi hx9 ls hl
      refine lv_iload hx hb dX0_greatestNext_13 (lv_at hl 4 rfl) ?_
      refine lv_iload_n hx hb dX0_greatestNext_15 rfl (lv_at hl 3 rfl) ?_
      refine ri_icmp_ge (a := i) (b := 8) (tgt := 40) hx hb (by omega) (by omega) dX0_greatestNext_16 (by decide) (fun c16 => ?_) (fun c16 => ?_)
      · skip
        refine lv_iload_n hx hb dX0_greatestNext_40 rfl (lv_at hl 1 rfl) ?_
        exact hret (iI x) _ _ dX0_greatestNext_41 (by rw [hx9, show i.toNat = 8 by omega])
      · skip
        have hg := gN_le F hF i.toNat (by omega)
        have hf := hF i (by omega) (by omega)
        refine lv_aload_n hx hb dX0_greatestNext_19 rfl (lv_at hl 2 rfl) ?_
        refine lv_iload hx hb dX0_greatestNext_20 (lv_at hl 4 rfl) ?_
        refine ri_iald (F := F) (i := i) hx hb hK.1 hP 1 0 rfl rfl (by omega) (by omega) dX0_greatestNext_22 ?_
        refine lv_istore (lv' := [(5, .int (iI (F i))), (0, .ref q), (1, .int (iI x)), (2, .ref qc), (3, .int (iI 8)), (4, .int (iI i))]) hx hb dX0_greatestNext_23 hl (by decide) rfl (fun ls hl => ?_)
        refine lv_iload_n hx hb dX0_greatestNext_25 rfl (lv_at hl 2 rfl) ?_
        refine lv_iload hx hb dX0_greatestNext_26 (lv_at hl 0 rfl) ?_
        refine lv_iconst (v := iI 2) hx hb dX0_greatestNext_28 rfl ?_
        refine ri_shr (a := (F i)) (b := 2) hx hb (by omega) 2 (by decide) dX0_greatestNext_29 ?_
        refine ri_ex (b := ((F i) / 4)) (by first | rfl | simp | omega) ?_
        refine va_mmax hx hb (by rw [hml]; exact hl.1.symm) hown (hts (.methodLink RX0 25 Lib.Math.max.name) (by decide +kernel)) (hts (.static Lib.Math.max.name) (by decide +kernel)) (hts (.initialized "java/lang/Math") (by decide +kernel)) (hts (.code Lib.Math.max.name Lib.Math.max.code 2 (some .int)) (by decide +kernel)) (Nat.le_of_ble_eq_true rfl) (Nat.le_of_ble_eq_true rfl) (Nat.le_of_ble_eq_true rfl) (Nat.le_of_ble_eq_true rfl) dX0_greatestNext_30 ?_
        refine ri_top (iI_max (a := x) (b := ((F i) / 4)) (by omega) (by omega)) ?_
        refine lv_istore_n (lv' := [(1, .int (iI (max x ((F i) / 4)))), (5, .int (iI (F i))), (0, .ref q), (2, .ref qc), (3, .int (iI 8)), (4, .int (iI i))]) hx hb dX0_greatestNext_33 rfl hl (by decide) rfl (fun ls hl => ?_)
        refine ri_iinc (x := i) (lv' := [(4, .int (iI (i + 1))), (1, .int (iI (max x ((F i) / 4)))), (5, .int (iI (F i))), (0, .ref q), (2, .ref qc), (3, .int (iI 8))]) hx hb dX0_greatestNext_34 hl (k := 5) rfl (by decide) rfl (fun ls hl => ?_)
        refine lv_goto (tgt := 13) hx hb dX0_greatestNext_37 (by decide) ?_
        exact ih (i + 1) (max x ((F i) / 4)) (by omega) (by omega) (by rw [gN_s F i hi.1, ← hx9]) _ (lv_sub hl [3, 1, 4, 5, 0] rfl)
  exact J13 ((8 - 0 : Int).toNat.succ) 0 0 (by omega) (by omega) rfl _ (lv_sub hl [4, 3, 2, 1, 0] rfl)

