set_option maxHeartbeats 4000000 in
set_option maxRecDepth 100000 in
theorem c_fillI (l : Launch) (g : va_G) (k : kT) (a N : Nat) (F : Int → Int) (sz : Nat) (v : Int) (hN : N < 100000) : cV l yJ7_fill_53178 wsJ7_fill_53178 rm_0 g k [(a, .inl (k.1, N, .inl (iF F)))] sz [.ref a, .int (iI v)] 0 0 (fun u : Int → Int => [(a, .inl (k.1, N, .inl (iF u)))]) (fun u => ∀ j : Int, 0 ≤ j → j < N → u j = v) := by
  refine st_V (by decide) rfl (Nat.le_of_ble_eq_true rfl) ?_
  intro p e s m below meth c Q A hx hb hml hown hts hin hA hP hD hS hK hret ls hl
  have hown : s.vm.findClass RJ7 = some m.cls := hown
  have hl : lv_has ls 4 [(0, .ref a), (1, .int (iI v))] := hl
  obtain ⟨H, hH⟩ : ∃ H, H = s.heap := ⟨_, rfl⟩
  obtain ⟨locs, hlo⟩ : ∃ L : List Loc, L = [] := ⟨_, rfl⟩
  rw [← hH] at hP
  have hS : va_S A s.heap H locs := by rw [hH, hlo]; exact hS
  rw [show W p l e rm_0 s m ([.ref a, .int (iI v)] : List Value).toArray below meth c s.heap [] 0 0 Q (F0 m 0 ls []) = W p l e rm_0 s m ([.ref a, .int (iI v)] : List Value).toArray below meth c H locs 0 0 Q (F0 m 0 ls []) by rw [hH, hlo]]
  clear hH hlo
  refine lv_iconst (v := iI 0) hx hb dJ7_fill_53178_0 rfl ?_
  refine lv_istore_n (lv' := [(2, .int (iI 0)), (0, .ref a), (1, .int (iI v))]) hx hb dJ7_fill_53178_1 rfl hl (by decide) rfl (fun ls hl => ?_)
  refine lv_aload_n hx hb dJ7_fill_53178_2 rfl (lv_at hl 1 rfl) ?_
  refine ri_alen hx hb hK.1 hP 0 0 rfl rfl dJ7_fill_53178_3 ?_
  refine ri_ex (b := ((N : Nat) : Int)) rfl ?_
  refine lv_istore_n (lv' := [(3, .int (iI ((N : Nat) : Int))), (2, .int (iI 0)), (0, .ref a), (1, .int (iI v))]) hx hb dJ7_fill_53178_4 rfl hl (by decide) rfl (fun ls hl => ?_)
  have J5 : ∀ (n9 : Nat) (i : Int) (G : Int → Int), (N : Int) - i < (n9 : Int) → (0 ≤ i ∧ i ≤ N) → (∀ j, 0 ≤ j → j < i → G j = v) → ∀ (ls : Array Slot), lv_has ls 4 [(0, .ref a), (1, .int (iI v)), (2, .int (iI i)), (3, .int (iI ((N : Nat) : Int)))] → ∀ (H : Heap) (locs : List Loc), va_P g vwCl [(a, .inl (k.1, N, .inl (iF G)))] H → va_D A [(a, .inl (k.1, N, .inl (iF G)))] → va_S A s.heap H locs → W p l e rm_0 s m ([.ref a, .int (iI v)] : List Value).toArray below meth c H locs 0 0 Q (F0 m 5 ls []) := by
    intro n9
    induction n9 with
    | zero => intro i G hm9 hi hG; exact absurd hm9 (by omega)
    | succ n9 ih =>
      intro i G hm9 hi hG ls hl H locs hP hD hS
      refine lv_iload_n hx hb dJ7_fill_53178_5 rfl (lv_at hl 2 rfl) ?_
      refine lv_iload_n hx hb dJ7_fill_53178_6 rfl (lv_at hl 3 rfl) ?_
      refine ri_icmp_ge (a := i) (b := ((N : Nat) : Int)) (tgt := 20) hx hb (by omega) (by omega) dJ7_fill_53178_7 (by decide) (fun c7 => ?_) (fun c7 => ?_)
      · skip
        exact hret G _ _ _ _ dJ7_fill_53178_20 (fun j h1 h2 => hG j h1 (by omega)) hP hD hS
      · skip
        refine lv_aload_n hx hb dJ7_fill_53178_10 rfl (lv_at hl 0 rfl) ?_
        refine lv_iload_n hx hb dJ7_fill_53178_11 rfl (lv_at hl 2 rfl) ?_
        refine lv_iload_n hx hb dJ7_fill_53178_12 rfl (lv_at hl 1 rfl) ?_
        refine ri_iast (F := G) (i := i) (x := v) hx hb hK.1 hP hD hS 0 0 rfl rfl (by omega) (by omega) dJ7_fill_53178_13 (fun H locs hP hD hS => ?_)
        have hP : va_P g vwCl [(a, .inl (k.1, N, .inl (iF (up G i v))))] H := hP
        have hD : va_D A [(a, .inl (k.1, N, .inl (iF (up G i v))))] := hD
        refine ri_iinc (x := i) (lv' := [(2, .int (iI (i + 1))), (0, .ref a), (1, .int (iI v)), (3, .int (iI ((N : Nat) : Int)))]) hx hb dJ7_fill_53178_14 hl (k := 2) rfl (by decide) rfl (fun ls hl => ?_)
        refine lv_goto (tgt := 5) hx hb dJ7_fill_53178_17 (by decide) ?_
        exact ih (i + 1) (up G i v) (by omega) (by omega) (fun j h1 h2 => by by_cases q : j = i <;> simp only [up, q, if_true, if_false]; exact hG j h1 (by omega)) _ (lv_sub hl [1, 2, 0, 3] rfl) _ _ hP hD hS
  exact J5 (((N : Int) - 0 : Int).toNat.succ) 0 F (by omega) (by omega) (fun j h1 h2 => absurd h2 (by omega)) _ (lv_sub hl [2, 3, 1, 0] rfl) _ _ hP hD hS

set_option maxHeartbeats 4000000 in
set_option maxRecDepth 100000 in
theorem c_fillJ (l : Launch) (g : va_G) (k : kT) (a N : Nat) (f : Nat → Int64) (sz : Nat) (v : Int64) (hN : N < 100000) : cV l yJ7_fill_d0a16 wsJ7_fill_d0a16 rm_0 g k [(a, .inl (k.2.1, N, .inr (.inl f)))] sz [.ref a, .long v] 0 0 (fun u : Nat → Int64 => [(a, .inl (k.2.1, N, .inr (.inl u)))]) (fun u => ∀ j : Nat, j < N → u j = v) := by
  refine st_V (by decide) rfl (Nat.le_of_ble_eq_true rfl) ?_
  intro p e s m below meth c Q A hx hb hml hown hts hin hA hP hD hS hK hret ls hl
  have hown : s.vm.findClass RJ7 = some m.cls := hown
  have hl : lv_has ls 5 [(0, .ref a), (1, .long v)] := hl
  obtain ⟨H, hH⟩ : ∃ H, H = s.heap := ⟨_, rfl⟩
  obtain ⟨locs, hlo⟩ : ∃ L : List Loc, L = [] := ⟨_, rfl⟩
  rw [← hH] at hP
  have hS : va_S A s.heap H locs := by rw [hH, hlo]; exact hS
  rw [show W p l e rm_0 s m ([.ref a, .long v] : List Value).toArray below meth c s.heap [] 0 0 Q (F0 m 0 ls []) = W p l e rm_0 s m ([.ref a, .long v] : List Value).toArray below meth c H locs 0 0 Q (F0 m 0 ls []) by rw [hH, hlo]]
  clear hH hlo
  refine lv_iconst (v := iI 0) hx hb dJ7_fill_d0a16_0 rfl ?_
  refine lv_istore_n (lv' := [(3, .int (iI 0)), (0, .ref a), (1, .long v)]) hx hb dJ7_fill_d0a16_1 rfl hl (by decide) rfl (fun ls hl => ?_)
  refine lv_aload_n hx hb dJ7_fill_d0a16_2 rfl (lv_at hl 1 rfl) ?_
  refine ri_alen hx hb hK.1 hP 0 1 rfl rfl dJ7_fill_d0a16_3 ?_
  refine ri_ex (b := ((N : Nat) : Int)) rfl ?_
  refine lv_istore (lv' := [(4, .int (iI ((N : Nat) : Int))), (3, .int (iI 0)), (0, .ref a), (1, .long v)]) hx hb dJ7_fill_d0a16_4 hl (by decide) rfl (fun ls hl => ?_)
  have J6 : ∀ (n9 : Nat) (i : Int) (G : Nat → Int64), (N : Int) - i < (n9 : Int) → (0 ≤ i ∧ i ≤ N) → (∀ j : Nat, (j : Int) < i → G j = v) → ∀ (ls : Array Slot), lv_has ls 5 [(0, .ref a), (1, .long v), (3, .int (iI i)), (4, .int (iI ((N : Nat) : Int)))] → ∀ (H : Heap) (locs : List Loc), va_P g vwCl [(a, .inl (k.2.1, N, .inr (.inl G)))] H → va_D A [(a, .inl (k.2.1, N, .inr (.inl G)))] → va_S A s.heap H locs → W p l e rm_0 s m ([.ref a, .long v] : List Value).toArray below meth c H locs 0 0 Q (F0 m 6 ls []) := by
    intro n9
    induction n9 with
    | zero => intro i G hm9 hi hG; exact absurd hm9 (by omega)
    | succ n9 ih =>
      intro i G hm9 hi hG ls hl H locs hP hD hS
      refine lv_iload_n hx hb dJ7_fill_d0a16_6 rfl (lv_at hl 2 rfl) ?_
      refine lv_iload hx hb dJ7_fill_d0a16_7 (lv_at hl 3 rfl) ?_
      refine ri_icmp_ge (a := i) (b := ((N : Nat) : Int)) (tgt := 22) hx hb (by omega) (by omega) dJ7_fill_d0a16_9 (by decide) (fun c9 => ?_) (fun c9 => ?_)
      · skip
        exact hret G _ _ _ _ dJ7_fill_d0a16_22 (fun j h1 => hG j (by omega)) hP hD hS
      · skip
        refine lv_aload_n hx hb dJ7_fill_d0a16_12 rfl (lv_at hl 0 rfl) ?_
        refine lv_iload_n hx hb dJ7_fill_d0a16_13 rfl (lv_at hl 2 rfl) ?_
        refine lv_lload_n hx hb dJ7_fill_d0a16_14 rfl (lv_at hl 1 rfl) ?_
        refine ri_last (f := G) (i := i) (x := v) hx hb hK.1 hP hD hS 0 1 rfl rfl (by omega) (by omega) dJ7_fill_d0a16_15 (fun H locs hP hD hS => ?_)
        have hP : va_P g vwCl [(a, .inl (k.2.1, N, .inr (.inl (vp_updL G (i : Int).toNat v))))] H := hP
        have hD : va_D A [(a, .inl (k.2.1, N, .inr (.inl (vp_updL G (i : Int).toNat v))))] := hD
        refine ri_iinc (x := i) (lv' := [(3, .int (iI (i + 1))), (0, .ref a), (1, .long v), (4, .int (iI ((N : Nat) : Int)))]) hx hb dJ7_fill_d0a16_16 hl (k := 2) rfl (by decide) rfl (fun ls hl => ?_)
        refine lv_goto (tgt := 6) hx hb dJ7_fill_d0a16_19 (by decide) ?_
        exact ih (i + 1) (vp_updL G (i : Int).toNat v) (by omega) (by omega) (fun j h1 => by by_cases q : j = i.toNat <;> simp only [vp_updL, q, if_true, if_false]; exact hG j (by omega)) _ (lv_sub hl [1, 2, 0, 3] rfl) _ _ hP hD hS
  exact J6 (((N : Int) - 0 : Int).toNat.succ) 0 f (by omega) (by omega) (fun j h1 => absurd h1 (by omega)) _ (lv_sub hl [2, 3, 1, 0] rfl) _ _ hP hD hS

abbrev rm_M : Room := { frames := 1, cells := 1, slots := 8, locals := 40 }
set_option maxHeartbeats 4000000 in
set_option maxRecDepth 100000 in
theorem c_Machine (l : Launch) (g : va_G) (k : kT) (q : Nat) (sz : Nat) (n : Int) : cV l yX0_init wsX0_init rm_M g k [(q, .inr (0, [.int (iI 0), .null]))] sz [.ref q, .int (iI n)] 1 8 (fun u : Nat × (Int → Int) => wMa k q u.1 n u.2) (fun u => ∀ j : Int, 0 ≤ j → j < 8 → u.2 j = -1) := by
  refine st_V (by decide) rfl (Nat.le_of_ble_eq_true rfl) ?_
  intro p e s m below meth c Q A hx hb hml hown hts hin hA hP hD hS hK hret ls hl
  have hown : s.vm.findClass RX0 = some m.cls := hown
  have f9 := hts (.fieldLink RX0 9 "MachineTree$Machine" "states" "I") (by decide +kernel)
  have inX0 := (by decide +kernel : ∀ w ∈ wsX00, w ∈ wsX0_init)
  have f15 := hts (.fieldLink RX0 15 "MachineTree$Machine" "codes" "[I") (by decide +kernel)
  have hl : lv_has ls 2 [(0, .ref q), (1, .int (iI n))] := hl
  obtain ⟨H, hH⟩ : ∃ H, H = s.heap := ⟨_, rfl⟩
  obtain ⟨locs, hlo⟩ : ∃ L : List Loc, L = [] := ⟨_, rfl⟩
  rw [← hH] at hP
  have hS : va_S A s.heap H locs := by rw [hH, hlo]; exact hS
  rw [show W p l e rm_M s m ([.ref q, .int (iI n)] : List Value).toArray below meth c s.heap [] 0 0 Q (F0 m 0 ls []) = W p l e rm_M s m ([.ref q, .int (iI n)] : List Value).toArray below meth c H locs 0 0 Q (F0 m 0 ls []) by rw [hH, hlo]]
  clear hH hlo
  refine lv_aload_n hx hb dX0_init_0 rfl (lv_at hl 0 rfl) ?_
  refine W.objInit hx hb hown (hts (.methodLink RX0 3 objectInit) (by decide +kernel)) (hts (.instanceMethod objectInit) (by decide +kernel)) (hts (.code objectInit ⟨#[0xb1]⟩ 1 none) (by decide +kernel)) rfl (by rw [hml]; exact hl.1) rfl dX0_init_1 (Nat.le_of_ble_eq_true rfl) (Nat.le_of_ble_eq_true rfl) ?_
  refine W.eq (g2 := F0 m 4 ls []) rfl ?_
  refine lv_aload_n hx hb dX0_init_4 rfl (lv_at hl 0 rfl) ?_
  refine lv_iload_n hx hb dX0_init_5 rfl (lv_at hl 1 rfl) ?_
  refine va_putF (D := g) (ci := 0) (v := .int (iI n)) (ty := .int) (C := RX0) (T := TX0) (N := 2) hx hb hts inX0 tyX0 tyX0_ok nmX0 hown hK.1 hP hD hS 0 rfl rfl 0 (by decide) f9 (fun _ h9 => h9) rfl hin rfl (by decide +kernel) rfl rfl (Nat.le_of_ble_eq_true rfl) dX0_init_6 (fun H locs hP hD hS => ?_)
  have hP : va_P g vwCl [(q, .inr (0, [.int (iI n), .null]))] H := hP
  have hD : va_D A [(q, .inr (0, [.int (iI n), .null]))] := hD
  refine lv_aload_n hx hb dX0_init_9 rfl (lv_at hl 0 rfl) ?_
  refine lv_bipush (v := iI 8) hx hb dX0_init_10 (by decide) ?_
  refine ri_newaI (n := 8) (N := 8) hx hb (hts (.arrayClass .int) (by decide +kernel)) hK hP hD hS hA (by omega) (Nat.le_of_ble_eq_true rfl) (Nat.le_of_ble_eq_true rfl) dX0_init_12 (fun q12 H hP hD hS => ?_)
  have hP : va_P g vwCl [(q, .inr (0, [.int (iI n), .null])), (q12, .inl (k.1, 8, .inl (iF (fun _ => 0))))] H := hP
  have hD : va_D A [(q, .inr (0, [.int (iI n), .null])), (q12, .inl (k.1, 8, .inl (iF (fun _ => 0))))] := hD
  refine W.widen (k := 1) (n := 8) (Nat.le_refl _) (Nat.le_refl _) ?_
  refine va_putF (D := g) (ci := 0) (v := .ref q12) (ty := (tyX0 1)) (C := RX0) (T := TX0) (N := 2) hx hb hts inX0 tyX0 tyX0_ok nmX0 hown hK.1 hP hD hS 0 rfl rfl 1 (by decide) f15 (fun _ h9 => h9) rfl hin rfl (by decide +kernel) rfl rfl (Nat.le_of_ble_eq_true rfl) dX0_init_14 (fun H locs hP hD hS => ?_)
  have hP : va_P g vwCl [(q, .inr (0, [.int (iI n), .ref q12])), (q12, .inl (k.1, 8, .inl (iF (fun _ => 0))))] H := hP
  have hD : va_D A [(q, .inr (0, [.int (iI n), .ref q12])), (q12, .inl (k.1, 8, .inl (iF (fun _ => 0))))] := hD
  refine lv_aload_n hx hb dX0_init_17 rfl (lv_at hl 0 rfl) ?_
  refine va_get (D := g) (ci := 0) (v := .ref q12) (C := RX0) (T := TX0) (N := 2) hx hb hts inX0 hown hK.1 hP 0 rfl rfl 1 (by decide) f15 (fun _ h9 => h9) rfl dX0_init_18 ?_
  refine lv_iconst (v := iI (-1)) hx hb dX0_init_21 rfl ?_
  refine rc_SV (own := RX0) (wc := [(q12, .inl (k.1, 8, .inl (iF (fun _ => 0))))]) (wr := [(q, .inr (0, [.int (iI n), .ref q12]))]) (As := [.ref q12, .int (iI (-1))]) (rest := []) ⟨hx, hb, hml, hown, hts⟩ (c_fillI l g k q12 8 (fun _ => 0) H.size (-1) (by decide)) (va_cwS 2 hts gX0_init_J7_fill_53178 rfl rfl rfl (by decide +kernel) ⟨Nat.le_of_ble_eq_true rfl, Nat.le_of_ble_eq_true rfl⟩) hK hP hD hS hA [1] [0] rfl (by decide) rfl (by decide) (by decide) rfl rfl hl.1 (Nat.le_of_ble_eq_true rfl) ⟨Nat.le_of_ble_eq_true rfl, Nat.le_of_ble_eq_true rfl⟩ dX0_init_22 (fun cs H locs hu22 hP hD hS => ?_)
  have hP : va_P g vwCl [(q, .inr (0, [.int (iI n), .ref q12])), (q12, .inl (k.1, 8, .inl (iF cs)))] H := hP
  have hD : va_D A [(q, .inr (0, [.int (iI n), .ref q12])), (q12, .inl (k.1, 8, .inl (iF cs)))] := hD
  have hP := hP.sub (ws' := [(q, .inr (0, [.int (iI n), .ref q12])), (q12, .inl (k.1, 8, .inl (iF cs)))]) [0, 1] rfl
  have hD := hD.sub (ws' := [(q, .inr (0, [.int (iI n), .ref q12])), (q12, .inl (k.1, 8, .inl (iF cs)))]) [0, 1] (by decide) rfl
  exact hret (q12, cs) _ _ _ _ dX0_init_25 (fun j h1 h2 => hu22 j h1 (by omega)) hP hD hS

set_option maxHeartbeats 4000000 in
set_option maxRecDepth 100000 in
theorem c_copyFrom (l : Launch) (g : va_G) (k : kT) (q qc : Nat) (n : Int) (F : Int → Int) (q2 qd : Nat) (n2 : Int) (G : Int → Int) (sz : Nat) : cV l yX0_copyFrom wsX0_copyFrom rm_1 g k (wMa k q qc n F ++ wMa k q2 qd n2 G) sz [.ref q, .ref q2] 0 0 (fun u : Int → Int => wMa k q qc n u ++ wMa k q2 qd n2 G) (fun u => ∀ j : Int, 0 ≤ j → j < 8 → u j = G j) := by
  refine st_V (by decide) rfl (Nat.le_of_ble_eq_true rfl) ?_
  intro p e s m below meth c Q A hx hb hml hown hts hin hA hP hD hS hK hret ls hl
  have hown : s.vm.findClass RX0 = some m.cls := hown
  have f15 := hts (.fieldLink RX0 15 "MachineTree$Machine" "codes" "[I") (by decide +kernel)
  have inX0 := (by decide +kernel : ∀ w ∈ wsX00, w ∈ wsX0_copyFrom)
  have hl : lv_has ls 2 [(0, .ref q), (1, .ref q2)] := hl
  obtain ⟨H, hH⟩ : ∃ H, H = s.heap := ⟨_, rfl⟩
  obtain ⟨locs, hlo⟩ : ∃ L : List Loc, L = [] := ⟨_, rfl⟩
  rw [← hH] at hP
  have hS : va_S A s.heap H locs := by rw [hH, hlo]; exact hS
  rw [show W p l e rm_1 s m ([.ref q, .ref q2] : List Value).toArray below meth c s.heap [] 0 0 Q (F0 m 0 ls []) = W p l e rm_1 s m ([.ref q, .ref q2] : List Value).toArray below meth c H locs 0 0 Q (F0 m 0 ls []) by rw [hH, hlo]]
  clear hH hlo
  refine lv_aload_n hx hb dX0_copyFrom_0 rfl (lv_at hl 1 rfl) ?_
  refine va_get (D := g) (ci := 0) (v := .ref qd) (C := RX0) (T := TX0) (N := 2) hx hb hts inX0 hown hK.1 hP 2 rfl rfl 1 (by decide) f15 (fun _ h9 => h9) rfl dX0_copyFrom_1 ?_
  refine lv_iconst (v := iI 0) hx hb dX0_copyFrom_4 rfl ?_
  refine lv_aload_n hx hb dX0_copyFrom_5 rfl (lv_at hl 0 rfl) ?_
  refine va_get (D := g) (ci := 0) (v := .ref qc) (C := RX0) (T := TX0) (N := 2) hx hb hts inX0 hown hK.1 hP 0 rfl rfl 1 (by decide) f15 (fun _ h9 => h9) rfl dX0_copyFrom_6 ?_
  refine lv_iconst (v := iI 0) hx hb dX0_copyFrom_9 rfl ?_
  refine lv_aload_n hx hb dX0_copyFrom_10 rfl (lv_at hl 0 rfl) ?_
  refine va_get (D := g) (ci := 0) (v := .ref qc) (C := RX0) (T := TX0) (N := 2) hx hb hts inX0 hown hK.1 hP 0 rfl rfl 1 (by decide) f15 (fun _ h9 => h9) rfl dX0_copyFrom_11 ?_
  refine ri_alen hx hb hK.1 hP 1 0 rfl rfl dX0_copyFrom_14 ?_
  refine ri_ex (b := 8) rfl ?_
  refine lv_aload_n hx hb dX0_copyFrom_15 rfl (lv_at hl 1 rfl) ?_
  refine va_get (D := g) (ci := 0) (v := .ref qd) (C := RX0) (T := TX0) (N := 2) hx hb hts inX0 hown hK.1 hP 2 rfl rfl 1 (by decide) f15 (fun _ h9 => h9) rfl dX0_copyFrom_16 ?_
  refine ri_alen hx hb hK.1 hP 3 0 rfl rfl dX0_copyFrom_19 ?_
  refine ri_ex (b := 8) rfl ?_
  refine va_mmin hx hb (by rw [hml]; exact hl.1.symm) hown (hts (.methodLink RX0 31 Lib.Math.min.name) (by decide +kernel)) (hts (.static Lib.Math.min.name) (by decide +kernel)) (hts (.initialized "java/lang/Math") (by decide +kernel)) (hts (.code Lib.Math.min.name Lib.Math.min.code 2 (some .int)) (by decide +kernel)) (Nat.le_of_ble_eq_true rfl) (Nat.le_of_ble_eq_true rfl) (Nat.le_of_ble_eq_true rfl) (Nat.le_of_ble_eq_true rfl) dX0_copyFrom_20 ?_
  refine ri_top (iI_min (a := 8) (b := 8) (by omega) (by omega)) ?_
  refine ri_copyI (F := G) (G := F) (sp := 0) (dp := 0) (n := (min 8 8)) hx hb (by rw [hml]; exact hl.1.symm) hown (hts (.methodLink RX0 34 arraycopyName) (by decide +kernel)) (hts (.native arraycopyName) (by decide +kernel)) (hts (.static arraycopyName) (by decide +kernel)) (hts (.initialized "java/lang/System") (by decide +kernel)) hK hP hD hS 3 1 rfl rfl (by omega) (Nat.le_of_ble_eq_true rfl) (Nat.le_of_ble_eq_true rfl) dX0_copyFrom_23 (fun H locs hP hD hS => ?_)
  have hP : va_P g vwCl [(q, .inr (0, [.int (iI n), .ref qc])), (qc, .inl (k.1, 8, .inl (iF (cpI G F 0 0 (min 8 8))))), (q2, .inr (0, [.int (iI n2), .ref qd])), (qd, .inl (k.1, 8, .inl (iF G)))] H := hP
  have hD : va_D A [(q, .inr (0, [.int (iI n), .ref qc])), (qc, .inl (k.1, 8, .inl (iF (cpI G F 0 0 (min 8 8))))), (q2, .inr (0, [.int (iI n2), .ref qd])), (qd, .inl (k.1, 8, .inl (iF G)))] := hD
  exact hret _ _ _ _ _ dX0_copyFrom_26 (fun j h1 h2 => by show cpI _ _ _ _ _ j = _; unfold cpI; rw [if_pos (by omega)]; congr 1; omega) hP hD hS

