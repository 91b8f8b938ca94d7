/-! THE REFERENCE: alike, drifts -/
set_option maxHeartbeats 4000000 in
set_option maxRecDepth 100000 in
theorem r_alike (l : Launch) (g : va_G) (k : kT) (y : Nat → Nat) (thr n pe dr lf rt ra dp ov bs bo mo su : Int) (T B hs : Int → Int) (kk : Nat) (sd ce d h : Int) (hk : kk ≤ 300) (hd : 0 ≤ d ∧ d ≤ 1000) (hh : hs kk = h) (hT01 : ∀ j, T j = 0 ∨ T j = 1) (hB01 : ∀ j, B j = 0 ∨ B j = 1) (hr : ∀ j : Int, 0 ≤ j → j ≤ d → 0 ≤ 310 + ce - sd * j ∧ 310 + ce - sd * j < 620 ∧ 0 ≤ 310 + h - sd * j ∧ 310 + h - sd * j < 620) : cP l yX4_alike wsX4_alike rm_0 g k [yO y thr n (kk : Int) pe dr lf rt ra dp ov bs bo mo su, ((y 4), .inl (k.1, 620, .inl (iF T))), ((y 5), .inl (k.1, 620, .inl (iF B))), ((y 7), .inl (k.1, 301, .inl (iF hs)))] [.ref (y 0), .int (iI sd), .int (iI ce), .int (iI d)] (fun r => ∃ v : Int, r = iI v ∧ ((v = 1 ∧ ∀ j : Int, 0 ≤ j → j ≤ d → B (310 + ce - sd * j) = T (310 + h - sd * j)) ∨ (v = 0 ∧ ¬ (∀ j : Int, 0 ≤ j → j ≤ d → B (310 + ce - sd * j) = T (310 + h - sd * j))))) := by
  refine st_Z (by decide) rfl (Nat.le_of_ble_eq_true rfl) ?_
  intro p e s m below meth c Q hx hb hml hown hts hP hK hret ls hl
  have hown : s.vm.findClass RX4 = some m.cls := hown
  have f22 := hts (.fieldLink RX4 22 "MachineTreeModel" "back" "[I") (by decide +kernel)
  have inX4 := (by decide +kernel : ∀ w ∈ wsX40, w ∈ wsX4_alike)
  have f19 := hts (.fieldLink RX4 19 "MachineTreeModel" "tape" "[I") (by decide +kernel)
  have f28 := hts (.fieldLink RX4 28 "MachineTreeModel" "heads" "[I") (by decide +kernel)
  have f70 := hts (.fieldLink RX4 70 "MachineTreeModel" "steps" "I") (by decide +kernel)
  have hl : lv_has ls 6 [(0, .ref (y 0)), (1, .int (iI sd)), (2, .int (iI ce)), (3, .int (iI d))] := hl
  refine lv_iconst (v := iI 1) hx hb dX4_alike_0 rfl ?_
  refine lv_istore (lv' := [(4, .int (iI 1)), (0, .ref (y 0)), (1, .int (iI sd)), (2, .int (iI ce)), (3, .int (iI d))]) hx hb dX4_alike_1 hl (by decide) rfl (fun ls hl => ?_)
  refine lv_iconst (v := iI 0) hx hb dX4_alike_3 rfl ?_
  refine lv_istore (lv' := [(5, .int (iI 0)), (4, .int (iI 1)), (0, .ref (y 0)), (1, .int (iI sd)), (2, .int (iI ce)), (3, .int (iI d))]) hx hb dX4_alike_4 hl (by decide) rfl (fun ls hl => ?_)
  have J6 : ∀ (n9 : Nat) (i : Int) (sa : Int), d + 1 - i < (n9 : Int) → (0 ≤ i ∧ i ≤ d + 1) → ((sa = 1 ∧ ∀ j : Int, 0 ≤ j → j < i → B (310 + ce - sd * j) = T (310 + h - sd * j)) ∨ (sa = 0 ∧ ¬ (∀ j : Int, 0 ≤ j → j ≤ d → B (310 + ce - sd * j) = T (310 + h - sd * j)))) → ∀ (ls : Array Slot), lv_has ls 6 [(0, .ref (y 0)), (1, .int (iI sd)), (2, .int (iI ce)), (3, .int (iI d)), (4, .int (iI sa)), (5, .int (iI i))] → W p l e rm_0 s m ([.ref (y 0), .int (iI sd), .int (iI ce), .int (iI d)] : List Value).toArray below meth c s.heap [] 0 0 Q (F0 m 6 ls []) := by
    intro n9
    induction n9 with
    | zero => intro i sa hm9 hi hS9; exact absurd hm9 (by omega)
    | succ n9 ih =>
      intro i sa hm9 hi hS9 ls hl
      have hs01 : sa = 0 ∨ sa = 1 := by rcases hS9 with h | h <;> omega
      refine lv_iload hx hb dX4_alike_6 (lv_at hl 5 rfl) ?_
      refine lv_iload_n hx hb dX4_alike_8 rfl (lv_at hl 3 rfl) ?_
      refine ri_icmp_gt (a := i) (b := d) (tgt := 71) hx hb (by omega) (by omega) dX4_alike_9 (by decide) (fun c9 => ?_) (fun c9 => ?_)
      · skip
        refine lv_iload hx hb dX4_alike_71 (lv_at hl 4 rfl) ?_
        exact hret sa _ _ dX4_alike_73 (by first | exact Or.inl rfl | exact Or.inr rfl | omega) ⟨sa, rfl, by rcases hS9 with h | h; exact Or.inl ⟨h.1, fun j h1 h2 => h.2 j h1 (by omega)⟩; exact Or.inr h⟩
      · skip
        have J63 : ∀ (x : Int),  ((x = 1 ∧ ∀ j : Int, 0 ≤ j → j < i + 1 → B (310 + ce - sd * j) = T (310 + h - sd * j)) ∨ (x = 0 ∧ ¬ (∀ j : Int, 0 ≤ j → j ≤ d → B (310 + ce - sd * j) = T (310 + h - sd * j)))) → ∀ (ls : Array Slot), lv_has ls 6 [(0, .ref (y 0)), (1, .int (iI sd)), (2, .int (iI ce)), (3, .int (iI d)), (4, .int (iI sa)), (5, .int (iI i))] → W p l e rm_0 s m ([.ref (y 0), .int (iI sd), .int (iI ce), .int (iI d)] : List Value).toArray below meth c s.heap [] 0 0 Q (F0 m 63 ls [.int (iI x)]) := by
          intro x hx9 ls hl
          refine lv_istore (lv' := [(4, .int (iI x)), (0, .ref (y 0)), (1, .int (iI sd)), (2, .int (iI ce)), (3, .int (iI d)), (5, .int (iI i))]) hx hb dX4_alike_63 hl (by decide) rfl (fun ls hl => ?_)
          refine ri_iinc (x := i) (lv' := [(5, .int (iI (i + 1))), (4, .int (iI x)), (0, .ref (y 0)), (1, .int (iI sd)), (2, .int (iI ce)), (3, .int (iI d))]) hx hb dX4_alike_65 hl (k := 5) rfl (by decide) rfl (fun ls hl => ?_)
          refine lv_goto (tgt := 6) hx hb dX4_alike_68 (by decide) ?_
          exact ih (i + 1) x (by omega) (by omega) hx9 _ (lv_sub hl [2, 3, 4, 5, 1, 0] rfl)
        refine lv_iload hx hb dX4_alike_12 (lv_at hl 4 rfl) ?_
        refine ri_if_eq (a := sa) (tgt := 62) hx hb (by omega) dX4_alike_14 (by decide) (fun c14 => ?_) (fun c14 => ?_)
        · skip
          refine lv_iconst (v := iI 0) hx hb dX4_alike_62 rfl ?_
          exact J63 0 (Or.inr ⟨rfl, by rcases hS9 with h | h; exact absurd h.1 (by omega); exact h.2⟩) _ (lv_sub hl [0, 1, 2, 3, 4, 5] rfl)
        · skip
          have r9 := hr i (by omega) (by omega)
          have b9 := hB01 (310 + ce - sd * i)
          have t9 := hT01 (310 + h - sd * i)
          refine lv_aload_n hx hb dX4_alike_17 rfl (lv_at hl 0 rfl) ?_
          refine va_get (D := g) (ci := 4) (v := .ref (y 5)) (C := RX4) (T := TX4) (N := 28) hx hb hts inX4 hown hK.1 hP 0 rfl rfl 6 (by decide) f22 (fun _ h9 => h9) rfl dX4_alike_18 ?_
          refine lv_sipush (v := iI 310) hx hb dX4_alike_21 (by decide) ?_
          refine lv_iload_n hx hb dX4_alike_24 rfl (lv_at hl 2 rfl) ?_
          refine ri_iadd (a := 310) (b := ce) hx hb dX4_alike_25 ?_
          refine lv_iload_n hx hb dX4_alike_26 rfl (lv_at hl 1 rfl) ?_
          refine lv_iload hx hb dX4_alike_27 (lv_at hl 5 rfl) ?_
          refine ri_imul (a := sd) (b := i) hx hb dX4_alike_29 ?_
          refine ri_isub (a := (310 + ce)) (b := (sd * i)) hx hb dX4_alike_30 ?_
          refine ri_iald (F := B) (i := ((310 + ce) - (sd * i))) hx hb hK.1 hP 2 0 rfl rfl (by omega) (by omega) dX4_alike_31 ?_
          refine lv_aload_n hx hb dX4_alike_32 rfl (lv_at hl 0 rfl) ?_
          refine va_get (D := g) (ci := 4) (v := .ref (y 4)) (C := RX4) (T := TX4) (N := 28) hx hb hts inX4 hown hK.1 hP 0 rfl rfl 5 (by decide) f19 (fun _ h9 => h9) rfl dX4_alike_33 ?_
          refine lv_sipush (v := iI 310) hx hb dX4_alike_36 (by decide) ?_
          refine lv_aload_n hx hb dX4_alike_39 rfl (lv_at hl 0 rfl) ?_
          refine va_get (D := g) (ci := 4) (v := .ref (y 7)) (C := RX4) (T := TX4) (N := 28) hx hb hts inX4 hown hK.1 hP 0 rfl rfl 8 (by decide) f28 (fun _ h9 => h9) rfl dX4_alike_40 ?_
          refine lv_aload_n hx hb dX4_alike_43 rfl (lv_at hl 0 rfl) ?_
          refine va_get (D := g) (ci := 4) (v := .int (iI (kk : Int))) (C := RX4) (T := TX4) (N := 28) hx hb hts inX4 hown hK.1 hP 0 rfl rfl 11 (by decide) f70 (fun _ h9 => h9) rfl dX4_alike_44 ?_
          refine ri_iald (F := hs) (i := (kk : Int)) hx hb hK.1 hP 3 0 rfl rfl (by omega) (by omega) dX4_alike_47 ?_
          refine ri_ex (b := h) hh ?_
          refine ri_iadd (a := 310) (b := h) hx hb dX4_alike_48 ?_
          refine lv_iload_n hx hb dX4_alike_49 rfl (lv_at hl 1 rfl) ?_
          refine lv_iload hx hb dX4_alike_50 (lv_at hl 5 rfl) ?_
          refine ri_imul (a := sd) (b := i) hx hb dX4_alike_52 ?_
          refine ri_isub (a := (310 + h)) (b := (sd * i)) hx hb dX4_alike_53 ?_
          refine ri_iald (F := T) (i := ((310 + h) - (sd * i))) hx hb hK.1 hP 1 0 rfl rfl (by omega) (by omega) dX4_alike_54 ?_
          refine ri_icmp_ne (a := (B ((310 + ce) - (sd * i)))) (b := (T ((310 + h) - (sd * i)))) (tgt := 62) hx hb (by omega) (by omega) dX4_alike_55 (by decide) (fun c55 => ?_) (fun c55 => ?_)
          · skip
            refine lv_iconst (v := iI 0) hx hb dX4_alike_62 rfl ?_
            exact J63 0 (Or.inr ⟨rfl, fun q => c55 (q i (by omega) (by omega))⟩) _ (lv_sub hl [0, 1, 2, 3, 4, 5] rfl)
          · skip
            refine lv_iconst (v := iI 1) hx hb dX4_alike_58 rfl ?_
            refine lv_goto (tgt := 63) hx hb dX4_alike_59 (by decide) ?_
            exact J63 1 (Or.inl ⟨rfl, fun j h1 h2 => by rcases hS9 with h | h; by_cases q : j = i; rw [q]; exact c55; exact h.2 j h1 (by omega); exact absurd h.1 (by omega)⟩) _ (lv_sub hl [0, 1, 2, 3, 4, 5] rfl)
  exact J6 ((d + 1 - 0 : Int).toNat.succ) 0 1 (by omega) (by omega) (Or.inl ⟨rfl, fun j h1 h2 => absurd h2 (by omega)⟩) _ (lv_sub hl [2, 3, 4, 5, 1, 0] rfl)

set_option maxHeartbeats 4000000 in
set_option maxRecDepth 100000 in
theorem r_drifts (l : Launch) (g : va_G) (k : kT) (y : Nat → Nat) (thr n pe dr lf rt ra dp ov bs bo mo su : Int) (B ss hs rc ch cs : Int → Int) (sz : Nat) (kk : Nat) (hk : 1 ≤ kk ∧ kk ≤ 300) (hc : okC cs) (hal : alive cs kk) (hRp : RpM cs kk ss hs rc ch) : cI l yX4_drifts wsX4_drifts rm_1 g k [yO y thr n (kk : Int) pe dr lf rt ra dp ov bs bo mo su, ((y 4), .inl (k.1, 620, .inl (iF (tpM (sT cs kk))))), ((y 5), .inl (k.1, 620, .inl (iF B))), ((y 6), .inl (k.1, 301, .inl (iF ss))), ((y 7), .inl (k.1, 301, .inl (iF hs))), ((y 8), .inl (k.1, 301, .inl (iF rc))), ((y 9), .inl (k.1, 301, .inl (iF ch)))] sz [.ref (y 0)] 0 0 (fun u : Int × Int × (Int → Int) => [yO y thr n (kk : Int) u.1 u.2.1 lf rt ra dp ov bs bo mo su, ((y 4), .inl (k.1, 620, .inl (iF (tpM (sT cs kk))))), ((y 5), .inl (k.1, 620, .inl (iF u.2.2))), ((y 6), .inl (k.1, 301, .inl (iF ss))), ((y 7), .inl (k.1, 301, .inl (iF hs))), ((y 8), .inl (k.1, 301, .inl (iF rc))), ((y 9), .inl (k.1, 301, .inl (iF ch)))]) (fun r u => (0 ≤ drA cs kk ∧ r = iI 1 ∧ u.1 = (kk : Int) - drA cs kk ∧ u.2.1 = sH cs kk - sH cs (drA cs kk).toNat) ∨ (drA cs kk = -1 ∧ r = iI 0 ∧ u.1 = pe ∧ u.2.1 = dr)) := by
  refine st_ZI (by decide) rfl (Nat.le_of_ble_eq_true rfl) ?_
  intro p e s m below meth c Q A hx hb hml hown hts hA hP hD hS hK hret ls hl
  have hown : s.vm.findClass RX4 = some m.cls := hown
  have f31 := hts (.fieldLink RX4 31 "MachineTreeModel" "records" "[I") (by decide +kernel)
  have inX4 := (by decide +kernel : ∀ w ∈ wsX40, w ∈ wsX4_drifts)
  have f70 := hts (.fieldLink RX4 70 "MachineTreeModel" "steps" "I") (by decide +kernel)
  have f28 := hts (.fieldLink RX4 28 "MachineTreeModel" "heads" "[I") (by decide +kernel)
  have f34 := hts (.fieldLink RX4 34 "MachineTreeModel" "changed" "[I") (by decide +kernel)
  have f25 := hts (.fieldLink RX4 25 "MachineTreeModel" "states" "[I") (by decide +kernel)
  have f73 := hts (.fieldLink RX4 73 "MachineTreeModel" "period" "I") (by decide +kernel)
  have f76 := hts (.fieldLink RX4 76 "MachineTreeModel" "drift" "I") (by decide +kernel)
  have f22 := hts (.fieldLink RX4 22 "MachineTreeModel" "back" "[I") (by decide +kernel)
  have f19 := hts (.fieldLink RX4 19 "MachineTreeModel" "tape" "[I") (by decide +kernel)
  have hl : lv_has ls 5 [(0, .ref (y 0))] := hl
  obtain ⟨H, hH⟩ : ∃ H, H = s.heap := ⟨_, rfl⟩
  obtain ⟨locs, hlo⟩ : ∃ L : List Loc, L = [] := ⟨_, rfl⟩
  rw [← hH] at hP
  have hS : va_S A s.heap H locs := by rw [hH, hlo]; exact hS
  rw [show W p l e rm_1 s m ([.ref (y 0)] : List Value).toArray below meth c s.heap [] 0 0 Q (F0 m 0 ls []) = W p l e rm_1 s m ([.ref (y 0)] : List Value).toArray below meth c H locs 0 0 Q (F0 m 0 ls []) by rw [hH, hlo]]
  clear hH hlo
  have rk := hRp kk (Nat.le_refl kk)
  have r0 := sR_b cs kk
  have b2 := sH_b cs kk
  have b3 := sS_b hc kk hal
  refine lv_aload_n hx hb dX4_drifts_0 rfl (lv_at hl 0 rfl) ?_
  refine va_get (D := g) (ci := 4) (v := .ref (y 8)) (C := RX4) (T := TX4) (N := 28) hx hb hts inX4 hown hK.1 hP 0 rfl rfl 9 (by decide) f31 (fun _ h9 => h9) rfl dX4_drifts_1 ?_
  refine lv_aload_n hx hb dX4_drifts_4 rfl (lv_at hl 0 rfl) ?_
  refine va_get (D := g) (ci := 4) (v := .int (iI (kk : Int))) (C := RX4) (T := TX4) (N := 28) hx hb hts inX4 hown hK.1 hP 0 rfl rfl 11 (by decide) f70 (fun _ h9 => h9) rfl dX4_drifts_5 ?_
  refine ri_iald (F := rc) (i := (kk : Int)) hx hb hK.1 hP 5 0 rfl rfl (by omega) (by omega) dX4_drifts_8 ?_
  refine ri_ex (b := (sR cs kk)) rk.2.2.1 ?_
  refine lv_istore_n (lv' := [(1, .int (iI (sR cs kk))), (0, .ref (y 0))]) hx hb dX4_drifts_9 rfl hl (by decide) rfl (fun ls hl => ?_)
  refine lv_iload_n hx hb dX4_drifts_10 rfl (lv_at hl 0 rfl) ?_
  refine ri_if_ne (a := (sR cs kk)) (tgt := 16) hx hb (by omega) dX4_drifts_11 (by decide) (fun c11 => ?_) (fun c11 => ?_)
  · skip
    have hd9 : sR cs kk = 1 ∨ sR cs kk = -1 := by omega
    refine lv_iconst (v := iI 0) hx hb dX4_drifts_16 rfl ?_
    refine lv_istore_n (lv' := [(2, .int (iI 0)), (1, .int (iI (sR cs kk))), (0, .ref (y 0))]) hx hb dX4_drifts_17 rfl hl (by decide) rfl (fun ls hl => ?_)
    have J18 : ∀ (n9 : Nat) (i : Int) (B : Int → Int), 620 - i < (n9 : Int) → (0 ≤ i ∧ i ≤ 620) → (∀ j : Int, 0 ≤ j → j < i → B j = tpM (sT cs kk) j) → ∀ (ls : Array Slot), lv_has ls 5 [(0, .ref (y 0)), (1, .int (iI (sR cs kk))), (2, .int (iI i))] → ∀ (H : Heap) (locs : List Loc), va_P g vwCl [((y 0), .inr (4, [.int (iI thr), .int (iI n), .ref (y 1), .ref (y 2), .ref (y 3), .ref (y 4), .ref (y 5), .ref (y 6), .ref (y 7), .ref (y 8), .ref (y 9), .int (iI (kk : Int)), .int (iI pe), .int (iI dr), .int (iI lf), .int (iI rt), .int (iI ra), .ref (y 10), .ref (y 11), .int (iI dp), .ref (y 12), .ref (y 13), .int (iI ov), .ref (y 14), .int (iI bs), .int (iI bo), .int (iI mo), .int (iI su)])), ((y 4), .inl (k.1, 620, .inl (iF (tpM (sT cs kk))))), ((y 5), .inl (k.1, 620, .inl (iF B))), ((y 6), .inl (k.1, 301, .inl (iF ss))), ((y 7), .inl (k.1, 301, .inl (iF hs))), ((y 8), .inl (k.1, 301, .inl (iF rc))), ((y 9), .inl (k.1, 301, .inl (iF ch)))] H → va_D A [((y 0), .inr (4, [.int (iI thr), .int (iI n), .ref (y 1), .ref (y 2), .ref (y 3), .ref (y 4), .ref (y 5), .ref (y 6), .ref (y 7), .ref (y 8), .ref (y 9), .int (iI (kk : Int)), .int (iI pe), .int (iI dr), .int (iI lf), .int (iI rt), .int (iI ra), .ref (y 10), .ref (y 11), .int (iI dp), .ref (y 12), .ref (y 13), .int (iI ov), .ref (y 14), .int (iI bs), .int (iI bo), .int (iI mo), .int (iI su)])), ((y 4), .inl (k.1, 620, .inl (iF (tpM (sT cs kk))))), ((y 5), .inl (k.1, 620, .inl (iF B))), ((y 6), .inl (k.1, 301, .inl (iF ss))), ((y 7), .inl (k.1, 301, .inl (iF hs))), ((y 8), .inl (k.1, 301, .inl (iF rc))), ((y 9), .inl (k.1, 301, .inl (iF ch)))] → va_S A s.heap H locs → W p l e rm_1 s m ([.ref (y 0)] : List Value).toArray below meth c H locs 0 0 Q (F0 m 18 ls []) := by
      intro n9
      induction n9 with
      | zero => intro i B hm9 hi hG; exact absurd hm9 (by omega)
      | succ n9 ih =>
        intro i B hm9 hi hG ls hl H locs hP hD hS
        refine lv_iload_n hx hb dX4_drifts_18 rfl (lv_at hl 2 rfl) ?_
        refine lv_sipush (v := iI 620) hx hb dX4_drifts_19 (by decide) ?_
        refine ri_icmp_ge (a := i) (b := 620) (tgt := 43) hx hb (by omega) (by omega) dX4_drifts_22 (by decide) (fun c22 => ?_) (fun c22 => ?_)
        · skip
          refine lv_aload_n hx hb dX4_drifts_43 rfl (lv_at hl 0 rfl) ?_
          refine va_get (D := g) (ci := 4) (v := .ref (y 7)) (C := RX4) (T := TX4) (N := 28) hx hb hts inX4 hown hK.1 hP 0 rfl rfl 8 (by decide) f28 (fun _ h9 => h9) rfl dX4_drifts_44 ?_
          refine lv_aload_n hx hb dX4_drifts_47 rfl (lv_at hl 0 rfl) ?_
          refine va_get (D := g) (ci := 4) (v := .int (iI (kk : Int))) (C := RX4) (T := TX4) (N := 28) hx hb hts inX4 hown hK.1 hP 0 rfl rfl 11 (by decide) f70 (fun _ h9 => h9) rfl dX4_drifts_48 ?_
          refine ri_iald (F := hs) (i := (kk : Int)) hx hb hK.1 hP 4 0 rfl rfl (by omega) (by omega) dX4_drifts_51 ?_
          refine ri_ex (b := (sH cs kk)) rk.2.1 ?_
          refine lv_iload_n hx hb dX4_drifts_52 rfl (lv_at hl 1 rfl) ?_
          refine ri_imul (a := (sH cs kk)) (b := (sR cs kk)) hx hb dX4_drifts_53 ?_
          refine ri_ex (b := (sR cs kk * sH cs kk)) (Int.mul_comm _ _) ?_
          refine lv_istore_n (lv' := [(2, .int (iI (sR cs kk * sH cs kk))), (0, .ref (y 0)), (1, .int (iI (sR cs kk)))]) hx hb dX4_drifts_54 rfl hl (by decide) rfl (fun ls hl => ?_)
          refine lv_aload_n hx hb dX4_drifts_55 rfl (lv_at hl 1 rfl) ?_
          refine va_get (D := g) (ci := 4) (v := .int (iI (kk : Int))) (C := RX4) (T := TX4) (N := 28) hx hb hts inX4 hown hK.1 hP 0 rfl rfl 11 (by decide) f70 (fun _ h9 => h9) rfl dX4_drifts_56 ?_
          refine lv_iconst (v := iI 1) hx hb dX4_drifts_59 rfl ?_
          refine ri_isub (a := (kk : Int)) (b := 1) hx hb dX4_drifts_60 ?_
          refine lv_istore_n (lv' := [(3, .int (iI ((kk : Int) - 1))), (2, .int (iI (sR cs kk * sH cs kk))), (0, .ref (y 0)), (1, .int (iI (sR cs kk)))]) hx hb dX4_drifts_61 rfl hl (by decide) rfl (fun ls hl => ?_)
          have J62 : ∀ (n9 : Nat) (q : Int) (x2 : Int), q + 1 < (n9 : Int) → (0 ≤ q ∧ q ≤ (kk : Int) - 1) → (x2 = far cs (sR cs kk) kk ((kk : Int) - 1 - q).toNat) → (lat (dri cs kk) kk = lat (dri cs kk) (q + 1).toNat) → ∀ (ls : Array Slot), lv_has ls 5 [(0, .ref (y 0)), (1, .int (iI (sR cs kk))), (2, .int (iI x2)), (3, .int (iI q))] → ∀ (H : Heap) (locs : List Loc), va_P g vwCl [((y 0), .inr (4, [.int (iI thr), .int (iI n), .ref (y 1), .ref (y 2), .ref (y 3), .ref (y 4), .ref (y 5), .ref (y 6), .ref (y 7), .ref (y 8), .ref (y 9), .int (iI (kk : Int)), .int (iI pe), .int (iI dr), .int (iI lf), .int (iI rt), .int (iI ra), .ref (y 10), .ref (y 11), .int (iI dp), .ref (y 12), .ref (y 13), .int (iI ov), .ref (y 14), .int (iI bs), .int (iI bo), .int (iI mo), .int (iI su)])), ((y 4), .inl (k.1, 620, .inl (iF (tpM (sT cs kk))))), ((y 5), .inl (k.1, 620, .inl (iF (tpM (sT cs (q + 1).toNat))))), ((y 6), .inl (k.1, 301, .inl (iF ss))), ((y 7), .inl (k.1, 301, .inl (iF hs))), ((y 8), .inl (k.1, 301, .inl (iF rc))), ((y 9), .inl (k.1, 301, .inl (iF ch)))] H → va_D A [((y 0), .inr (4, [.int (iI thr), .int (iI n), .ref (y 1), .ref (y 2), .ref (y 3), .ref (y 4), .ref (y 5), .ref (y 6), .ref (y 7), .ref (y 8), .ref (y 9), .int (iI (kk : Int)), .int (iI pe), .int (iI dr), .int (iI lf), .int (iI rt), .int (iI ra), .ref (y 10), .ref (y 11), .int (iI dp), .ref (y 12), .ref (y 13), .int (iI ov), .ref (y 14), .int (iI bs), .int (iI bo), .int (iI mo), .int (iI su)])), ((y 4), .inl (k.1, 620, .inl (iF (tpM (sT cs kk))))), ((y 5), .inl (k.1, 620, .inl (iF (tpM (sT cs (q + 1).toNat))))), ((y 6), .inl (k.1, 301, .inl (iF ss))), ((y 7), .inl (k.1, 301, .inl (iF hs))), ((y 8), .inl (k.1, 301, .inl (iF rc))), ((y 9), .inl (k.1, 301, .inl (iF ch)))] → va_S A s.heap H locs → W p l e rm_1 s m ([.ref (y 0)] : List Value).toArray below meth c H locs 0 0 Q (F0 m 62 ls []) := by
            intro n9
            induction n9 with
            | zero => intro q x2 hm9 hi hx2 hl9; exact absurd hm9 (by omega)
            | succ n9 ih =>
              intro q x2 hm9 hi hx2 hl9 ls hl H locs hP hD hS
              refine lv_iload_n hx hb dX4_drifts_62 rfl (lv_at hl 3 rfl) ?_
              refine ri_if_le (a := q) (tgt := 216) hx hb (by omega) dX4_drifts_63 (by decide) (fun c63 => ?_) (fun c63 => ?_)
              · skip
                refine lv_iconst (v := iI 0) hx hb dX4_drifts_216 rfl ?_
                exact hret 0 (pe, dr, tpM (sT cs (q + 1).toNat)) _ _ _ _ dX4_drifts_217 (by first | exact Or.inl rfl | exact Or.inr rfl | omega) (Or.inr ⟨by unfold drA; rw [if_neg c11, hl9, show (q + 1).toNat = 0 + 1 by omega, lat_n (fun w => absurd w.1 (by omega))]; rfl, rfl, rfl, rfl⟩) hP hD hS
              · skip
                have h4 := hRp q.toNat (by omega)
                rw [Int.toNat_of_nonneg (by omega : 0 ≤ q)] at h4
                have h5 := (hRp (q.toNat + 1) (by omega)).2.2.2 q.toNat rfl
                have b1 := sH_b cs q.toNat
                have b4 := sS_b hc q.toNat (fun j hj => hal j (by omega))
                have b9 : chG cs q.toNat = 0 ∨ chG cs q.toNat = 311 + sH cs q.toNat := by unfold chG; split <;> simp
                have r1 := sR_b cs q.toNat
                have f9 := far_b cs (sR cs kk) hd9 kk ((kk : Int) - 1 - q).toNat
                have hm : (sR cs kk = 1 ∧ sR cs kk * sH cs q.toNat = sH cs q.toNat) ∨ (sR cs kk = -1 ∧ sR cs kk * sH cs q.toNat = -sH cs q.toNat) := by rcases hd9 with e | e <;> rw [e] <;> omega
                have hfar : far cs (sR cs kk) kk (kk - q.toNat) = min x2 (sR cs kk * sH cs q.toNat) := by rw [show kk - q.toNat = ((kk : Int) - 1 - (q + -1)).toNat by omega, far_s (by omega) (by omega), hx2]
                have s9 := sR_rec cs (k := kk) (q := q.toNat) (by omega)
                refine lv_aload_n hx hb dX4_drifts_66 rfl (lv_at hl 0 rfl) ?_
                refine va_get (D := g) (ci := 4) (v := .ref (y 9)) (C := RX4) (T := TX4) (N := 28) hx hb hts inX4 hown hK.1 hP 0 rfl rfl 10 (by decide) f34 (fun _ h9 => h9) rfl dX4_drifts_67 ?_
                refine lv_iload_n hx hb dX4_drifts_70 rfl (lv_at hl 3 rfl) ?_
                refine lv_iconst (v := iI 1) hx hb dX4_drifts_71 rfl ?_
                refine ri_iadd (a := q) (b := 1) hx hb dX4_drifts_72 ?_
                refine ri_iald (F := ch) (i := (q + 1)) hx hb hK.1 hP 6 0 rfl rfl (by omega) (by omega) dX4_drifts_73 ?_
                refine ri_ex (b := (chG cs q.toNat)) (by rw [show q + 1 = ((q.toNat + 1 : Nat) : Int) by omega]; exact h5) ?_
                refine lv_istore (lv' := [(4, .int (iI (chG cs q.toNat))), (0, .ref (y 0)), (1, .int (iI (sR cs kk))), (2, .int (iI x2)), (3, .int (iI q))]) hx hb dX4_drifts_74 hl (by decide) rfl (fun ls hl => ?_)
                have J101 : ∀ (ls : Array Slot), lv_has ls 5 [(0, .ref (y 0)), (1, .int (iI (sR cs kk))), (2, .int (iI x2)), (3, .int (iI q))] → ∀ (H : Heap) (locs : List Loc), va_P g vwCl [((y 0), .inr (4, [.int (iI thr), .int (iI n), .ref (y 1), .ref (y 2), .ref (y 3), .ref (y 4), .ref (y 5), .ref (y 6), .ref (y 7), .ref (y 8), .ref (y 9), .int (iI (kk : Int)), .int (iI pe), .int (iI dr), .int (iI lf), .int (iI rt), .int (iI ra), .ref (y 10), .ref (y 11), .int (iI dp), .ref (y 12), .ref (y 13), .int (iI ov), .ref (y 14), .int (iI bs), .int (iI bo), .int (iI mo), .int (iI su)])), ((y 4), .inl (k.1, 620, .inl (iF (tpM (sT cs kk))))), ((y 5), .inl (k.1, 620, .inl (iF (tpM (sT cs q.toNat))))), ((y 6), .inl (k.1, 301, .inl (iF ss))), ((y 7), .inl (k.1, 301, .inl (iF hs))), ((y 8), .inl (k.1, 301, .inl (iF rc))), ((y 9), .inl (k.1, 301, .inl (iF ch)))] H → va_D A [((y 0), .inr (4, [.int (iI thr), .int (iI n), .ref (y 1), .ref (y 2), .ref (y 3), .ref (y 4), .ref (y 5), .ref (y 6), .ref (y 7), .ref (y 8), .ref (y 9), .int (iI (kk : Int)), .int (iI pe), .int (iI dr), .int (iI lf), .int (iI rt), .int (iI ra), .ref (y 10), .ref (y 11), .int (iI dp), .ref (y 12), .ref (y 13), .int (iI ov), .ref (y 14), .int (iI bs), .int (iI bo), .int (iI mo), .int (iI su)])), ((y 4), .inl (k.1, 620, .inl (iF (tpM (sT cs kk))))), ((y 5), .inl (k.1, 620, .inl (iF (tpM (sT cs q.toNat))))), ((y 6), .inl (k.1, 301, .inl (iF ss))), ((y 7), .inl (k.1, 301, .inl (iF hs))), ((y 8), .inl (k.1, 301, .inl (iF rc))), ((y 9), .inl (k.1, 301, .inl (iF ch)))] → va_S A s.heap H locs → W p l e rm_1 s m ([.ref (y 0)] : List Value).toArray below meth c H locs 0 0 Q (F0 m 101 ls []) := by
                  intro   ls hl H locs hP hD hS
                  have J125 : ∀ (x : Int),  (x = min x2 (sR cs kk * sH cs q.toNat)) → ∀ (ls : Array Slot), lv_has ls 5 [(0, .ref (y 0)), (1, .int (iI (sR cs kk))), (3, .int (iI q))] → W p l e rm_1 s m ([.ref (y 0)] : List Value).toArray below meth c H locs 0 0 Q (F0 m 125 ls [.int (iI x)]) := by
                    intro x hx8 ls hl
                    refine lv_istore_n (lv' := [(2, .int (iI x)), (0, .ref (y 0)), (1, .int (iI (sR cs kk))), (3, .int (iI q))]) hx hb dX4_drifts_125 rfl hl (by decide) rfl (fun ls hl => ?_)
                    refine lv_aload_n hx hb dX4_drifts_126 rfl (lv_at hl 1 rfl) ?_
                    refine va_get (D := g) (ci := 4) (v := .ref (y 8)) (C := RX4) (T := TX4) (N := 28) hx hb hts inX4 hown hK.1 hP 0 rfl rfl 9 (by decide) f31 (fun _ h9 => h9) rfl dX4_drifts_127 ?_
                    refine lv_iload_n hx hb dX4_drifts_130 rfl (lv_at hl 3 rfl) ?_
                    refine ri_iald (F := rc) (i := q) hx hb hK.1 hP 5 0 rfl rfl (by omega) (by omega) dX4_drifts_131 ?_
                    refine ri_ex (b := (sR cs q.toNat)) h4.2.2.1 ?_
                    refine lv_iload_n hx hb dX4_drifts_132 rfl (lv_at hl 2 rfl) ?_
                    refine ri_icmp_ne (a := (sR cs q.toNat)) (b := (sR cs kk)) (tgt := 210) hx hb (by omega) (by omega) dX4_drifts_133 (by decide) (fun c133 => ?_) (fun c133 => ?_)
                    · skip
                      have hl8 : lat (dri cs kk) kk = lat (dri cs kk) (q + -1 + 1).toNat := by rw [hl9]; exact lat_1 (by omega) (fun w => c133 w.2.1)
                      refine ri_iinc (x := q) (lv' := [(3, .int (iI (q + (-1)))), (2, .int (iI x)), (0, .ref (y 0)), (1, .int (iI (sR cs kk)))]) hx hb dX4_drifts_210 hl (k := 3) rfl (by decide) rfl (fun ls hl => ?_)
                      refine lv_goto (tgt := 62) hx hb dX4_drifts_213 (by decide) ?_
                      rw [show q.toNat = (q + -1 + 1).toNat by omega] at hP hD
                      exact ih (q + (-1)) x (by omega) (by omega) (by rw [far_s (by omega) (by omega), ← hx2, hx8]) hl8 _ (lv_sub hl [2, 3, 1, 0] rfl) _ _ hP hD hS
                    · skip
                      refine lv_aload_n hx hb dX4_drifts_136 rfl (lv_at hl 1 rfl) ?_
                      refine va_get (D := g) (ci := 4) (v := .ref (y 6)) (C := RX4) (T := TX4) (N := 28) hx hb hts inX4 hown hK.1 hP 0 rfl rfl 7 (by decide) f25 (fun _ h9 => h9) rfl dX4_drifts_137 ?_
                      refine lv_iload_n hx hb dX4_drifts_140 rfl (lv_at hl 3 rfl) ?_
                      refine ri_iald (F := ss) (i := q) hx hb hK.1 hP 3 0 rfl rfl (by omega) (by omega) dX4_drifts_141 ?_
                      refine ri_ex (b := (sS cs q.toNat)) h4.1 ?_
                      refine lv_aload_n hx hb dX4_drifts_142 rfl (lv_at hl 1 rfl) ?_
                      refine va_get (D := g) (ci := 4) (v := .ref (y 6)) (C := RX4) (T := TX4) (N := 28) hx hb hts inX4 hown hK.1 hP 0 rfl rfl 7 (by decide) f25 (fun _ h9 => h9) rfl dX4_drifts_143 ?_
                      refine lv_aload_n hx hb dX4_drifts_146 rfl (lv_at hl 1 rfl) ?_
                      refine va_get (D := g) (ci := 4) (v := .int (iI (kk : Int))) (C := RX4) (T := TX4) (N := 28) hx hb hts inX4 hown hK.1 hP 0 rfl rfl 11 (by decide) f70 (fun _ h9 => h9) rfl dX4_drifts_147 ?_
                      refine ri_iald (F := ss) (i := (kk : Int)) hx hb hK.1 hP 3 0 rfl rfl (by omega) (by omega) dX4_drifts_150 ?_
                      refine ri_ex (b := (sS cs kk)) rk.1 ?_
                      refine ri_icmp_ne (a := (sS cs q.toNat)) (b := (sS cs kk)) (tgt := 210) hx hb (by omega) (by omega) dX4_drifts_151 (by decide) (fun c151 => ?_) (fun c151 => ?_)
                      · skip
                        have hl8 : lat (dri cs kk) kk = lat (dri cs kk) (q + -1 + 1).toNat := by rw [hl9]; exact lat_1 (by omega) (fun w => c151 w.2.2.1)
                        refine ri_iinc (x := q) (lv' := [(3, .int (iI (q + (-1)))), (2, .int (iI x)), (0, .ref (y 0)), (1, .int (iI (sR cs kk)))]) hx hb dX4_drifts_210 hl (k := 3) rfl (by decide) rfl (fun ls hl => ?_)
                        refine lv_goto (tgt := 62) hx hb dX4_drifts_213 (by decide) ?_
                        rw [show q.toNat = (q + -1 + 1).toNat by omega] at hP hD
                        exact ih (q + (-1)) x (by omega) (by omega) (by rw [far_s (by omega) (by omega), ← hx2, hx8]) hl8 _ (lv_sub hl [2, 3, 1, 0] rfl) _ _ hP hD hS
                      · skip
                        have hr9 : ∀ j : Int, 0 ≤ j → j ≤ sR cs kk * sH cs q.toNat - x → 0 ≤ 310 + sH cs q.toNat - sR cs kk * j ∧ 310 + sH cs q.toNat - sR cs kk * j < 620 ∧ 0 ≤ 310 + sH cs kk - sR cs kk * j ∧ 310 + sH cs kk - sR cs kk * j < 620 := by
                          intro j h1 h2
                          have hm2 : (sR cs kk = 1 ∧ sR cs kk * j = j) ∨ (sR cs kk = -1 ∧ sR cs kk * j = -j) := by rcases hd9 with e | e <;> rw [e] <;> omega
                          rcases hm2 with ⟨a, b⟩ | ⟨a, b⟩
                          · have := s9.1 a; omega
                          · have := s9.2 a; omega
                        refine lv_aload_n hx hb dX4_drifts_154 rfl (lv_at hl 1 rfl) ?_
                        refine lv_iload_n hx hb dX4_drifts_155 rfl (lv_at hl 2 rfl) ?_
                        refine lv_aload_n hx hb dX4_drifts_156 rfl (lv_at hl 1 rfl) ?_
                        refine va_get (D := g) (ci := 4) (v := .ref (y 7)) (C := RX4) (T := TX4) (N := 28) hx hb hts inX4 hown hK.1 hP 0 rfl rfl 8 (by decide) f28 (fun _ h9 => h9) rfl dX4_drifts_157 ?_
                        refine lv_iload_n hx hb dX4_drifts_160 rfl (lv_at hl 3 rfl) ?_
                        refine ri_iald (F := hs) (i := q) hx hb hK.1 hP 4 0 rfl rfl (by omega) (by omega) dX4_drifts_161 ?_
                        refine ri_ex (b := (sH cs q.toNat)) h4.2.1 ?_
                        refine lv_aload_n hx hb dX4_drifts_162 rfl (lv_at hl 1 rfl) ?_
                        refine va_get (D := g) (ci := 4) (v := .ref (y 7)) (C := RX4) (T := TX4) (N := 28) hx hb hts inX4 hown hK.1 hP 0 rfl rfl 8 (by decide) f28 (fun _ h9 => h9) rfl dX4_drifts_163 ?_
                        refine lv_iload_n hx hb dX4_drifts_166 rfl (lv_at hl 3 rfl) ?_
                        refine ri_iald (F := hs) (i := q) hx hb hK.1 hP 4 0 rfl rfl (by omega) (by omega) dX4_drifts_167 ?_
                        refine ri_ex (b := (sH cs q.toNat)) h4.2.1 ?_
                        refine lv_iload_n hx hb dX4_drifts_168 rfl (lv_at hl 2 rfl) ?_
                        refine ri_imul (a := (sH cs q.toNat)) (b := (sR cs kk)) hx hb dX4_drifts_169 ?_
                        refine ri_ex (b := (sR cs kk * sH cs q.toNat)) (Int.mul_comm _ _) ?_
                        refine lv_iload_n hx hb dX4_drifts_170 rfl (lv_at hl 0 rfl) ?_
                        refine ri_isub (a := (sR cs kk * sH cs q.toNat)) (b := x) hx hb dX4_drifts_171 ?_
                        refine rc_P (own := RX4) (q := (RX4, TX4, 28)) (wc := [((y 0), .inr (4, [.int (iI thr), .int (iI n), .ref (y 1), .ref (y 2), .ref (y 3), .ref (y 4), .ref (y 5), .ref (y 6), .ref (y 7), .ref (y 8), .ref (y 9), .int (iI (kk : Int)), .int (iI pe), .int (iI dr), .int (iI lf), .int (iI rt), .int (iI ra), .ref (y 10), .ref (y 11), .int (iI dp), .ref (y 12), .ref (y 13), .int (iI ov), .ref (y 14), .int (iI bs), .int (iI bo), .int (iI mo), .int (iI su)])), ((y 4), .inl (k.1, 620, .inl (iF (tpM (sT cs kk))))), ((y 5), .inl (k.1, 620, .inl (iF (tpM (sT cs q.toNat))))), ((y 7), .inl (k.1, 301, .inl (iF hs)))]) (As := [.int (iI (sR cs kk)), .int (iI (sH cs q.toNat)), .int (iI ((sR cs kk * sH cs q.toNat) - x))]) (rest := []) ⟨hx, hb, hml, hown, hts⟩ (r_alike l g k y thr n pe dr lf rt ra dp ov bs bo mo su (tpM (sT cs kk)) (tpM (sT cs q.toNat)) hs kk (sR cs kk) (sH cs q.toNat) (sR cs kk * sH cs q.toNat - x) (sH cs kk) (by omega) (by omega) rk.2.1 (fun j => sT_01 cs kk _) (fun j => sT_01 cs _ _) hr9) (cwV 3 hts gX4_drifts_X4_alike rfl rfl rfl (by decide +kernel) ⟨Nat.le_of_ble_eq_true rfl, Nat.le_of_ble_eq_true rfl⟩) hK hP [0, 1, 2, 4] rfl (ci := 4) (q0 := 0) rfl rfl rfl rfl hl.1 (Nat.le_of_ble_eq_true rfl) ⟨Nat.le_of_ble_eq_true rfl, Nat.le_of_ble_eq_true rfl⟩ dX4_drifts_172 (fun r172 hr172 => ?_)
                        obtain ⟨v172, e172, h172⟩ := hr172
                        have hv172 : 0 ≤ v172 ∧ v172 ≤ 1 := by rcases h172 with ⟨h, -⟩ | ⟨h, -⟩ <;> omega
                        have hAA : (∀ j : Int, 0 ≤ j → j ≤ sR cs kk * sH cs q.toNat - x → tpM (sT cs q.toNat) (310 + sH cs q.toNat - sR cs kk * j) = tpM (sT cs kk) (310 + sH cs kk - sR cs kk * j)) ↔ (∀ j : Int, 0 ≤ j → j ≤ sR cs kk * sH cs q.toNat - far cs (sR cs kk) kk (kk - q.toNat) → sT cs q.toNat (sH cs q.toNat - sR cs kk * j) = sT cs kk (sH cs kk - sR cs kk * j)) := by
                          rw [hfar, ← hx8]
                          have e : ∀ (t : Int → Int) (a b : Int), tpM t (310 + a - b) = t (a - b) := fun t a b => by unfold tpM; congr 1; omega
                          simp only [e]
                        rw [hAA] at h172
                        refine ri_top (y := iI v172) e172 ?_
                        refine ri_if_eq (a := v172) (tgt := 210) hx hb (by omega) dX4_drifts_175 (by decide) (fun c175 => ?_) (fun c175 => ?_)
                        · skip
                          have hl8 : lat (dri cs kk) kk = lat (dri cs kk) (q + -1 + 1).toNat := by rw [hl9]; exact lat_1 (by omega) (fun w => by rcases h172 with ⟨e1, e2⟩ | ⟨e1, e2⟩; omega; exact e2 w.2.2.2)
                          refine ri_iinc (x := q) (lv' := [(3, .int (iI (q + (-1)))), (2, .int (iI x)), (0, .ref (y 0)), (1, .int (iI (sR cs kk)))]) hx hb dX4_drifts_210 hl (k := 3) rfl (by decide) rfl (fun ls hl => ?_)
                          refine lv_goto (tgt := 62) hx hb dX4_drifts_213 (by decide) ?_
                          rw [show q.toNat = (q + -1 + 1).toNat by omega] at hP hD
                          exact ih (q + (-1)) x (by omega) (by omega) (by rw [far_s (by omega) (by omega), ← hx2, hx8]) hl8 _ (lv_sub hl [2, 3, 1, 0] rfl) _ _ hP hD hS
                        · skip
                          have e9 : drA cs kk = q := by
                            unfold drA
                            rw [if_neg c11, hl9, lat_h (by omega) ⟨by omega, by omega, by omega, by rcases h172 with ⟨e1, e2⟩ | ⟨e1, e2⟩; exact e2; omega⟩]
                          refine lv_aload_n hx hb dX4_drifts_178 rfl (lv_at hl 1 rfl) ?_
                          refine lv_aload_n hx hb dX4_drifts_179 rfl (lv_at hl 1 rfl) ?_
                          refine va_get (D := g) (ci := 4) (v := .int (iI (kk : Int))) (C := RX4) (T := TX4) (N := 28) hx hb hts inX4 hown hK.1 hP 0 rfl rfl 11 (by decide) f70 (fun _ h9 => h9) rfl dX4_drifts_180 ?_
                          refine lv_iload_n hx hb dX4_drifts_183 rfl (lv_at hl 3 rfl) ?_
                          refine ri_isub (a := (kk : Int)) (b := q) hx hb dX4_drifts_184 ?_
                          refine va_put (D := g) (ci := 4) (v := .int (iI ((kk : Int) - q))) (ty := .int) (C := RX4) (T := TX4) (N := 28) hx hb hts inX4 tyX4 tyX4_ok nmX4 hown hK.1 hP hD hS 0 rfl rfl 12 (by decide) f73 (fun _ h9 => h9) rfl (by decide +kernel) rfl rfl (Nat.le_of_ble_eq_true rfl) dX4_drifts_185 (fun H locs hP hD hS => ?_)
                          have hP : va_P g vwCl [((y 0), .inr (4, [.int (iI thr), .int (iI n), .ref (y 1), .ref (y 2), .ref (y 3), .ref (y 4), .ref (y 5), .ref (y 6), .ref (y 7), .ref (y 8), .ref (y 9), .int (iI (kk : Int)), .int (iI ((kk : Int) - q)), .int (iI dr), .int (iI lf), .int (iI rt), .int (iI ra), .ref (y 10), .ref (y 11), .int (iI dp), .ref (y 12), .ref (y 13), .int (iI ov), .ref (y 14), .int (iI bs), .int (iI bo), .int (iI mo), .int (iI su)])), ((y 4), .inl (k.1, 620, .inl (iF (tpM (sT cs kk))))), ((y 5), .inl (k.1, 620, .inl (iF (tpM (sT cs q.toNat))))), ((y 6), .inl (k.1, 301, .inl (iF ss))), ((y 7), .inl (k.1, 301, .inl (iF hs))), ((y 8), .inl (k.1, 301, .inl (iF rc))), ((y 9), .inl (k.1, 301, .inl (iF ch)))] H := hP
                          have hD : va_D A [((y 0), .inr (4, [.int (iI thr), .int (iI n), .ref (y 1), .ref (y 2), .ref (y 3), .ref (y 4), .ref (y 5), .ref (y 6), .ref (y 7), .ref (y 8), .ref (y 9), .int (iI (kk : Int)), .int (iI ((kk : Int) - q)), .int (iI dr), .int (iI lf), .int (iI rt), .int (iI ra), .ref (y 10), .ref (y 11), .int (iI dp), .ref (y 12), .ref (y 13), .int (iI ov), .ref (y 14), .int (iI bs), .int (iI bo), .int (iI mo), .int (iI su)])), ((y 4), .inl (k.1, 620, .inl (iF (tpM (sT cs kk))))), ((y 5), .inl (k.1, 620, .inl (iF (tpM (sT cs q.toNat))))), ((y 6), .inl (k.1, 301, .inl (iF ss))), ((y 7), .inl (k.1, 301, .inl (iF hs))), ((y 8), .inl (k.1, 301, .inl (iF rc))), ((y 9), .inl (k.1, 301, .inl (iF ch)))] := hD
                          refine lv_aload_n hx hb dX4_drifts_188 rfl (lv_at hl 1 rfl) ?_
                          refine lv_aload_n hx hb dX4_drifts_189 rfl (lv_at hl 1 rfl) ?_
                          refine va_get (D := g) (ci := 4) (v := .ref (y 7)) (C := RX4) (T := TX4) (N := 28) hx hb hts inX4 hown hK.1 hP 0 rfl rfl 8 (by decide) f28 (fun _ h9 => h9) rfl dX4_drifts_190 ?_
                          refine lv_aload_n hx hb dX4_drifts_193 rfl (lv_at hl 1 rfl) ?_
                          refine va_get (D := g) (ci := 4) (v := .int (iI (kk : Int))) (C := RX4) (T := TX4) (N := 28) hx hb hts inX4 hown hK.1 hP 0 rfl rfl 11 (by decide) f70 (fun _ h9 => h9) rfl dX4_drifts_194 ?_
                          refine ri_iald (F := hs) (i := (kk : Int)) hx hb hK.1 hP 4 0 rfl rfl (by omega) (by omega) dX4_drifts_197 ?_
                          refine ri_ex (b := (sH cs kk)) rk.2.1 ?_
                          refine lv_aload_n hx hb dX4_drifts_198 rfl (lv_at hl 1 rfl) ?_
                          refine va_get (D := g) (ci := 4) (v := .ref (y 7)) (C := RX4) (T := TX4) (N := 28) hx hb hts inX4 hown hK.1 hP 0 rfl rfl 8 (by decide) f28 (fun _ h9 => h9) rfl dX4_drifts_199 ?_
                          refine lv_iload_n hx hb dX4_drifts_202 rfl (lv_at hl 3 rfl) ?_
                          refine ri_iald (F := hs) (i := q) hx hb hK.1 hP 4 0 rfl rfl (by omega) (by omega) dX4_drifts_203 ?_
                          refine ri_ex (b := (sH cs q.toNat)) h4.2.1 ?_
                          refine ri_isub (a := (sH cs kk)) (b := (sH cs q.toNat)) hx hb dX4_drifts_204 ?_
                          refine va_put (D := g) (ci := 4) (v := .int (iI ((sH cs kk) - (sH cs q.toNat)))) (ty := .int) (C := RX4) (T := TX4) (N := 28) hx hb hts inX4 tyX4 tyX4_ok nmX4 hown hK.1 hP hD hS 0 rfl rfl 13 (by decide) f76 (fun _ h9 => h9) rfl (by decide +kernel) rfl rfl (Nat.le_of_ble_eq_true rfl) dX4_drifts_205 (fun H locs hP hD hS => ?_)
                          have hP : va_P g vwCl [((y 0), .inr (4, [.int (iI thr), .int (iI n), .ref (y 1), .ref (y 2), .ref (y 3), .ref (y 4), .ref (y 5), .ref (y 6), .ref (y 7), .ref (y 8), .ref (y 9), .int (iI (kk : Int)), .int (iI ((kk : Int) - q)), .int (iI ((sH cs kk) - (sH cs q.toNat))), .int (iI lf), .int (iI rt), .int (iI ra), .ref (y 10), .ref (y 11), .int (iI dp), .ref (y 12), .ref (y 13), .int (iI ov), .ref (y 14), .int (iI bs), .int (iI bo), .int (iI mo), .int (iI su)])), ((y 4), .inl (k.1, 620, .inl (iF (tpM (sT cs kk))))), ((y 5), .inl (k.1, 620, .inl (iF (tpM (sT cs q.toNat))))), ((y 6), .inl (k.1, 301, .inl (iF ss))), ((y 7), .inl (k.1, 301, .inl (iF hs))), ((y 8), .inl (k.1, 301, .inl (iF rc))), ((y 9), .inl (k.1, 301, .inl (iF ch)))] H := hP
                          have hD : va_D A [((y 0), .inr (4, [.int (iI thr), .int (iI n), .ref (y 1), .ref (y 2), .ref (y 3), .ref (y 4), .ref (y 5), .ref (y 6), .ref (y 7), .ref (y 8), .ref (y 9), .int (iI (kk : Int)), .int (iI ((kk : Int) - q)), .int (iI ((sH cs kk) - (sH cs q.toNat))), .int (iI lf), .int (iI rt), .int (iI ra), .ref (y 10), .ref (y 11), .int (iI dp), .ref (y 12), .ref (y 13), .int (iI ov), .ref (y 14), .int (iI bs), .int (iI bo), .int (iI mo), .int (iI su)])), ((y 4), .inl (k.1, 620, .inl (iF (tpM (sT cs kk))))), ((y 5), .inl (k.1, 620, .inl (iF (tpM (sT cs q.toNat))))), ((y 6), .inl (k.1, 301, .inl (iF ss))), ((y 7), .inl (k.1, 301, .inl (iF hs))), ((y 8), .inl (k.1, 301, .inl (iF rc))), ((y 9), .inl (k.1, 301, .inl (iF ch)))] := hD
                          refine lv_iconst (v := iI 1) hx hb dX4_drifts_208 rfl ?_
                          exact hret 1 ((kk : Int) - q, sH cs kk - sH cs q.toNat, tpM (sT cs q.toNat)) _ _ _ _ dX4_drifts_209 (by first | exact Or.inl rfl | exact Or.inr rfl | omega) (Or.inl ⟨by omega, rfl, by show (kk : Int) - q = _; rw [e9], by show sH cs kk - sH cs q.toNat = _; rw [e9]⟩) hP hD hS
                  refine lv_aload_n hx hb dX4_drifts_101 rfl (lv_at hl 0 rfl) ?_
                  refine va_get (D := g) (ci := 4) (v := .ref (y 7)) (C := RX4) (T := TX4) (N := 28) hx hb hts inX4 hown hK.1 hP 0 rfl rfl 8 (by decide) f28 (fun _ h9 => h9) rfl dX4_drifts_102 ?_
                  refine lv_iload_n hx hb dX4_drifts_105 rfl (lv_at hl 3 rfl) ?_
                  refine ri_iald (F := hs) (i := q) hx hb hK.1 hP 4 0 rfl rfl (by omega) (by omega) dX4_drifts_106 ?_
                  refine ri_ex (b := (sH cs q.toNat)) h4.2.1 ?_
                  refine lv_iload_n hx hb dX4_drifts_107 rfl (lv_at hl 1 rfl) ?_
                  refine ri_imul (a := (sH cs q.toNat)) (b := (sR cs kk)) hx hb dX4_drifts_108 ?_
                  refine ri_ex (b := (sR cs kk * sH cs q.toNat)) (Int.mul_comm _ _) ?_
                  refine lv_iload_n hx hb dX4_drifts_109 rfl (lv_at hl 2 rfl) ?_
                  refine ri_icmp_ge (a := (sR cs kk * sH cs q.toNat)) (b := x2) (tgt := 124) hx hb (by omega) (by omega) dX4_drifts_110 (by decide) (fun c110 => ?_) (fun c110 => ?_)
                  · skip
                    refine lv_iload_n hx hb dX4_drifts_124 rfl (lv_at hl 2 rfl) ?_
                    exact J125 x2 (by omega) _ (lv_sub hl [0, 1, 3] rfl)
                  · skip
                    refine lv_aload_n hx hb dX4_drifts_113 rfl (lv_at hl 0 rfl) ?_
                    refine va_get (D := g) (ci := 4) (v := .ref (y 7)) (C := RX4) (T := TX4) (N := 28) hx hb hts inX4 hown hK.1 hP 0 rfl rfl 8 (by decide) f28 (fun _ h9 => h9) rfl dX4_drifts_114 ?_
                    refine lv_iload_n hx hb dX4_drifts_117 rfl (lv_at hl 3 rfl) ?_
                    refine ri_iald (F := hs) (i := q) hx hb hK.1 hP 4 0 rfl rfl (by omega) (by omega) dX4_drifts_118 ?_
                    refine ri_ex (b := (sH cs q.toNat)) h4.2.1 ?_
                    refine lv_iload_n hx hb dX4_drifts_119 rfl (lv_at hl 1 rfl) ?_
                    refine ri_imul (a := (sH cs q.toNat)) (b := (sR cs kk)) hx hb dX4_drifts_120 ?_
                    refine ri_ex (b := (sR cs kk * sH cs q.toNat)) (Int.mul_comm _ _) ?_
                    refine lv_goto (tgt := 125) hx hb dX4_drifts_121 (by decide) ?_
                    exact J125 (sR cs kk * sH cs q.toNat) (by omega) _ (lv_sub hl [0, 1, 3] rfl)
                refine lv_iload hx hb dX4_drifts_76 (lv_at hl 0 rfl) ?_
                refine ri_if_le (a := (chG cs q.toNat)) (tgt := 101) hx hb (by omega) dX4_drifts_78 (by decide) (fun c78 => ?_) (fun c78 => ?_)
                · skip
                  obtain ⟨hP, hD⟩ := P_reI (i := 2) (F' := tpM (sT cs q.toNat)) hP hD rfl (fun j h1 h2 => by show sT cs (q + 1).toNat (j - 310) = sT cs q.toNat (j - 310); rw [sT_back cs q.toNat j (by omega) (by omega), if_pos (by omega), show q.toNat + 1 = (q + 1).toNat by omega])
                  exact J101   _ (lv_sub hl [1, 2, 3, 4] rfl) _ _ hP hD hS
                · skip
                  have hB9 : ∀ j : Int, 0 ≤ j → j < (620 : Nat) → up (tpM (sT cs (q + 1).toNat)) (chG cs q.toNat - 1) (1 - tpM (sT cs (q + 1).toNat) (chG cs q.toNat - 1)) j = tpM (sT cs q.toNat) j := fun j h1 h2 => by
                    show _ = sT cs q.toNat (j - 310)
                    rw [sT_back cs q.toNat j (by omega) (by omega), if_neg (by omega), show q.toNat + 1 = (q + 1).toNat by omega]
                    by_cases w : j = chG cs q.toNat - 1
                    · rw [w, up_s, if_pos rfl]; rfl
                    · rw [up_n w, if_neg w]; rfl
                  refine lv_aload_n hx hb dX4_drifts_81 rfl (lv_at hl 1 rfl) ?_
                  refine va_get (D := g) (ci := 4) (v := .ref (y 5)) (C := RX4) (T := TX4) (N := 28) hx hb hts inX4 hown hK.1 hP 0 rfl rfl 6 (by decide) f22 (fun _ h9 => h9) rfl dX4_drifts_82 ?_
                  refine lv_iload hx hb dX4_drifts_85 (lv_at hl 0 rfl) ?_
                  refine lv_iconst (v := iI 1) hx hb dX4_drifts_87 rfl ?_
                  refine ri_isub (a := (chG cs q.toNat)) (b := 1) hx hb dX4_drifts_88 ?_
                  refine lv_iconst (v := iI 1) hx hb dX4_drifts_89 rfl ?_
                  refine lv_aload_n hx hb dX4_drifts_90 rfl (lv_at hl 1 rfl) ?_
                  refine va_get (D := g) (ci := 4) (v := .ref (y 5)) (C := RX4) (T := TX4) (N := 28) hx hb hts inX4 hown hK.1 hP 0 rfl rfl 6 (by decide) f22 (fun _ h9 => h9) rfl dX4_drifts_91 ?_
                  refine lv_iload hx hb dX4_drifts_94 (lv_at hl 0 rfl) ?_
                  refine lv_iconst (v := iI 1) hx hb dX4_drifts_96 rfl ?_
                  refine ri_isub (a := (chG cs q.toNat)) (b := 1) hx hb dX4_drifts_97 ?_
                  refine ri_iald (F := (tpM (sT cs (q + 1).toNat))) (i := ((chG cs q.toNat) - 1)) hx hb hK.1 hP 2 0 rfl rfl (by omega) (by omega) dX4_drifts_98 ?_
                  refine ri_isub (a := 1) (b := ((tpM (sT cs (q + 1).toNat)) ((chG cs q.toNat) - 1))) hx hb dX4_drifts_99 ?_
                  refine ri_iast (F := (tpM (sT cs (q + 1).toNat))) (i := ((chG cs q.toNat) - 1)) (x := (1 - ((tpM (sT cs (q + 1).toNat)) ((chG cs q.toNat) - 1)))) hx hb hK.1 hP hD hS 2 0 rfl rfl (by omega) (by omega) dX4_drifts_100 (fun H locs hP hD hS => ?_)
                  have hP : va_P g vwCl [((y 0), .inr (4, [.int (iI thr), .int (iI n), .ref (y 1), .ref (y 2), .ref (y 3), .ref (y 4), .ref (y 5), .ref (y 6), .ref (y 7), .ref (y 8), .ref (y 9), .int (iI (kk : Int)), .int (iI pe), .int (iI dr), .int (iI lf), .int (iI rt), .int (iI ra), .ref (y 10), .ref (y 11), .int (iI dp), .ref (y 12), .ref (y 13), .int (iI ov), .ref (y 14), .int (iI bs), .int (iI bo), .int (iI mo), .int (iI su)])), ((y 4), .inl (k.1, 620, .inl (iF (tpM (sT cs kk))))), ((y 5), .inl (k.1, 620, .inl (iF (up (tpM (sT cs (q + 1).toNat)) ((chG cs q.toNat) - 1) (1 - ((tpM (sT cs (q + 1).toNat)) ((chG cs q.toNat) - 1))))))), ((y 6), .inl (k.1, 301, .inl (iF ss))), ((y 7), .inl (k.1, 301, .inl (iF hs))), ((y 8), .inl (k.1, 301, .inl (iF rc))), ((y 9), .inl (k.1, 301, .inl (iF ch)))] H := hP
                  have hD : va_D A [((y 0), .inr (4, [.int (iI thr), .int (iI n), .ref (y 1), .ref (y 2), .ref (y 3), .ref (y 4), .ref (y 5), .ref (y 6), .ref (y 7), .ref (y 8), .ref (y 9), .int (iI (kk : Int)), .int (iI pe), .int (iI dr), .int (iI lf), .int (iI rt), .int (iI ra), .ref (y 10), .ref (y 11), .int (iI dp), .ref (y 12), .ref (y 13), .int (iI ov), .ref (y 14), .int (iI bs), .int (iI bo), .int (iI mo), .int (iI su)])), ((y 4), .inl (k.1, 620, .inl (iF (tpM (sT cs kk))))), ((y 5), .inl (k.1, 620, .inl (iF (up (tpM (sT cs (q + 1).toNat)) ((chG cs q.toNat) - 1) (1 - ((tpM (sT cs (q + 1).toNat)) ((chG cs q.toNat) - 1))))))), ((y 6), .inl (k.1, 301, .inl (iF ss))), ((y 7), .inl (k.1, 301, .inl (iF hs))), ((y 8), .inl (k.1, 301, .inl (iF rc))), ((y 9), .inl (k.1, 301, .inl (iF ch)))] := hD
                  obtain ⟨hP, hD⟩ := P_reI (i := 2) (F' := tpM (sT cs q.toNat)) hP hD rfl hB9
                  exact J101   _ (lv_sub hl [1, 2, 3, 4] rfl) _ _ hP hD hS
          obtain ⟨hP, hD⟩ := P_reI (i := 2) (F' := tpM (sT cs ((kk : Int) - 1 + 1).toNat)) hP hD rfl (fun j h1 h2 => by rw [show ((kk : Int) - 1 + 1).toNat = kk by omega]; exact hG j h1 (by omega))
          exact J62 ((((kk : Int) - 1) + 1 : Int).toNat.succ) ((kk : Int) - 1) (sR cs kk * sH cs kk) (by omega) (by omega) (by rw [show ((kk : Int) - 1 - ((kk : Int) - 1)).toNat = 0 by omega]; rfl) (by rw [show ((kk : Int) - 1 + 1).toNat = kk by omega]) _ (lv_sub hl [2, 3, 1, 0] rfl) _ _ hP hD hS
        · skip
          refine lv_aload_n hx hb dX4_drifts_25 rfl (lv_at hl 0 rfl) ?_
          refine va_get (D := g) (ci := 4) (v := .ref (y 5)) (C := RX4) (T := TX4) (N := 28) hx hb hts inX4 hown hK.1 hP 0 rfl rfl 6 (by decide) f22 (fun _ h9 => h9) rfl dX4_drifts_26 ?_
          refine lv_iload_n hx hb dX4_drifts_29 rfl (lv_at hl 2 rfl) ?_
          refine lv_aload_n hx hb dX4_drifts_30 rfl (lv_at hl 0 rfl) ?_
          refine va_get (D := g) (ci := 4) (v := .ref (y 4)) (C := RX4) (T := TX4) (N := 28) hx hb hts inX4 hown hK.1 hP 0 rfl rfl 5 (by decide) f19 (fun _ h9 => h9) rfl dX4_drifts_31 ?_
          refine lv_iload_n hx hb dX4_drifts_34 rfl (lv_at hl 2 rfl) ?_
          refine ri_iald (F := (tpM (sT cs kk))) (i := i) hx hb hK.1 hP 1 0 rfl rfl (by omega) (by omega) dX4_drifts_35 ?_
          refine ri_iast (F := B) (i := i) (x := ((tpM (sT cs kk)) i)) hx hb hK.1 hP hD hS 2 0 rfl rfl (by omega) (by omega) dX4_drifts_36 (fun H locs hP hD hS => ?_)
          have hP : va_P g vwCl [((y 0), .inr (4, [.int (iI thr), .int (iI n), .ref (y 1), .ref (y 2), .ref (y 3), .ref (y 4), .ref (y 5), .ref (y 6), .ref (y 7), .ref (y 8), .ref (y 9), .int (iI (kk : Int)), .int (iI pe), .int (iI dr), .int (iI lf), .int (iI rt), .int (iI ra), .ref (y 10), .ref (y 11), .int (iI dp), .ref (y 12), .ref (y 13), .int (iI ov), .ref (y 14), .int (iI bs), .int (iI bo), .int (iI mo), .int (iI su)])), ((y 4), .inl (k.1, 620, .inl (iF (tpM (sT cs kk))))), ((y 5), .inl (k.1, 620, .inl (iF (up B i ((tpM (sT cs kk)) i))))), ((y 6), .inl (k.1, 301, .inl (iF ss))), ((y 7), .inl (k.1, 301, .inl (iF hs))), ((y 8), .inl (k.1, 301, .inl (iF rc))), ((y 9), .inl (k.1, 301, .inl (iF ch)))] H := hP
          have hD : va_D A [((y 0), .inr (4, [.int (iI thr), .int (iI n), .ref (y 1), .ref (y 2), .ref (y 3), .ref (y 4), .ref (y 5), .ref (y 6), .ref (y 7), .ref (y 8), .ref (y 9), .int (iI (kk : Int)), .int (iI pe), .int (iI dr), .int (iI lf), .int (iI rt), .int (iI ra), .ref (y 10), .ref (y 11), .int (iI dp), .ref (y 12), .ref (y 13), .int (iI ov), .ref (y 14), .int (iI bs), .int (iI bo), .int (iI mo), .int (iI su)])), ((y 4), .inl (k.1, 620, .inl (iF (tpM (sT cs kk))))), ((y 5), .inl (k.1, 620, .inl (iF (up B i ((tpM (sT cs kk)) i))))), ((y 6), .inl (k.1, 301, .inl (iF ss))), ((y 7), .inl (k.1, 301, .inl (iF hs))), ((y 8), .inl (k.1, 301, .inl (iF rc))), ((y 9), .inl (k.1, 301, .inl (iF ch)))] := hD
          refine ri_iinc (x := i) (lv' := [(2, .int (iI (i + 1))), (0, .ref (y 0)), (1, .int (iI (sR cs kk)))]) hx hb dX4_drifts_37 hl (k := 2) rfl (by decide) rfl (fun ls hl => ?_)
          refine lv_goto (tgt := 18) hx hb dX4_drifts_40 (by decide) ?_
          exact ih (i + 1) (up B i ((tpM (sT cs kk)) i)) (by omega) (by omega) (fun j h1 h2 => by by_cases q : j = i; rw [q, up_s]; rw [up_n q]; exact hG j h1 (by omega)) _ (lv_sub hl [1, 2, 0] rfl) _ _ hP hD hS
    exact J18 ((620 - 0 : Int).toNat.succ) 0 B (by omega) (by omega) (fun j h1 h2 => absurd h2 (by omega)) _ (lv_sub hl [2, 1, 0] rfl) _ _ hP hD hS
  · skip
    refine lv_iconst (v := iI 0) hx hb dX4_drifts_14 rfl ?_
    exact hret 0 (pe, dr, B) _ _ _ _ dX4_drifts_15 (by first | exact Or.inl rfl | exact Or.inr rfl | omega) (Or.inr ⟨by unfold drA; rw [if_pos c11], rfl, rfl, rfl⟩) hP hD hS

