/-! THE REFERENCE: cycles -/
set_option maxHeartbeats 4000000 in
set_option maxRecDepth 100000 in
theorem r_cycles (l : Launch) (g : va_G) (k : kT) (y : Nat → Nat) (thr n pe dr lf rt ra dp ov bs bo mo su : Int) (B ss hs rc ch cs : Int → Int) (sz : Nat) (kk : Nat) (hk : 1 ≤ kk ∧ kk ≤ 300) (hc : okC cs) (hal : alive cs kk) (hRp : RpM cs kk ss hs rc ch) : cI l yX4_cycles wsX4_cycles rm_0 g k [yO y thr n (kk : Int) pe dr lf rt ra dp ov bs bo mo su, ((y 5), .inl (k.1, 620, .inl (iF B))), ((y 6), .inl (k.1, 301, .inl (iF ss))), ((y 7), .inl (k.1, 301, .inl (iF hs))), ((y 9), .inl (k.1, 301, .inl (iF ch)))] sz [.ref (y 0)] 0 0 (fun u : Int × (Int → Int) => [yO y thr n (kk : Int) u.1 dr lf rt ra dp ov bs bo mo su, ((y 5), .inl (k.1, 620, .inl (iF u.2))), ((y 6), .inl (k.1, 301, .inl (iF ss))), ((y 7), .inl (k.1, 301, .inl (iF hs))), ((y 9), .inl (k.1, 301, .inl (iF ch)))]) (fun r u => (0 ≤ cyA cs kk ∧ r = iI 1 ∧ u.1 = (kk : Int) - cyA cs kk) ∨ (cyA cs kk = -1 ∧ r = iI 0 ∧ u.1 = pe)) := by
  refine st_ZI (by decide) rfl (Nat.le_of_ble_eq_true rfl) ?_
  intro p e s m below meth c Q A hx hb hml hown hts hA hP hD hS hK hret ls hl
  have hown : s.vm.findClass RX4 = some m.cls := hown
  have f70 := hts (.fieldLink RX4 70 "MachineTreeModel" "steps" "I") (by decide +kernel)
  have inX4 := (by decide +kernel : ∀ w ∈ wsX40, w ∈ wsX4_cycles)
  have f34 := hts (.fieldLink RX4 34 "MachineTreeModel" "changed" "[I") (by decide +kernel)
  have f25 := hts (.fieldLink RX4 25 "MachineTreeModel" "states" "[I") (by decide +kernel)
  have f28 := hts (.fieldLink RX4 28 "MachineTreeModel" "heads" "[I") (by decide +kernel)
  have f73 := hts (.fieldLink RX4 73 "MachineTreeModel" "period" "I") (by decide +kernel)
  have f22 := hts (.fieldLink RX4 22 "MachineTreeModel" "back" "[I") (by decide +kernel)
  have hl : lv_has ls 4 [(0, .ref (y 0))] := hl
  obtain ⟨H, hH⟩ : ∃ H, H = s.heap := ⟨_, rfl⟩
  obtain ⟨locs, hlo⟩ : ∃ L : List Loc, L = [] := ⟨_, rfl⟩
  rw [← hH] at hP
  have hS : va_S A s.heap H locs := by rw [hH, hlo]; exact hS
  rw [show W p l e rm_0 s m ([.ref (y 0)] : List Value).toArray below meth c s.heap [] 0 0 Q (F0 m 0 ls []) = W p l e rm_0 s m ([.ref (y 0)] : List Value).toArray below meth c H locs 0 0 Q (F0 m 0 ls []) by rw [hH, hlo]]
  clear hH hlo
  have rk := hRp kk (Nat.le_refl kk)
  refine lv_iconst (v := iI 0) hx hb dX4_cycles_0 rfl ?_
  refine lv_istore_n (lv' := [(1, .int (iI 0)), (0, .ref (y 0))]) hx hb dX4_cycles_1 rfl hl (by decide) rfl (fun ls hl => ?_)
  refine lv_iconst (v := iI 0) hx hb dX4_cycles_2 rfl ?_
  refine lv_istore_n (lv' := [(2, .int (iI 0)), (1, .int (iI 0)), (0, .ref (y 0))]) hx hb dX4_cycles_3 rfl hl (by decide) rfl (fun ls hl => ?_)
  have J4 : ∀ (n9 : Nat) (i : Int) (B : Int → Int), 620 - i < (n9 : Int) → (0 ≤ i ∧ i ≤ 620) → (∀ j : Int, 0 ≤ j → j < i → B j = 0) → ∀ (ls : Array Slot), lv_has ls 4 [(0, .ref (y 0)), (1, .int (iI 0)), (2, .int (iI i))] → ∀ (H : Heap) (locs : List Loc), va_P g vwCl [((y 0), .inr (4, [.int (iI thr), .int (iI n), .ref (y 1), .ref (y 2), .ref (y 3), .ref (y 4), .ref (y 5), .ref (y 6), .ref (y 7), .ref (y 8), .ref (y 9), .int (iI (kk : Int)), .int (iI pe), .int (iI dr), .int (iI lf), .int (iI rt), .int (iI ra), .ref (y 10), .ref (y 11), .int (iI dp), .ref (y 12), .ref (y 13), .int (iI ov), .ref (y 14), .int (iI bs), .int (iI bo), .int (iI mo), .int (iI su)])), ((y 5), .inl (k.1, 620, .inl (iF B))), ((y 6), .inl (k.1, 301, .inl (iF ss))), ((y 7), .inl (k.1, 301, .inl (iF hs))), ((y 9), .inl (k.1, 301, .inl (iF ch)))] H → va_D A [((y 0), .inr (4, [.int (iI thr), .int (iI n), .ref (y 1), .ref (y 2), .ref (y 3), .ref (y 4), .ref (y 5), .ref (y 6), .ref (y 7), .ref (y 8), .ref (y 9), .int (iI (kk : Int)), .int (iI pe), .int (iI dr), .int (iI lf), .int (iI rt), .int (iI ra), .ref (y 10), .ref (y 11), .int (iI dp), .ref (y 12), .ref (y 13), .int (iI ov), .ref (y 14), .int (iI bs), .int (iI bo), .int (iI mo), .int (iI su)])), ((y 5), .inl (k.1, 620, .inl (iF B))), ((y 6), .inl (k.1, 301, .inl (iF ss))), ((y 7), .inl (k.1, 301, .inl (iF hs))), ((y 9), .inl (k.1, 301, .inl (iF ch)))] → va_S A s.heap H locs → W p l e rm_0 s m ([.ref (y 0)] : List Value).toArray below meth c H locs 0 0 Q (F0 m 4 ls []) := by
    intro n9
    induction n9 with
    | zero => intro i B hm9 hi hG; exact absurd hm9 (by omega)
    | succ n9 ih =>
      intro i B hm9 hi hG ls hl H locs hP hD hS
      refine lv_iload_n hx hb dX4_cycles_4 rfl (lv_at hl 2 rfl) ?_
      refine lv_sipush (v := iI 620) hx hb dX4_cycles_5 (by decide) ?_
      refine ri_icmp_ge (a := i) (b := 620) (tgt := 24) hx hb (by omega) (by omega) dX4_cycles_8 (by decide) (fun c8 => ?_) (fun c8 => ?_)
      · skip
        refine lv_aload_n hx hb dX4_cycles_24 rfl (lv_at hl 0 rfl) ?_
        refine va_get (D := g) (ci := 4) (v := .int (iI (kk : Int))) (C := RX4) (T := TX4) (N := 28) hx hb hts inX4 hown hK.1 hP 0 rfl rfl 11 (by decide) f70 (fun _ h9 => h9) rfl dX4_cycles_25 ?_
        refine lv_iconst (v := iI 1) hx hb dX4_cycles_28 rfl ?_
        refine ri_isub (a := (kk : Int)) (b := 1) hx hb dX4_cycles_29 ?_
        refine lv_istore_n (lv' := [(2, .int (iI ((kk : Int) - 1))), (0, .ref (y 0)), (1, .int (iI 0))]) hx hb dX4_cycles_30 rfl hl (by decide) rfl (fun ls hl => ?_)
        have J31 : ∀ (n9 : Nat) (i : Int) (D : Int) (B : Int → Int), i + 1 < (n9 : Int) → (-1 ≤ i ∧ i ≤ (kk : Int) - 1) → (∀ j : Int, 0 ≤ j → j < 620 → B j = dfF cs (i + 1).toNat kk j) → (D = sm (dfF cs (i + 1).toNat kk) 620) → (cyA cs kk = lat (cyc cs kk) (i + 1).toNat) → ∀ (ls : Array Slot), lv_has ls 4 [(0, .ref (y 0)), (1, .int (iI D)), (2, .int (iI i))] → ∀ (H : Heap) (locs : List Loc), va_P g vwCl [((y 0), .inr (4, [.int (iI thr), .int (iI n), .ref (y 1), .ref (y 2), .ref (y 3), .ref (y 4), .ref (y 5), .ref (y 6), .ref (y 7), .ref (y 8), .ref (y 9), .int (iI (kk : Int)), .int (iI pe), .int (iI dr), .int (iI lf), .int (iI rt), .int (iI ra), .ref (y 10), .ref (y 11), .int (iI dp), .ref (y 12), .ref (y 13), .int (iI ov), .ref (y 14), .int (iI bs), .int (iI bo), .int (iI mo), .int (iI su)])), ((y 5), .inl (k.1, 620, .inl (iF B))), ((y 6), .inl (k.1, 301, .inl (iF ss))), ((y 7), .inl (k.1, 301, .inl (iF hs))), ((y 9), .inl (k.1, 301, .inl (iF ch)))] H → va_D A [((y 0), .inr (4, [.int (iI thr), .int (iI n), .ref (y 1), .ref (y 2), .ref (y 3), .ref (y 4), .ref (y 5), .ref (y 6), .ref (y 7), .ref (y 8), .ref (y 9), .int (iI (kk : Int)), .int (iI pe), .int (iI dr), .int (iI lf), .int (iI rt), .int (iI ra), .ref (y 10), .ref (y 11), .int (iI dp), .ref (y 12), .ref (y 13), .int (iI ov), .ref (y 14), .int (iI bs), .int (iI bo), .int (iI mo), .int (iI su)])), ((y 5), .inl (k.1, 620, .inl (iF B))), ((y 6), .inl (k.1, 301, .inl (iF ss))), ((y 7), .inl (k.1, 301, .inl (iF hs))), ((y 9), .inl (k.1, 301, .inl (iF ch)))] → va_S A s.heap H locs → W p l e rm_0 s m ([.ref (y 0)] : List Value).toArray below meth c H locs 0 0 Q (F0 m 31 ls []) := by
          intro n9
          induction n9 with
          | zero => intro i D B hm9 hi hB hD9 hl9; exact absurd hm9 (by omega)
          | succ n9 ih =>
            intro i D B hm9 hi hB hD9 hl9 ls hl H locs hP hD hS
            refine lv_iload_n hx hb dX4_cycles_31 rfl (lv_at hl 2 rfl) ?_
            refine ri_if_lt (a := i) (tgt := 144) hx hb (by omega) dX4_cycles_32 (by decide) (fun c32 => ?_) (fun c32 => ?_)
            · skip
              refine lv_iconst (v := iI 0) hx hb dX4_cycles_144 rfl ?_
              exact hret 0 (pe, B) _ _ _ _ dX4_cycles_145 (by first | exact Or.inl rfl | exact Or.inr rfl | omega) (Or.inr ⟨by rw [hl9, show (i + 1).toNat = 0 by omega]; rfl, rfl, rfl⟩) hP hD hS
            · skip
              have h4 := hRp i.toNat (by omega)
              rw [Int.toNat_of_nonneg (by omega : 0 ≤ i)] at h4
              have h5 := (hRp (i.toNat + 1) (by omega)).2.2.2 i.toNat rfl
              have b1 := sH_b cs i.toNat
              have b2 := sH_b cs kk
              have b3 := sS_b hc kk hal
              have b4 := sS_b hc i.toNat (fun j hj => hal j (by omega))
              have b9 : chG cs i.toNat = 0 ∨ chG cs i.toNat = 311 + sH cs i.toNat := by unfold chG; split <;> simp
              have s9 := sm_01 (F := dfF cs (i + 1).toNat kk) 620 (fun j _ _ => dfF_01 cs _ kk j)
              refine lv_aload_n hx hb dX4_cycles_35 rfl (lv_at hl 0 rfl) ?_
              refine va_get (D := g) (ci := 4) (v := .ref (y 9)) (C := RX4) (T := TX4) (N := 28) hx hb hts inX4 hown hK.1 hP 0 rfl rfl 10 (by decide) f34 (fun _ h9 => h9) rfl dX4_cycles_36 ?_
              refine lv_iload_n hx hb dX4_cycles_39 rfl (lv_at hl 2 rfl) ?_
              refine lv_iconst (v := iI 1) hx hb dX4_cycles_40 rfl ?_
              refine ri_iadd (a := i) (b := 1) hx hb dX4_cycles_41 ?_
              refine ri_iald (F := ch) (i := (i + 1)) hx hb hK.1 hP 4 0 rfl rfl (by omega) (by omega) dX4_cycles_42 ?_
              refine ri_ex (b := (chG cs i.toNat)) (by rw [show i + 1 = ((i.toNat + 1 : Nat) : Int) by omega]; exact h5) ?_
              refine lv_istore_n (lv' := [(3, .int (iI (chG cs i.toNat))), (0, .ref (y 0)), (1, .int (iI D)), (2, .int (iI i))]) hx hb dX4_cycles_43 rfl hl (by decide) rfl (fun ls hl => ?_)
              have J86 : ∀ (D2 : Int) (B2 : Int → Int),  (∀ j : Int, 0 ≤ j → j < 620 → B2 j = dfF cs i.toNat kk j) → (D2 = sm (dfF cs i.toNat kk) 620) → ∀ (ls : Array Slot), lv_has ls 4 [(0, .ref (y 0)), (1, .int (iI D2)), (2, .int (iI i))] → ∀ (H : Heap) (locs : List Loc), va_P g vwCl [((y 0), .inr (4, [.int (iI thr), .int (iI n), .ref (y 1), .ref (y 2), .ref (y 3), .ref (y 4), .ref (y 5), .ref (y 6), .ref (y 7), .ref (y 8), .ref (y 9), .int (iI (kk : Int)), .int (iI pe), .int (iI dr), .int (iI lf), .int (iI rt), .int (iI ra), .ref (y 10), .ref (y 11), .int (iI dp), .ref (y 12), .ref (y 13), .int (iI ov), .ref (y 14), .int (iI bs), .int (iI bo), .int (iI mo), .int (iI su)])), ((y 5), .inl (k.1, 620, .inl (iF B2))), ((y 6), .inl (k.1, 301, .inl (iF ss))), ((y 7), .inl (k.1, 301, .inl (iF hs))), ((y 9), .inl (k.1, 301, .inl (iF ch)))] H → va_D A [((y 0), .inr (4, [.int (iI thr), .int (iI n), .ref (y 1), .ref (y 2), .ref (y 3), .ref (y 4), .ref (y 5), .ref (y 6), .ref (y 7), .ref (y 8), .ref (y 9), .int (iI (kk : Int)), .int (iI pe), .int (iI dr), .int (iI lf), .int (iI rt), .int (iI ra), .ref (y 10), .ref (y 11), .int (iI dp), .ref (y 12), .ref (y 13), .int (iI ov), .ref (y 14), .int (iI bs), .int (iI bo), .int (iI mo), .int (iI su)])), ((y 5), .inl (k.1, 620, .inl (iF B2))), ((y 6), .inl (k.1, 301, .inl (iF ss))), ((y 7), .inl (k.1, 301, .inl (iF hs))), ((y 9), .inl (k.1, 301, .inl (iF ch)))] → va_S A s.heap H locs → W p l e rm_0 s m ([.ref (y 0)] : List Value).toArray below meth c H locs 0 0 Q (F0 m 86 ls []) := by
                intro D2 B2 hB2 hD2 ls hl H locs hP hD hS
                have s2 := sm_01 (F := dfF cs i.toNat kk) 620 (fun j _ _ => dfF_01 cs _ kk j)
                refine lv_iload_n hx hb dX4_cycles_86 rfl (lv_at hl 1 rfl) ?_
                refine ri_if_ne (a := D2) (tgt := 138) hx hb (by omega) dX4_cycles_87 (by decide) (fun c87 => ?_) (fun c87 => ?_)
                · skip
                  have hl8 : cyA cs kk = lat (cyc cs kk) (i + -1 + 1).toNat := by rw [hl9]; exact lat_1 (by omega) (fun q => c87 (by rw [hD2]; exact s2.2.2.mpr (fun j _ _ => by unfold dfF; rw [if_pos (q.2.2 _)])))
                  refine ri_iinc (x := i) (lv' := [(2, .int (iI (i + (-1)))), (0, .ref (y 0)), (1, .int (iI D2))]) hx hb dX4_cycles_138 hl (k := 2) rfl (by decide) rfl (fun ls hl => ?_)
                  refine lv_goto (tgt := 31) hx hb dX4_cycles_141 (by decide) ?_
                  exact ih (i + (-1)) D2 B2 (by omega) (by omega) (fun j h1 h2 => by rw [hB2 j h1 h2]; congr 1; omega) (by rw [hD2]; congr 2; omega) hl8 _ (lv_sub hl [1, 2, 0] rfl) _ _ hP hD hS
                · skip
                  refine lv_aload_n hx hb dX4_cycles_90 rfl (lv_at hl 0 rfl) ?_
                  refine va_get (D := g) (ci := 4) (v := .ref (y 6)) (C := RX4) (T := TX4) (N := 28) hx hb hts inX4 hown hK.1 hP 0 rfl rfl 7 (by decide) f25 (fun _ h9 => h9) rfl dX4_cycles_91 ?_
                  refine lv_iload_n hx hb dX4_cycles_94 rfl (lv_at hl 2 rfl) ?_
                  refine ri_iald (F := ss) (i := i) hx hb hK.1 hP 2 0 rfl rfl (by omega) (by omega) dX4_cycles_95 ?_
                  refine ri_ex (b := (sS cs i.toNat)) h4.1 ?_
                  refine lv_aload_n hx hb dX4_cycles_96 rfl (lv_at hl 0 rfl) ?_
                  refine va_get (D := g) (ci := 4) (v := .ref (y 6)) (C := RX4) (T := TX4) (N := 28) hx hb hts inX4 hown hK.1 hP 0 rfl rfl 7 (by decide) f25 (fun _ h9 => h9) rfl dX4_cycles_97 ?_
                  refine lv_aload_n hx hb dX4_cycles_100 rfl (lv_at hl 0 rfl) ?_
                  refine va_get (D := g) (ci := 4) (v := .int (iI (kk : Int))) (C := RX4) (T := TX4) (N := 28) hx hb hts inX4 hown hK.1 hP 0 rfl rfl 11 (by decide) f70 (fun _ h9 => h9) rfl dX4_cycles_101 ?_
                  refine ri_iald (F := ss) (i := (kk : Int)) hx hb hK.1 hP 2 0 rfl rfl (by omega) (by omega) dX4_cycles_104 ?_
                  refine ri_ex (b := (sS cs kk)) rk.1 ?_
                  refine ri_icmp_ne (a := (sS cs i.toNat)) (b := (sS cs kk)) (tgt := 138) hx hb (by omega) (by omega) dX4_cycles_105 (by decide) (fun c105 => ?_) (fun c105 => ?_)
                  · skip
                    have hl8 : cyA cs kk = lat (cyc cs kk) (i + -1 + 1).toNat := by rw [hl9]; exact lat_1 (by omega) (fun q => c105 q.1)
                    refine ri_iinc (x := i) (lv' := [(2, .int (iI (i + (-1)))), (0, .ref (y 0)), (1, .int (iI D2))]) hx hb dX4_cycles_138 hl (k := 2) rfl (by decide) rfl (fun ls hl => ?_)
                    refine lv_goto (tgt := 31) hx hb dX4_cycles_141 (by decide) ?_
                    exact ih (i + (-1)) D2 B2 (by omega) (by omega) (fun j h1 h2 => by rw [hB2 j h1 h2]; congr 1; omega) (by rw [hD2]; congr 2; omega) hl8 _ (lv_sub hl [1, 2, 0] rfl) _ _ hP hD hS
                  · skip
                    refine lv_aload_n hx hb dX4_cycles_108 rfl (lv_at hl 0 rfl) ?_
                    refine va_get (D := g) (ci := 4) (v := .ref (y 7)) (C := RX4) (T := TX4) (N := 28) hx hb hts inX4 hown hK.1 hP 0 rfl rfl 8 (by decide) f28 (fun _ h9 => h9) rfl dX4_cycles_109 ?_
                    refine lv_iload_n hx hb dX4_cycles_112 rfl (lv_at hl 2 rfl) ?_
                    refine ri_iald (F := hs) (i := i) hx hb hK.1 hP 3 0 rfl rfl (by omega) (by omega) dX4_cycles_113 ?_
                    refine ri_ex (b := (sH cs i.toNat)) h4.2.1 ?_
                    refine lv_aload_n hx hb dX4_cycles_114 rfl (lv_at hl 0 rfl) ?_
                    refine va_get (D := g) (ci := 4) (v := .ref (y 7)) (C := RX4) (T := TX4) (N := 28) hx hb hts inX4 hown hK.1 hP 0 rfl rfl 8 (by decide) f28 (fun _ h9 => h9) rfl dX4_cycles_115 ?_
                    refine lv_aload_n hx hb dX4_cycles_118 rfl (lv_at hl 0 rfl) ?_
                    refine va_get (D := g) (ci := 4) (v := .int (iI (kk : Int))) (C := RX4) (T := TX4) (N := 28) hx hb hts inX4 hown hK.1 hP 0 rfl rfl 11 (by decide) f70 (fun _ h9 => h9) rfl dX4_cycles_119 ?_
                    refine ri_iald (F := hs) (i := (kk : Int)) hx hb hK.1 hP 3 0 rfl rfl (by omega) (by omega) dX4_cycles_122 ?_
                    refine ri_ex (b := (sH cs kk)) rk.2.1 ?_
                    refine ri_icmp_ne (a := (sH cs i.toNat)) (b := (sH cs kk)) (tgt := 138) hx hb (by omega) (by omega) dX4_cycles_123 (by decide) (fun c123 => ?_) (fun c123 => ?_)
                    · skip
                      have hl8 : cyA cs kk = lat (cyc cs kk) (i + -1 + 1).toNat := by rw [hl9]; exact lat_1 (by omega) (fun q => c123 q.2.1)
                      refine ri_iinc (x := i) (lv' := [(2, .int (iI (i + (-1)))), (0, .ref (y 0)), (1, .int (iI D2))]) hx hb dX4_cycles_138 hl (k := 2) rfl (by decide) rfl (fun ls hl => ?_)
                      refine lv_goto (tgt := 31) hx hb dX4_cycles_141 (by decide) ?_
                      exact ih (i + (-1)) D2 B2 (by omega) (by omega) (fun j h1 h2 => by rw [hB2 j h1 h2]; congr 1; omega) (by rw [hD2]; congr 2; omega) hl8 _ (lv_sub hl [1, 2, 0] rfl) _ _ hP hD hS
                    · skip
                      have hT9 : ∀ j, sT cs i.toNat j = sT cs kk j := fun j => by
                        by_cases q : j < -310 ∨ 310 ≤ j
                        · rw [sT_out cs _ j (by omega), sT_out cs kk j (by omega)]
                        · have z := s2.2.2.mp (by omega) (j + 310) (by omega) (by omega)
                          unfold dfF at z
                          rw [show j + 310 - 310 = j by omega] at z
                          by_cases w : sT cs i.toNat j = sT cs kk j
                          · exact w
                          · rw [if_neg w] at z; omega
                      refine lv_aload_n hx hb dX4_cycles_126 rfl (lv_at hl 0 rfl) ?_
                      refine lv_aload_n hx hb dX4_cycles_127 rfl (lv_at hl 0 rfl) ?_
                      refine va_get (D := g) (ci := 4) (v := .int (iI (kk : Int))) (C := RX4) (T := TX4) (N := 28) hx hb hts inX4 hown hK.1 hP 0 rfl rfl 11 (by decide) f70 (fun _ h9 => h9) rfl dX4_cycles_128 ?_
                      refine lv_iload_n hx hb dX4_cycles_131 rfl (lv_at hl 2 rfl) ?_
                      refine ri_isub (a := (kk : Int)) (b := i) hx hb dX4_cycles_132 ?_
                      refine va_put (D := g) (ci := 4) (v := .int (iI ((kk : Int) - i))) (ty := .int) (C := RX4) (T := TX4) (N := 28) hx hb hts inX4 tyX4 tyX4_ok nmX4 hown hK.1 hP hD hS 0 rfl rfl 12 (by decide) f73 (fun _ h9 => h9) rfl (by decide +kernel) rfl rfl (Nat.le_of_ble_eq_true rfl) dX4_cycles_133 (fun H locs hP hD hS => ?_)
                      have hP : va_P g vwCl [((y 0), .inr (4, [.int (iI thr), .int (iI n), .ref (y 1), .ref (y 2), .ref (y 3), .ref (y 4), .ref (y 5), .ref (y 6), .ref (y 7), .ref (y 8), .ref (y 9), .int (iI (kk : Int)), .int (iI ((kk : Int) - i)), .int (iI dr), .int (iI lf), .int (iI rt), .int (iI ra), .ref (y 10), .ref (y 11), .int (iI dp), .ref (y 12), .ref (y 13), .int (iI ov), .ref (y 14), .int (iI bs), .int (iI bo), .int (iI mo), .int (iI su)])), ((y 5), .inl (k.1, 620, .inl (iF B2))), ((y 6), .inl (k.1, 301, .inl (iF ss))), ((y 7), .inl (k.1, 301, .inl (iF hs))), ((y 9), .inl (k.1, 301, .inl (iF ch)))] H := hP
                      have hD : va_D A [((y 0), .inr (4, [.int (iI thr), .int (iI n), .ref (y 1), .ref (y 2), .ref (y 3), .ref (y 4), .ref (y 5), .ref (y 6), .ref (y 7), .ref (y 8), .ref (y 9), .int (iI (kk : Int)), .int (iI ((kk : Int) - i)), .int (iI dr), .int (iI lf), .int (iI rt), .int (iI ra), .ref (y 10), .ref (y 11), .int (iI dp), .ref (y 12), .ref (y 13), .int (iI ov), .ref (y 14), .int (iI bs), .int (iI bo), .int (iI mo), .int (iI su)])), ((y 5), .inl (k.1, 620, .inl (iF B2))), ((y 6), .inl (k.1, 301, .inl (iF ss))), ((y 7), .inl (k.1, 301, .inl (iF hs))), ((y 9), .inl (k.1, 301, .inl (iF ch)))] := hD
                      have e9 : cyA cs kk = i := by
                        rw [hl9, show (i + 1).toNat = i.toNat + 1 by omega, lat_y ⟨by omega, by omega, hT9⟩]
                        omega
                      refine lv_iconst (v := iI 1) hx hb dX4_cycles_136 rfl ?_
                      exact hret 1 ((kk : Int) - i, B2) _ _ _ _ dX4_cycles_137 (by first | exact Or.inl rfl | exact Or.inr rfl | omega) (Or.inl ⟨by omega, rfl, by show (kk : Int) - i = _; omega⟩) hP hD hS
              refine lv_iload_n hx hb dX4_cycles_44 rfl (lv_at hl 0 rfl) ?_
              refine ri_if_le (a := (chG cs i.toNat)) (tgt := 86) hx hb (by omega) dX4_cycles_45 (by decide) (fun c45 => ?_) (fun c45 => ?_)
              · skip
                exact J86 D B (fun j h1 h2 => by rw [hB j h1 h2, dfF_s cs i.toNat kk j (by omega), if_pos (by omega), show i.toNat + 1 = (i + 1).toNat by omega]) (by rw [hD9]; exact sm_eq 620 (fun j h1 h2 => by rw [dfF_s cs i.toNat kk j (by omega), if_pos (by omega), show i.toNat + 1 = (i + 1).toNat by omega])) _ (lv_sub hl [1, 2, 3] rfl) _ _ hP hD hS
              · skip
                have bb := hB (chG cs i.toNat - 1) (by omega) (by omega)
                have b01 := dfF_01 cs (i + 1).toNat kk (chG cs i.toNat - 1)
                rw [← bb] at b01
                have hB9 : ∀ j : Int, 0 ≤ j → j < 620 → up B (chG cs i.toNat - 1) (1 - B (chG cs i.toNat - 1)) j = dfF cs i.toNat kk j := fun j h1 h2 => by
                  rw [dfF_s cs i.toNat kk j (by omega), if_neg (by omega), show i.toNat + 1 = (i + 1).toNat by omega]
                  by_cases q : j = chG cs i.toNat - 1
                  · rw [q, up_s, if_pos rfl, bb]
                  · rw [up_n q, if_neg q, hB j h1 h2]
                refine lv_aload_n hx hb dX4_cycles_48 rfl (lv_at hl 1 rfl) ?_
                refine va_get (D := g) (ci := 4) (v := .ref (y 5)) (C := RX4) (T := TX4) (N := 28) hx hb hts inX4 hown hK.1 hP 0 rfl rfl 6 (by decide) f22 (fun _ h9 => h9) rfl dX4_cycles_49 ?_
                refine lv_iload_n hx hb dX4_cycles_52 rfl (lv_at hl 0 rfl) ?_
                refine lv_iconst (v := iI 1) hx hb dX4_cycles_53 rfl ?_
                refine ri_isub (a := (chG cs i.toNat)) (b := 1) hx hb dX4_cycles_54 ?_
                refine lv_iconst (v := iI 1) hx hb dX4_cycles_55 rfl ?_
                refine lv_aload_n hx hb dX4_cycles_56 rfl (lv_at hl 1 rfl) ?_
                refine va_get (D := g) (ci := 4) (v := .ref (y 5)) (C := RX4) (T := TX4) (N := 28) hx hb hts inX4 hown hK.1 hP 0 rfl rfl 6 (by decide) f22 (fun _ h9 => h9) rfl dX4_cycles_57 ?_
                refine lv_iload_n hx hb dX4_cycles_60 rfl (lv_at hl 0 rfl) ?_
                refine lv_iconst (v := iI 1) hx hb dX4_cycles_61 rfl ?_
                refine ri_isub (a := (chG cs i.toNat)) (b := 1) hx hb dX4_cycles_62 ?_
                refine ri_iald (F := B) (i := ((chG cs i.toNat) - 1)) hx hb hK.1 hP 1 0 rfl rfl (by omega) (by omega) dX4_cycles_63 ?_
                refine ri_isub (a := 1) (b := (B ((chG cs i.toNat) - 1))) hx hb dX4_cycles_64 ?_
                refine ri_iast (F := B) (i := ((chG cs i.toNat) - 1)) (x := (1 - (B ((chG cs i.toNat) - 1)))) hx hb hK.1 hP hD hS 1 0 rfl rfl (by omega) (by omega) dX4_cycles_65 (fun H locs hP hD hS => ?_)
                have hP : va_P g vwCl [((y 0), .inr (4, [.int (iI thr), .int (iI n), .ref (y 1), .ref (y 2), .ref (y 3), .ref (y 4), .ref (y 5), .ref (y 6), .ref (y 7), .ref (y 8), .ref (y 9), .int (iI (kk : Int)), .int (iI pe), .int (iI dr), .int (iI lf), .int (iI rt), .int (iI ra), .ref (y 10), .ref (y 11), .int (iI dp), .ref (y 12), .ref (y 13), .int (iI ov), .ref (y 14), .int (iI bs), .int (iI bo), .int (iI mo), .int (iI su)])), ((y 5), .inl (k.1, 620, .inl (iF (up B ((chG cs i.toNat) - 1) (1 - (B ((chG cs i.toNat) - 1))))))), ((y 6), .inl (k.1, 301, .inl (iF ss))), ((y 7), .inl (k.1, 301, .inl (iF hs))), ((y 9), .inl (k.1, 301, .inl (iF ch)))] H := hP
                have hD : va_D A [((y 0), .inr (4, [.int (iI thr), .int (iI n), .ref (y 1), .ref (y 2), .ref (y 3), .ref (y 4), .ref (y 5), .ref (y 6), .ref (y 7), .ref (y 8), .ref (y 9), .int (iI (kk : Int)), .int (iI pe), .int (iI dr), .int (iI lf), .int (iI rt), .int (iI ra), .ref (y 10), .ref (y 11), .int (iI dp), .ref (y 12), .ref (y 13), .int (iI ov), .ref (y 14), .int (iI bs), .int (iI bo), .int (iI mo), .int (iI su)])), ((y 5), .inl (k.1, 620, .inl (iF (up B ((chG cs i.toNat) - 1) (1 - (B ((chG cs i.toNat) - 1))))))), ((y 6), .inl (k.1, 301, .inl (iF ss))), ((y 7), .inl (k.1, 301, .inl (iF hs))), ((y 9), .inl (k.1, 301, .inl (iF ch)))] := hD
                have J84 : ∀ (x : Int),  (x = 1 - 2 * B (chG cs i.toNat - 1)) → ∀ (ls : Array Slot), lv_has ls 4 [(0, .ref (y 0)), (2, .int (iI i)), (3, .int (iI (chG cs i.toNat)))] → W p l e rm_0 s m ([.ref (y 0)] : List Value).toArray below meth c H locs 0 0 Q (F0 m 84 ls [.int (iI x), .int (iI D)]) := by
                  intro x hx9 ls hl
                  refine ri_iadd (a := D) (b := x) hx hb dX4_cycles_84 ?_
                  refine lv_istore_n (lv' := [(1, .int (iI (D + x))), (0, .ref (y 0)), (2, .int (iI i)), (3, .int (iI (chG cs i.toNat)))]) hx hb dX4_cycles_85 rfl hl (by decide) rfl (fun ls hl => ?_)
                  exact J86 (D + x) (up B ((chG cs i.toNat) - 1) (1 - (B ((chG cs i.toNat) - 1)))) hB9 (by rw [hx9, hD9, ← sm_eq (F := up B (chG cs i.toNat - 1) (1 - B (chG cs i.toNat - 1))) (G := dfF cs i.toNat kk) 620 hB9, sm_up _ _ _ 620 (by omega) (by omega), sm_eq (F := B) (G := dfF cs (i + 1).toNat kk) 620 hB]; omega) _ (lv_sub hl [1, 0, 2] rfl) _ _ hP hD hS
                refine lv_iload_n hx hb dX4_cycles_66 rfl (lv_at hl 2 rfl) ?_
                refine lv_aload_n hx hb dX4_cycles_67 rfl (lv_at hl 1 rfl) ?_
                refine va_get (D := g) (ci := 4) (v := .ref (y 5)) (C := RX4) (T := TX4) (N := 28) hx hb hts inX4 hown hK.1 hP 0 rfl rfl 6 (by decide) f22 (fun _ h9 => h9) rfl dX4_cycles_68 ?_
                refine lv_iload_n hx hb dX4_cycles_71 rfl (lv_at hl 0 rfl) ?_
                refine lv_iconst (v := iI 1) hx hb dX4_cycles_72 rfl ?_
                refine ri_isub (a := (chG cs i.toNat)) (b := 1) hx hb dX4_cycles_73 ?_
                refine ri_iald (F := (up B ((chG cs i.toNat) - 1) (1 - (B ((chG cs i.toNat) - 1))))) (i := ((chG cs i.toNat) - 1)) hx hb hK.1 hP 1 0 rfl rfl (by omega) (by omega) dX4_cycles_74 ?_
                refine ri_ex (b := (1 - B (chG cs i.toNat - 1))) up_s ?_
                refine lv_iconst (v := iI 1) hx hb dX4_cycles_75 rfl ?_
                refine ri_icmp_ne (a := (1 - B (chG cs i.toNat - 1))) (b := 1) (tgt := 83) hx hb (by omega) (by omega) dX4_cycles_76 (by decide) (fun c76 => ?_) (fun c76 => ?_)
                · skip
                  refine lv_iconst (v := iI (-1)) hx hb dX4_cycles_83 rfl ?_
                  exact J84 (-1) (by omega) _ (lv_sub hl [1, 3, 0] rfl)
                · skip
                  refine lv_iconst (v := iI 1) hx hb dX4_cycles_79 rfl ?_
                  refine lv_goto (tgt := 84) hx hb dX4_cycles_80 (by decide) ?_
                  exact J84 1 (by omega) _ (lv_sub hl [1, 3, 0] rfl)
        exact J31 ((((kk : Int) - 1) + 1 : Int).toNat.succ) ((kk : Int) - 1) 0 B (by omega) (by omega) (fun j h1 h2 => by rw [hG j h1 (by omega), show ((kk : Int) - 1 + 1).toNat = kk by omega, dfF_kk]) (by rw [show ((kk : Int) - 1 + 1).toNat = kk by omega, sm_eq (G := fun _ => 0) 620 (fun j _ _ => dfF_kk cs kk j), sm_0]) (by rw [show ((kk : Int) - 1 + 1).toNat = kk by omega]; rfl) _ (lv_sub hl [1, 2, 0] rfl) _ _ hP hD hS
      · skip
        refine lv_aload_n hx hb dX4_cycles_11 rfl (lv_at hl 0 rfl) ?_
        refine va_get (D := g) (ci := 4) (v := .ref (y 5)) (C := RX4) (T := TX4) (N := 28) hx hb hts inX4 hown hK.1 hP 0 rfl rfl 6 (by decide) f22 (fun _ h9 => h9) rfl dX4_cycles_12 ?_
        refine lv_iload_n hx hb dX4_cycles_15 rfl (lv_at hl 2 rfl) ?_
        refine lv_iconst (v := iI 0) hx hb dX4_cycles_16 rfl ?_
        refine ri_iast (F := B) (i := i) (x := 0) hx hb hK.1 hP hD hS 1 0 rfl rfl (by omega) (by omega) dX4_cycles_17 (fun H locs hP hD hS => ?_)
        have hP : va_P g vwCl [((y 0), .inr (4, [.int (iI thr), .int (iI n), .ref (y 1), .ref (y 2), .ref (y 3), .ref (y 4), .ref (y 5), .ref (y 6), .ref (y 7), .ref (y 8), .ref (y 9), .int (iI (kk : Int)), .int (iI pe), .int (iI dr), .int (iI lf), .int (iI rt), .int (iI ra), .ref (y 10), .ref (y 11), .int (iI dp), .ref (y 12), .ref (y 13), .int (iI ov), .ref (y 14), .int (iI bs), .int (iI bo), .int (iI mo), .int (iI su)])), ((y 5), .inl (k.1, 620, .inl (iF (up B i 0)))), ((y 6), .inl (k.1, 301, .inl (iF ss))), ((y 7), .inl (k.1, 301, .inl (iF hs))), ((y 9), .inl (k.1, 301, .inl (iF ch)))] H := hP
        have hD : va_D A [((y 0), .inr (4, [.int (iI thr), .int (iI n), .ref (y 1), .ref (y 2), .ref (y 3), .ref (y 4), .ref (y 5), .ref (y 6), .ref (y 7), .ref (y 8), .ref (y 9), .int (iI (kk : Int)), .int (iI pe), .int (iI dr), .int (iI lf), .int (iI rt), .int (iI ra), .ref (y 10), .ref (y 11), .int (iI dp), .ref (y 12), .ref (y 13), .int (iI ov), .ref (y 14), .int (iI bs), .int (iI bo), .int (iI mo), .int (iI su)])), ((y 5), .inl (k.1, 620, .inl (iF (up B i 0)))), ((y 6), .inl (k.1, 301, .inl (iF ss))), ((y 7), .inl (k.1, 301, .inl (iF hs))), ((y 9), .inl (k.1, 301, .inl (iF ch)))] := hD
        refine ri_iinc (x := i) (lv' := [(2, .int (iI (i + 1))), (0, .ref (y 0)), (1, .int (iI 0))]) hx hb dX4_cycles_18 hl (k := 2) rfl (by decide) rfl (fun ls hl => ?_)
        refine lv_goto (tgt := 4) hx hb dX4_cycles_21 (by decide) ?_
        exact ih (i + 1) (up B i 0) (by omega) (by omega) (fun j h1 h2 => by by_cases q : j = i; rw [q, up_s]; rw [up_n q]; exact hG j h1 (by omega)) _ (lv_sub hl [1, 2, 0] rfl) _ _ hP hD hS
  exact J4 ((620 - 0 : Int).toNat.succ) 0 B (by omega) (by omega) (fun j h1 h2 => absurd h2 (by omega)) _ (lv_sub hl [2, 1, 0] rfl) _ _ hP hD hS

