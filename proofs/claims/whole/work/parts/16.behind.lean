set_option maxHeartbeats 4000000 in
set_option maxRecDepth 100000 in
theorem c_sameBehind300 (l : Launch) (g : va_G) (k : kT) (w t0 t1 a0 a1 a2 : Nat) (o pe dr on lf rt : Int) (tps : Nat → Int64) (hs ss sd : Int → Int) (cs : Int → Int) (hc : okC cs) (kk : Nat) (hk1 : 1 ≤ kk ∧ kk ≤ 300) (hal : alive cs kk) (hRp : Rp cs 300 10 kk tps hs ss sd) (th side dp : Int) (hth : 0 < th ∧ th < kk) (hsd : side = 1 ∨ side = -1) (hdp : 0 ≤ dp ∧ dp ≤ 1000) : cP l yX2_sameBehind wsX2_sameBehind rm_1 g k (wW300 k w t0 t1 a0 a1 a2 o (kk : Int) pe dr (sS cs kk) (sH cs kk) on lf rt (bW 300 (sT cs kk)) tps hs ss sd) [.ref w, .int (iI th), .int (iI side), .int (iI dp)] (fun r => ∃ v : Int, r = iI v ∧ ((v = 1 ∧ ∀ j : Int, 0 ≤ j → j ≤ dp → sT cs th.toNat (sH cs th.toNat - side * j) = sT cs kk (sH cs kk - side * j)) ∨ (v = 0 ∧ ¬ ∀ j : Int, 0 ≤ j → j ≤ dp → sT cs th.toNat (sH cs th.toNat - side * j) = sT cs kk (sH cs kk - side * j)))) := by
  refine st_Z (by decide) rfl (Nat.le_of_ble_eq_true rfl) ?_
  intro p e s m below meth c Q hx hb hml hown hts hP hK hret ls hl
  have hown : s.vm.findClass RX2 = some m.cls := hown
  have f34 := hts (.fieldLink RX2 34 "MachineTree$Walk" "heads" "[I") (by decide +kernel)
  have inX2 := (by decide +kernel : ∀ w ∈ wsX20, w ∈ wsX2_sameBehind)
  have f31 := hts (.fieldLink RX2 31 "MachineTree$Walk" "tapes" "[J") (by decide +kernel)
  have f24 := hts (.fieldLink RX2 24 "MachineTree$Walk" "words" "I") (by decide +kernel)
  have f27 := hts (.fieldLink RX2 27 "MachineTree$Walk" "tape" "[J") (by decide +kernel)
  have f56 := hts (.fieldLink RX2 56 "MachineTree$Walk" "head" "I") (by decide +kernel)
  have hl : lv_has ls 6 [(0, .ref w), (1, .int (iI th)), (2, .int (iI side)), (3, .int (iI dp))] := hl
  have h4 := hRp th.toNat (by omega)
  rw [Int.toNat_of_nonneg (by omega : 0 ≤ th)] at h4
  have b1 := sH_b cs th.toNat
  have b2 := sH_b cs kk
  refine lv_iload_n hx hb dX2_sameBehind_0 rfl (lv_at hl 1 rfl) ?_
  refine ri_if_lt (a := th) (tgt := 13) hx hb (by omega) dX2_sameBehind_1 (by decide) (fun c1 => ?_) (fun c1 => ?_)
  · exact absurd c1 (by omega)
  · skip
    refine lv_iload_n hx hb dX2_sameBehind_4 rfl (lv_at hl 1 rfl) ?_
    refine lv_aload_n hx hb dX2_sameBehind_5 rfl (lv_at hl 0 rfl) ?_
    refine va_get (D := g) (ci := 2) (v := .ref a0) (C := RX2) (T := TX2) (N := 16) hx hb hts inX2 hown hK.1 hP 0 rfl rfl 4 (by decide) f34 (fun _ h9 => h9) rfl dX2_sameBehind_6 ?_
    refine ri_alen hx hb hK.1 hP 3 0 rfl rfl dX2_sameBehind_9 ?_
    refine ri_ex (b := 301) rfl ?_
    refine ri_icmp_lt (a := th) (b := 301) (tgt := 15) hx hb (by omega) (by omega) dX2_sameBehind_10 (by decide) (fun c10 => ?_) (fun c10 => ?_)
    · skip
      refine lv_iconst (v := iI 0) hx hb dX2_sameBehind_15 rfl ?_
      refine lv_istore (lv' := [(4, .int (iI 0)), (0, .ref w), (1, .int (iI th)), (2, .int (iI side)), (3, .int (iI dp))]) hx hb dX2_sameBehind_16 hl (by decide) rfl (fun ls hl => ?_)
      have J18 : ∀ (n9 : Nat) (i : Int), dp + 2 - i < (n9 : Int) → (0 ≤ i ∧ i ≤ dp + 1) → (∀ j : Int, 0 ≤ j → j < i → sT cs th.toNat (sH cs th.toNat - side * j) = sT cs kk (sH cs kk - side * j)) → ∀ (ls : Array Slot), lv_has ls 6 [(0, .ref w), (1, .int (iI th)), (2, .int (iI side)), (3, .int (iI dp)), (4, .int (iI i))] → W p l e rm_1 s m ([.ref w, .int (iI th), .int (iI side), .int (iI dp)] : List Value).toArray below meth c s.heap [] 0 0 Q (F0 m 18 ls []) := by
        intro n9
        induction n9 with
        | zero => intro i hm9 hi hal9; exact absurd hm9 (by omega)
        | succ n9 ih =>
          intro i hm9 hi hal9 ls hl
          have hm : side * i = i ∨ side * i = -i := by rcases hsd with h | h <;> rw [h] <;> omega
          refine lv_iload hx hb dX2_sameBehind_18 (lv_at hl 4 rfl) ?_
          refine lv_iload_n hx hb dX2_sameBehind_20 rfl (lv_at hl 3 rfl) ?_
          refine ri_icmp_gt (a := i) (b := dp) (tgt := 82) hx hb (by omega) (by omega) dX2_sameBehind_21 (by decide) (fun c21 => ?_) (fun c21 => ?_)
          · skip
            refine lv_iconst (v := iI 1) hx hb dX2_sameBehind_82 rfl ?_
            exact hret 1 _ _ dX2_sameBehind_83 (by first | exact Or.inl rfl | exact Or.inr rfl | omega) ⟨1, rfl, Or.inl ⟨rfl, fun j h1 h2 => hal9 j h1 (by omega)⟩⟩
          · skip
            refine lv_aload_n hx hb dX2_sameBehind_24 rfl (lv_at hl 0 rfl) ?_
            refine lv_aload_n hx hb dX2_sameBehind_25 rfl (lv_at hl 0 rfl) ?_
            refine va_get (D := g) (ci := 2) (v := .ref t1) (C := RX2) (T := TX2) (N := 16) hx hb hts inX2 hown hK.1 hP 0 rfl rfl 3 (by decide) f31 (fun _ h9 => h9) rfl dX2_sameBehind_26 ?_
            refine lv_iload_n hx hb dX2_sameBehind_29 rfl (lv_at hl 1 rfl) ?_
            refine lv_aload_n hx hb dX2_sameBehind_30 rfl (lv_at hl 0 rfl) ?_
            refine va_get (D := g) (ci := 2) (v := .int (iI 10)) (C := RX2) (T := TX2) (N := 16) hx hb hts inX2 hown hK.1 hP 0 rfl rfl 1 (by decide) f24 (fun _ h9 => h9) rfl dX2_sameBehind_31 ?_
            refine ri_imul (a := th) (b := 10) hx hb dX2_sameBehind_34 ?_
            refine lv_aload_n hx hb dX2_sameBehind_35 rfl (lv_at hl 0 rfl) ?_
            refine va_get (D := g) (ci := 2) (v := .ref a0) (C := RX2) (T := TX2) (N := 16) hx hb hts inX2 hown hK.1 hP 0 rfl rfl 4 (by decide) f34 (fun _ h9 => h9) rfl dX2_sameBehind_36 ?_
            refine lv_iload_n hx hb dX2_sameBehind_39 rfl (lv_at hl 1 rfl) ?_
            refine ri_iald (F := hs) (i := th) hx hb hK.1 hP 3 0 rfl rfl (by omega) (by omega) dX2_sameBehind_40 ?_
            refine lv_iload_n hx hb dX2_sameBehind_41 rfl (lv_at hl 2 rfl) ?_
            refine lv_iload hx hb dX2_sameBehind_42 (lv_at hl 4 rfl) ?_
            refine ri_imul (a := side) (b := i) hx hb dX2_sameBehind_44 ?_
            refine ri_isub (a := (hs th)) (b := (side * i)) hx hb dX2_sameBehind_45 ?_
            refine rc_P (own := RX2) (q := (RX2, TX2, 16)) (wc := [(w, .inr (2, [.int (iI 300), .int (iI 10), .ref t0, .ref t1, .ref a0, .ref a1, .ref a2, .int (iI o), .int (iI (kk : Int)), .int (iI pe), .int (iI dr), .int (iI (sS cs kk)), .int (iI (sH cs kk)), .int (iI on), .int (iI lf), .int (iI rt)])), (t1, .inl (k.2.1, 3010, .inr (.inl tps)))]) (As := [.ref t1, .int (iI (th * 10)), .int (iI ((hs th) - (side * i)))]) (rest := []) ⟨hx, hb, hml, hown, hts⟩ (c_symbolIn300 l g k w t0 t1 a0 a1 a2 o (kk : Int) pe dr (sS cs kk) (sH cs kk) on lf rt t1 3010 tps (th * 10) (hs th - side * i) (sT cs th.toNat) (sT_01 cs _) (fun j hj => sT_out cs _ j (by omega)) (by omega) (fun w hw => by rw [show (th * 10).toNat = th.toNat * 10 by omega]; exact h4.2.2.2 w hw) (by rw [h4.1]; omega)) (cwV 3 hts gX2_sameBehind_X2_symbolIn rfl rfl rfl (by decide +kernel) ⟨Nat.le_of_ble_eq_true rfl, Nat.le_of_ble_eq_true rfl⟩) hK hP [0, 2] rfl (ci := 2) (q0 := 0) rfl rfl rfl rfl hl.1 (Nat.le_of_ble_eq_true rfl) ⟨Nat.le_of_ble_eq_true rfl, Nat.le_of_ble_eq_true rfl⟩ dX2_sameBehind_46 (fun r46 hr46 => ?_)
            refine ri_top (y := iI (sT cs th.toNat (hs th - side * i))) hr46 ?_
            refine lv_istore (lv' := [(5, .int (iI (sT cs th.toNat (hs th - side * i)))), (0, .ref w), (1, .int (iI th)), (2, .int (iI side)), (3, .int (iI dp)), (4, .int (iI i))]) hx hb dX2_sameBehind_49 hl (by decide) rfl (fun ls hl => ?_)
            refine lv_iload hx hb dX2_sameBehind_51 (lv_at hl 0 rfl) ?_
            refine lv_aload_n hx hb dX2_sameBehind_53 rfl (lv_at hl 1 rfl) ?_
            refine lv_aload_n hx hb dX2_sameBehind_54 rfl (lv_at hl 1 rfl) ?_
            refine va_get (D := g) (ci := 2) (v := .ref t0) (C := RX2) (T := TX2) (N := 16) hx hb hts inX2 hown hK.1 hP 0 rfl rfl 2 (by decide) f27 (fun _ h9 => h9) rfl dX2_sameBehind_55 ?_
            refine lv_iconst (v := iI 0) hx hb dX2_sameBehind_58 rfl ?_
            refine lv_aload_n hx hb dX2_sameBehind_59 rfl (lv_at hl 1 rfl) ?_
            refine va_get (D := g) (ci := 2) (v := .int (iI (sH cs kk))) (C := RX2) (T := TX2) (N := 16) hx hb hts inX2 hown hK.1 hP 0 rfl rfl 12 (by decide) f56 (fun _ h9 => h9) rfl dX2_sameBehind_60 ?_
            refine lv_iload_n hx hb dX2_sameBehind_63 rfl (lv_at hl 3 rfl) ?_
            refine lv_iload hx hb dX2_sameBehind_64 (lv_at hl 5 rfl) ?_
            refine ri_imul (a := side) (b := i) hx hb dX2_sameBehind_66 ?_
            refine ri_isub (a := (sH cs kk)) (b := (side * i)) hx hb dX2_sameBehind_67 ?_
            refine rc_P (own := RX2) (q := (RX2, TX2, 16)) (wc := [(w, .inr (2, [.int (iI 300), .int (iI 10), .ref t0, .ref t1, .ref a0, .ref a1, .ref a2, .int (iI o), .int (iI (kk : Int)), .int (iI pe), .int (iI dr), .int (iI (sS cs kk)), .int (iI (sH cs kk)), .int (iI on), .int (iI lf), .int (iI rt)])), (t0, .inl (k.2.1, 10, .inr (.inl (bW 300 (sT cs kk)))))]) (As := [.ref t0, .int (iI 0), .int (iI ((sH cs kk) - (side * i)))]) (rest := [.int (iI (sT cs th.toNat (hs th - side * i)))]) ⟨hx, hb, hml, hown, hts⟩ (c_symbolIn300 l g k w t0 t1 a0 a1 a2 o (kk : Int) pe dr (sS cs kk) (sH cs kk) on lf rt t0 10 (bW 300 (sT cs kk)) 0 (sH cs kk - side * i) (sT cs kk) (sT_01 cs _) (fun j hj => sT_out cs _ j (by omega)) (by omega) (fun w _ => by rw [show (0 : Int).toNat + w = w by omega]) (by omega)) (cwV 3 hts gX2_sameBehind_X2_symbolIn rfl rfl rfl (by decide +kernel) ⟨Nat.le_of_ble_eq_true rfl, Nat.le_of_ble_eq_true rfl⟩) hK hP [0, 1] rfl (ci := 2) (q0 := 0) rfl rfl rfl rfl hl.1 (Nat.le_of_ble_eq_true rfl) ⟨Nat.le_of_ble_eq_true rfl, Nat.le_of_ble_eq_true rfl⟩ dX2_sameBehind_68 (fun r68 hr68 => ?_)
            refine ri_top (y := iI (sT cs kk (sH cs kk - side * i))) hr68 ?_
            have d1 := sT_01 cs th.toNat (hs th - side * i)
            have d2 := sT_01 cs kk (sH cs kk - side * i)
            refine ri_icmp_eq (a := (sT cs th.toNat (hs th - side * i))) (b := (sT cs kk (sH cs kk - side * i))) (tgt := 76) hx hb (by omega) (by omega) dX2_sameBehind_71 (by decide) (fun c71 => ?_) (fun c71 => ?_)
            · skip
              refine ri_iinc (x := i) (lv' := [(4, .int (iI (i + 1))), (5, .int (iI (sT cs th.toNat (hs th - side * i)))), (0, .ref w), (1, .int (iI th)), (2, .int (iI side)), (3, .int (iI dp))]) hx hb dX2_sameBehind_76 hl (k := 5) rfl (by decide) rfl (fun ls hl => ?_)
              refine lv_goto (tgt := 18) hx hb dX2_sameBehind_79 (by decide) ?_
              exact ih (i + 1) (by omega) (by omega) (fun j h1 h2 => by by_cases q : j < i; exact hal9 j h1 q; rw [show j = i by omega, ← h4.1]; exact c71) _ (lv_sub hl [2, 3, 4, 5, 0] rfl)
            · skip
              refine lv_iconst (v := iI 0) hx hb dX2_sameBehind_74 rfl ?_
              exact hret 0 _ _ dX2_sameBehind_75 (by first | exact Or.inl rfl | exact Or.inr rfl | omega) ⟨0, rfl, Or.inr ⟨rfl, fun h => c71 (by rw [h4.1]; exact h i (by omega) (by omega))⟩⟩
      exact J18 ((dp + 2 - 0 : Int).toNat.succ) 0 (by omega) (by omega) (fun j h1 h2 => absurd h2 (by omega)) _ (lv_sub hl [1, 2, 3, 4, 0] rfl)
    · exact absurd (by omega) c10

set_option maxHeartbeats 4000000 in
set_option maxRecDepth 100000 in
theorem c_sameBehind120 (l : Launch) (g : va_G) (k : kT) (w t0 t1 a0 a1 a2 : Nat) (o pe dr on lf rt : Int) (tps : Nat → Int64) (hs ss sd : Int → Int) (cs : Int → Int) (hc : okC cs) (kk : Nat) (hk1 : 1 ≤ kk ∧ kk ≤ 120) (hal : alive cs kk) (hRp : Rp cs 120 4 kk tps hs ss sd) (th side dp : Int) (hth : 0 < th ∧ th < kk) (hsd : side = 1 ∨ side = -1) (hdp : 0 ≤ dp ∧ dp ≤ 1000) : cP l yX2_sameBehind wsX2_sameBehind rm_1 g k (wW120 k w t0 t1 a0 a1 a2 o (kk : Int) pe dr (sS cs kk) (sH cs kk) on lf rt (bW 120 (sT cs kk)) tps hs ss sd) [.ref w, .int (iI th), .int (iI side), .int (iI dp)] (fun r => ∃ v : Int, r = iI v ∧ ((v = 1 ∧ ∀ j : Int, 0 ≤ j → j ≤ dp → sT cs th.toNat (sH cs th.toNat - side * j) = sT cs kk (sH cs kk - side * j)) ∨ (v = 0 ∧ ¬ ∀ j : Int, 0 ≤ j → j ≤ dp → sT cs th.toNat (sH cs th.toNat - side * j) = sT cs kk (sH cs kk - side * j)))) := by
  refine st_Z (by decide) rfl (Nat.le_of_ble_eq_true rfl) ?_
  intro p e s m below meth c Q hx hb hml hown hts hP hK hret ls hl
  have hown : s.vm.findClass RX2 = some m.cls := hown
  have f34 := hts (.fieldLink RX2 34 "MachineTree$Walk" "heads" "[I") (by decide +kernel)
  have inX2 := (by decide +kernel : ∀ w ∈ wsX20, w ∈ wsX2_sameBehind)
  have f31 := hts (.fieldLink RX2 31 "MachineTree$Walk" "tapes" "[J") (by decide +kernel)
  have f24 := hts (.fieldLink RX2 24 "MachineTree$Walk" "words" "I") (by decide +kernel)
  have f27 := hts (.fieldLink RX2 27 "MachineTree$Walk" "tape" "[J") (by decide +kernel)
  have f56 := hts (.fieldLink RX2 56 "MachineTree$Walk" "head" "I") (by decide +kernel)
  have hl : lv_has ls 6 [(0, .ref w), (1, .int (iI th)), (2, .int (iI side)), (3, .int (iI dp))] := hl
  have h4 := hRp th.toNat (by omega)
  rw [Int.toNat_of_nonneg (by omega : 0 ≤ th)] at h4
  have b1 := sH_b cs th.toNat
  have b2 := sH_b cs kk
  refine lv_iload_n hx hb dX2_sameBehind_0 rfl (lv_at hl 1 rfl) ?_
  refine ri_if_lt (a := th) (tgt := 13) hx hb (by omega) dX2_sameBehind_1 (by decide) (fun c1 => ?_) (fun c1 => ?_)
  · exact absurd c1 (by omega)
  · skip
    refine lv_iload_n hx hb dX2_sameBehind_4 rfl (lv_at hl 1 rfl) ?_
    refine lv_aload_n hx hb dX2_sameBehind_5 rfl (lv_at hl 0 rfl) ?_
    refine va_get (D := g) (ci := 2) (v := .ref a0) (C := RX2) (T := TX2) (N := 16) hx hb hts inX2 hown hK.1 hP 0 rfl rfl 4 (by decide) f34 (fun _ h9 => h9) rfl dX2_sameBehind_6 ?_
    refine ri_alen hx hb hK.1 hP 3 0 rfl rfl dX2_sameBehind_9 ?_
    refine ri_ex (b := 121) rfl ?_
    refine ri_icmp_lt (a := th) (b := 121) (tgt := 15) hx hb (by omega) (by omega) dX2_sameBehind_10 (by decide) (fun c10 => ?_) (fun c10 => ?_)
    · skip
      refine lv_iconst (v := iI 0) hx hb dX2_sameBehind_15 rfl ?_
      refine lv_istore (lv' := [(4, .int (iI 0)), (0, .ref w), (1, .int (iI th)), (2, .int (iI side)), (3, .int (iI dp))]) hx hb dX2_sameBehind_16 hl (by decide) rfl (fun ls hl => ?_)
      have J18 : ∀ (n9 : Nat) (i : Int), dp + 2 - i < (n9 : Int) → (0 ≤ i ∧ i ≤ dp + 1) → (∀ j : Int, 0 ≤ j → j < i → sT cs th.toNat (sH cs th.toNat - side * j) = sT cs kk (sH cs kk - side * j)) → ∀ (ls : Array Slot), lv_has ls 6 [(0, .ref w), (1, .int (iI th)), (2, .int (iI side)), (3, .int (iI dp)), (4, .int (iI i))] → W p l e rm_1 s m ([.ref w, .int (iI th), .int (iI side), .int (iI dp)] : List Value).toArray below meth c s.heap [] 0 0 Q (F0 m 18 ls []) := by
        intro n9
        induction n9 with
        | zero => intro i hm9 hi hal9; exact absurd hm9 (by omega)
        | succ n9 ih =>
          intro i hm9 hi hal9 ls hl
          have hm : side * i = i ∨ side * i = -i := by rcases hsd with h | h <;> rw [h] <;> omega
          refine lv_iload hx hb dX2_sameBehind_18 (lv_at hl 4 rfl) ?_
          refine lv_iload_n hx hb dX2_sameBehind_20 rfl (lv_at hl 3 rfl) ?_
          refine ri_icmp_gt (a := i) (b := dp) (tgt := 82) hx hb (by omega) (by omega) dX2_sameBehind_21 (by decide) (fun c21 => ?_) (fun c21 => ?_)
          · skip
            refine lv_iconst (v := iI 1) hx hb dX2_sameBehind_82 rfl ?_
            exact hret 1 _ _ dX2_sameBehind_83 (by first | exact Or.inl rfl | exact Or.inr rfl | omega) ⟨1, rfl, Or.inl ⟨rfl, fun j h1 h2 => hal9 j h1 (by omega)⟩⟩
          · skip
            refine lv_aload_n hx hb dX2_sameBehind_24 rfl (lv_at hl 0 rfl) ?_
            refine lv_aload_n hx hb dX2_sameBehind_25 rfl (lv_at hl 0 rfl) ?_
            refine va_get (D := g) (ci := 2) (v := .ref t1) (C := RX2) (T := TX2) (N := 16) hx hb hts inX2 hown hK.1 hP 0 rfl rfl 3 (by decide) f31 (fun _ h9 => h9) rfl dX2_sameBehind_26 ?_
            refine lv_iload_n hx hb dX2_sameBehind_29 rfl (lv_at hl 1 rfl) ?_
            refine lv_aload_n hx hb dX2_sameBehind_30 rfl (lv_at hl 0 rfl) ?_
            refine va_get (D := g) (ci := 2) (v := .int (iI 4)) (C := RX2) (T := TX2) (N := 16) hx hb hts inX2 hown hK.1 hP 0 rfl rfl 1 (by decide) f24 (fun _ h9 => h9) rfl dX2_sameBehind_31 ?_
            refine ri_imul (a := th) (b := 4) hx hb dX2_sameBehind_34 ?_
            refine lv_aload_n hx hb dX2_sameBehind_35 rfl (lv_at hl 0 rfl) ?_
            refine va_get (D := g) (ci := 2) (v := .ref a0) (C := RX2) (T := TX2) (N := 16) hx hb hts inX2 hown hK.1 hP 0 rfl rfl 4 (by decide) f34 (fun _ h9 => h9) rfl dX2_sameBehind_36 ?_
            refine lv_iload_n hx hb dX2_sameBehind_39 rfl (lv_at hl 1 rfl) ?_
            refine ri_iald (F := hs) (i := th) hx hb hK.1 hP 3 0 rfl rfl (by omega) (by omega) dX2_sameBehind_40 ?_
            refine lv_iload_n hx hb dX2_sameBehind_41 rfl (lv_at hl 2 rfl) ?_
            refine lv_iload hx hb dX2_sameBehind_42 (lv_at hl 4 rfl) ?_
            refine ri_imul (a := side) (b := i) hx hb dX2_sameBehind_44 ?_
            refine ri_isub (a := (hs th)) (b := (side * i)) hx hb dX2_sameBehind_45 ?_
            refine rc_P (own := RX2) (q := (RX2, TX2, 16)) (wc := [(w, .inr (2, [.int (iI 120), .int (iI 4), .ref t0, .ref t1, .ref a0, .ref a1, .ref a2, .int (iI o), .int (iI (kk : Int)), .int (iI pe), .int (iI dr), .int (iI (sS cs kk)), .int (iI (sH cs kk)), .int (iI on), .int (iI lf), .int (iI rt)])), (t1, .inl (k.2.1, 484, .inr (.inl tps)))]) (As := [.ref t1, .int (iI (th * 4)), .int (iI ((hs th) - (side * i)))]) (rest := []) ⟨hx, hb, hml, hown, hts⟩ (c_symbolIn120 l g k w t0 t1 a0 a1 a2 o (kk : Int) pe dr (sS cs kk) (sH cs kk) on lf rt t1 484 tps (th * 4) (hs th - side * i) (sT cs th.toNat) (sT_01 cs _) (fun j hj => sT_out cs _ j (by omega)) (by omega) (fun w hw => by rw [show (th * 4).toNat = th.toNat * 4 by omega]; exact h4.2.2.2 w hw) (by rw [h4.1]; omega)) (cwV 3 hts gX2_sameBehind_X2_symbolIn rfl rfl rfl (by decide +kernel) ⟨Nat.le_of_ble_eq_true rfl, Nat.le_of_ble_eq_true rfl⟩) hK hP [0, 2] rfl (ci := 2) (q0 := 0) rfl rfl rfl rfl hl.1 (Nat.le_of_ble_eq_true rfl) ⟨Nat.le_of_ble_eq_true rfl, Nat.le_of_ble_eq_true rfl⟩ dX2_sameBehind_46 (fun r46 hr46 => ?_)
            refine ri_top (y := iI (sT cs th.toNat (hs th - side * i))) hr46 ?_
            refine lv_istore (lv' := [(5, .int (iI (sT cs th.toNat (hs th - side * i)))), (0, .ref w), (1, .int (iI th)), (2, .int (iI side)), (3, .int (iI dp)), (4, .int (iI i))]) hx hb dX2_sameBehind_49 hl (by decide) rfl (fun ls hl => ?_)
            refine lv_iload hx hb dX2_sameBehind_51 (lv_at hl 0 rfl) ?_
            refine lv_aload_n hx hb dX2_sameBehind_53 rfl (lv_at hl 1 rfl) ?_
            refine lv_aload_n hx hb dX2_sameBehind_54 rfl (lv_at hl 1 rfl) ?_
            refine va_get (D := g) (ci := 2) (v := .ref t0) (C := RX2) (T := TX2) (N := 16) hx hb hts inX2 hown hK.1 hP 0 rfl rfl 2 (by decide) f27 (fun _ h9 => h9) rfl dX2_sameBehind_55 ?_
            refine lv_iconst (v := iI 0) hx hb dX2_sameBehind_58 rfl ?_
            refine lv_aload_n hx hb dX2_sameBehind_59 rfl (lv_at hl 1 rfl) ?_
            refine va_get (D := g) (ci := 2) (v := .int (iI (sH cs kk))) (C := RX2) (T := TX2) (N := 16) hx hb hts inX2 hown hK.1 hP 0 rfl rfl 12 (by decide) f56 (fun _ h9 => h9) rfl dX2_sameBehind_60 ?_
            refine lv_iload_n hx hb dX2_sameBehind_63 rfl (lv_at hl 3 rfl) ?_
            refine lv_iload hx hb dX2_sameBehind_64 (lv_at hl 5 rfl) ?_
            refine ri_imul (a := side) (b := i) hx hb dX2_sameBehind_66 ?_
            refine ri_isub (a := (sH cs kk)) (b := (side * i)) hx hb dX2_sameBehind_67 ?_
            refine rc_P (own := RX2) (q := (RX2, TX2, 16)) (wc := [(w, .inr (2, [.int (iI 120), .int (iI 4), .ref t0, .ref t1, .ref a0, .ref a1, .ref a2, .int (iI o), .int (iI (kk : Int)), .int (iI pe), .int (iI dr), .int (iI (sS cs kk)), .int (iI (sH cs kk)), .int (iI on), .int (iI lf), .int (iI rt)])), (t0, .inl (k.2.1, 4, .inr (.inl (bW 120 (sT cs kk)))))]) (As := [.ref t0, .int (iI 0), .int (iI ((sH cs kk) - (side * i)))]) (rest := [.int (iI (sT cs th.toNat (hs th - side * i)))]) ⟨hx, hb, hml, hown, hts⟩ (c_symbolIn120 l g k w t0 t1 a0 a1 a2 o (kk : Int) pe dr (sS cs kk) (sH cs kk) on lf rt t0 4 (bW 120 (sT cs kk)) 0 (sH cs kk - side * i) (sT cs kk) (sT_01 cs _) (fun j hj => sT_out cs _ j (by omega)) (by omega) (fun w _ => by rw [show (0 : Int).toNat + w = w by omega]) (by omega)) (cwV 3 hts gX2_sameBehind_X2_symbolIn rfl rfl rfl (by decide +kernel) ⟨Nat.le_of_ble_eq_true rfl, Nat.le_of_ble_eq_true rfl⟩) hK hP [0, 1] rfl (ci := 2) (q0 := 0) rfl rfl rfl rfl hl.1 (Nat.le_of_ble_eq_true rfl) ⟨Nat.le_of_ble_eq_true rfl, Nat.le_of_ble_eq_true rfl⟩ dX2_sameBehind_68 (fun r68 hr68 => ?_)
            refine ri_top (y := iI (sT cs kk (sH cs kk - side * i))) hr68 ?_
            have d1 := sT_01 cs th.toNat (hs th - side * i)
            have d2 := sT_01 cs kk (sH cs kk - side * i)
            refine ri_icmp_eq (a := (sT cs th.toNat (hs th - side * i))) (b := (sT cs kk (sH cs kk - side * i))) (tgt := 76) hx hb (by omega) (by omega) dX2_sameBehind_71 (by decide) (fun c71 => ?_) (fun c71 => ?_)
            · skip
              refine ri_iinc (x := i) (lv' := [(4, .int (iI (i + 1))), (5, .int (iI (sT cs th.toNat (hs th - side * i)))), (0, .ref w), (1, .int (iI th)), (2, .int (iI side)), (3, .int (iI dp))]) hx hb dX2_sameBehind_76 hl (k := 5) rfl (by decide) rfl (fun ls hl => ?_)
              refine lv_goto (tgt := 18) hx hb dX2_sameBehind_79 (by decide) ?_
              exact ih (i + 1) (by omega) (by omega) (fun j h1 h2 => by by_cases q : j < i; exact hal9 j h1 q; rw [show j = i by omega, ← h4.1]; exact c71) _ (lv_sub hl [2, 3, 4, 5, 0] rfl)
            · skip
              refine lv_iconst (v := iI 0) hx hb dX2_sameBehind_74 rfl ?_
              exact hret 0 _ _ dX2_sameBehind_75 (by first | exact Or.inl rfl | exact Or.inr rfl | omega) ⟨0, rfl, Or.inr ⟨rfl, fun h => c71 (by rw [h4.1]; exact h i (by omega) (by omega))⟩⟩
      exact J18 ((dp + 2 - 0 : Int).toNat.succ) 0 (by omega) (by omega) (fun j h1 h2 => absurd h2 (by omega)) _ (lv_sub hl [1, 2, 3, 4, 0] rfl)
    · exact absurd (by omega) c10

