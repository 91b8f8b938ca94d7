set_option maxHeartbeats 4000000 in
set_option maxRecDepth 100000 in
theorem c_sameTape300 (l : Launch) (g : va_G) (k : kT) (w t0 t1 a0 a1 a2 : Nat) (o st pe dr sta hd on lf rt : Int) (tp tps : Nat → Int64) (th : Int) (hth : 0 ≤ th ∧ th ≤ 300) : cP l yX2_sameTape wsX2_sameTape rm_0 g k [wO300 w t0 t1 a0 a1 a2 o st pe dr sta hd on lf rt, (t0, .inl (k.2.1, 10, .inr (.inl tp))), (t1, .inl (k.2.1, 3010, .inr (.inl tps)))] [.ref w, .int (iI th)] (fun r => ∃ v : Int, r = iI v ∧ ((v = 1 ∧ ∀ w : Nat, w < 10 → tps ((th * 10).toNat + w) = tp w) ∨ (v = 0 ∧ ¬ ∀ w : Nat, w < 10 → tps ((th * 10).toNat + w) = tp w))) := by
  refine st_Z (by decide) rfl (Nat.le_of_ble_eq_true rfl) ?_
  intro p e s m below meth c Q hx hb hml hown hts hP hK hret ls hl
  have hown : s.vm.findClass RX2 = some m.cls := hown
  have f24 := hts (.fieldLink RX2 24 "MachineTree$Walk" "words" "I") (by decide +kernel)
  have inX2 := (by decide +kernel : ∀ w ∈ wsX20, w ∈ wsX2_sameTape)
  have f31 := hts (.fieldLink RX2 31 "MachineTree$Walk" "tapes" "[J") (by decide +kernel)
  have f27 := hts (.fieldLink RX2 27 "MachineTree$Walk" "tape" "[J") (by decide +kernel)
  have hl : lv_has ls 4 [(0, .ref w), (1, .int (iI th))] := hl
  refine lv_iload_n hx hb dX2_sameTape_0 rfl (lv_at hl 1 rfl) ?_
  refine lv_aload_n hx hb dX2_sameTape_1 rfl (lv_at hl 0 rfl) ?_
  refine va_get (D := g) (ci := 2) (v := .int (iI 10)) (C := RX2) (T := TX2) (N := 16) hx hb hts inX2 hown hK.1 hP 0 rfl rfl 1 (by decide) f24 (fun _ h9 => h9) rfl dX2_sameTape_2 ?_
  refine ri_imul (a := th) (b := 10) hx hb dX2_sameTape_5 ?_
  refine lv_istore_n (lv' := [(2, .int (iI (th * 10))), (0, .ref w), (1, .int (iI th))]) hx hb dX2_sameTape_6 rfl hl (by decide) rfl (fun ls hl => ?_)
  refine lv_iload_n hx hb dX2_sameTape_7 rfl (lv_at hl 0 rfl) ?_
  refine ri_if_lt (a := (th * 10)) (tgt := 25) hx hb (by omega) dX2_sameTape_8 (by decide) (fun c8 => ?_) (fun c8 => ?_)
  · exact absurd c8 (by omega)
  · skip
    refine lv_iload_n hx hb dX2_sameTape_11 rfl (lv_at hl 0 rfl) ?_
    refine lv_aload_n hx hb dX2_sameTape_12 rfl (lv_at hl 1 rfl) ?_
    refine va_get (D := g) (ci := 2) (v := .int (iI 10)) (C := RX2) (T := TX2) (N := 16) hx hb hts inX2 hown hK.1 hP 0 rfl rfl 1 (by decide) f24 (fun _ h9 => h9) rfl dX2_sameTape_13 ?_
    refine ri_iadd (a := (th * 10)) (b := 10) hx hb dX2_sameTape_16 ?_
    refine lv_aload_n hx hb dX2_sameTape_17 rfl (lv_at hl 1 rfl) ?_
    refine va_get (D := g) (ci := 2) (v := .ref t1) (C := RX2) (T := TX2) (N := 16) hx hb hts inX2 hown hK.1 hP 0 rfl rfl 3 (by decide) f31 (fun _ h9 => h9) rfl dX2_sameTape_18 ?_
    refine ri_alen hx hb hK.1 hP 2 1 rfl rfl dX2_sameTape_21 ?_
    refine ri_ex (b := 3010) rfl ?_
    refine ri_icmp_le (a := ((th * 10) + 10)) (b := 3010) (tgt := 27) hx hb (by omega) (by omega) dX2_sameTape_22 (by decide) (fun c22 => ?_) (fun c22 => ?_)
    · skip
      refine lv_iconst (v := iI 0) hx hb dX2_sameTape_27 rfl ?_
      refine lv_istore_n (lv' := [(3, .int (iI 0)), (2, .int (iI (th * 10))), (0, .ref w), (1, .int (iI th))]) hx hb dX2_sameTape_28 rfl hl (by decide) rfl (fun ls hl => ?_)
      have J29 : ∀ (n9 : Nat) (i : Int), 10 - i < (n9 : Int) → (0 ≤ i ∧ i ≤ 10) → (∀ w : Nat, (w : Int) < i → tps ((th * 10).toNat + w) = tp w) → ∀ (ls : Array Slot), lv_has ls 4 [(0, .ref w), (1, .int (iI th)), (2, .int (iI (th * 10))), (3, .int (iI i))] → W p l e rm_0 s m ([.ref w, .int (iI th)] : List Value).toArray below meth c s.heap [] 0 0 Q (F0 m 29 ls []) := by
        intro n9
        induction n9 with
        | zero => intro i hm9 hi hal; exact absurd hm9 (by omega)
        | succ n9 ih =>
          intro i hm9 hi hal ls hl
          refine lv_iload_n hx hb dX2_sameTape_29 rfl (lv_at hl 3 rfl) ?_
          refine lv_aload_n hx hb dX2_sameTape_30 rfl (lv_at hl 0 rfl) ?_
          refine va_get (D := g) (ci := 2) (v := .int (iI 10)) (C := RX2) (T := TX2) (N := 16) hx hb hts inX2 hown hK.1 hP 0 rfl rfl 1 (by decide) f24 (fun _ h9 => h9) rfl dX2_sameTape_31 ?_
          refine ri_icmp_ge (a := i) (b := 10) (tgt := 63) hx hb (by omega) (by omega) dX2_sameTape_34 (by decide) (fun c34 => ?_) (fun c34 => ?_)
          · skip
            refine lv_iconst (v := iI 1) hx hb dX2_sameTape_63 rfl ?_
            exact hret 1 _ _ dX2_sameTape_64 (by first | exact Or.inl rfl | exact Or.inr rfl | omega) ⟨1, rfl, Or.inl ⟨rfl, fun w hw => hal w (by omega)⟩⟩
          · skip
            refine lv_aload_n hx hb dX2_sameTape_37 rfl (lv_at hl 0 rfl) ?_
            refine va_get (D := g) (ci := 2) (v := .ref t1) (C := RX2) (T := TX2) (N := 16) hx hb hts inX2 hown hK.1 hP 0 rfl rfl 3 (by decide) f31 (fun _ h9 => h9) rfl dX2_sameTape_38 ?_
            refine lv_iload_n hx hb dX2_sameTape_41 rfl (lv_at hl 2 rfl) ?_
            refine lv_iload_n hx hb dX2_sameTape_42 rfl (lv_at hl 3 rfl) ?_
            refine ri_iadd (a := (th * 10)) (b := i) hx hb dX2_sameTape_43 ?_
            refine ri_lald (f := tps) (i := ((th * 10) + i)) hx hb hK.1 hP 2 1 rfl rfl (by omega) (by omega) dX2_sameTape_44 ?_
            refine lv_aload_n hx hb dX2_sameTape_45 rfl (lv_at hl 0 rfl) ?_
            refine va_get (D := g) (ci := 2) (v := .ref t0) (C := RX2) (T := TX2) (N := 16) hx hb hts inX2 hown hK.1 hP 0 rfl rfl 2 (by decide) f27 (fun _ h9 => h9) rfl dX2_sameTape_46 ?_
            refine lv_iload_n hx hb dX2_sameTape_49 rfl (lv_at hl 3 rfl) ?_
            refine ri_lald (f := tp) (i := i) hx hb hK.1 hP 1 1 rfl rfl (by omega) (by omega) dX2_sameTape_50 ?_
            refine W.lcmp hx hb dX2_sameTape_51 ?_
            refine lv_if_eq (tgt := 57) hx hb dX2_sameTape_52 (by decide) (fun c52 => ?_) (fun c52 => ?_)
            · skip
              have c52 := (lg_cmp_eq _ _).mp c52
              refine ri_iinc (x := i) (lv' := [(3, .int (iI (i + 1))), (0, .ref w), (1, .int (iI th)), (2, .int (iI (th * 10)))]) hx hb dX2_sameTape_57 hl (k := 3) rfl (by decide) rfl (fun ls hl => ?_)
              refine lv_goto (tgt := 29) hx hb dX2_sameTape_60 (by decide) ?_
              exact ih (i + 1) (by omega) (by omega) (fun w hw => by by_cases q : (w : Int) < i; exact hal w q; rw [show w = i.toNat by omega, ← c52]; congr 1; omega) _ (lv_sub hl [1, 2, 3, 0] rfl)
            · skip
              have c52 : ¬ _ = _ := fun q => c52 ((lg_cmp_eq _ _).mpr q)
              refine lv_iconst (v := iI 0) hx hb dX2_sameTape_55 rfl ?_
              exact hret 0 _ _ dX2_sameTape_56 (by first | exact Or.inl rfl | exact Or.inr rfl | omega) ⟨0, rfl, Or.inr ⟨rfl, fun h => c52 (by rw [← h i.toNat (by omega)]; congr 1; omega)⟩⟩
      exact J29 ((10 - 0 : Int).toNat.succ) 0 (by omega) (by omega) (fun w hw => absurd hw (by omega)) _ (lv_sub hl [2, 3, 1, 0] rfl)
    · exact absurd (by omega) c22

set_option maxHeartbeats 4000000 in
set_option maxRecDepth 100000 in
theorem c_latestSame300 (l : Launch) (g : va_G) (k : kT) (w t0 t1 a0 a1 a2 : Nat) (o pe dr on lf rt : Int) (tps : Nat → Int64) (hs ss sd : Int → Int) (cs : Int → Int) (hc : okC cs) (kk : Nat) (hk1 : 1 ≤ kk ∧ kk ≤ 300) (hal : alive cs kk) (hRp : Rp cs 300 10 kk tps hs ss sd) : cP l yX2_latestSame wsX2_latestSame rm_1 g k (wW300 k w t0 t1 a0 a1 a2 o (kk : Int) pe dr (sS cs kk) (sH cs kk) on lf rt (bW 300 (sT cs kk)) tps hs ss sd) [.ref w] (fun r => r = iI (cyA cs kk)) := by
  refine st_P (by decide) rfl (Nat.le_of_ble_eq_true rfl) ?_
  intro p e s m below meth c Q hx hb hml hown hts hP hK hret ls hl
  have hown : s.vm.findClass RX2 = some m.cls := hown
  have f47 := hts (.fieldLink RX2 47 "MachineTree$Walk" "steps" "I") (by decide +kernel)
  have inX2 := (by decide +kernel : ∀ w ∈ wsX20, w ∈ wsX2_latestSame)
  have f18 := hts (.fieldLink RX2 18 "MachineTree$Walk" "reach" "I") (by decide +kernel)
  have f34 := hts (.fieldLink RX2 34 "MachineTree$Walk" "heads" "[I") (by decide +kernel)
  have f56 := hts (.fieldLink RX2 56 "MachineTree$Walk" "head" "I") (by decide +kernel)
  have f38 := hts (.fieldLink RX2 38 "MachineTree$Walk" "states" "[I") (by decide +kernel)
  have f53 := hts (.fieldLink RX2 53 "MachineTree$Walk" "state" "I") (by decide +kernel)
  have hl : lv_has ls 2 [(0, .ref w)] := hl
  refine lv_aload_n hx hb dX2_latestSame_0 rfl (lv_at hl 0 rfl) ?_
  refine va_get (D := g) (ci := 2) (v := .int (iI (kk : Int))) (C := RX2) (T := TX2) (N := 16) hx hb hts inX2 hown hK.1 hP 0 rfl rfl 8 (by decide) f47 (fun _ h9 => h9) rfl dX2_latestSame_1 ?_
  refine lv_aload_n hx hb dX2_latestSame_4 rfl (lv_at hl 0 rfl) ?_
  refine va_get (D := g) (ci := 2) (v := .int (iI 300)) (C := RX2) (T := TX2) (N := 16) hx hb hts inX2 hown hK.1 hP 0 rfl rfl 0 (by decide) f18 (fun _ h9 => h9) rfl dX2_latestSame_5 ?_
  refine va_mmin hx hb (by rw [hml]; exact hl.1.symm) hown (hts (.methodLink RX2 9 Lib.Math.min.name) (by decide +kernel)) (hts (.static Lib.Math.min.name) (by decide +kernel)) (hts (.initialized "java/lang/Math") (by decide +kernel)) (hts (.code Lib.Math.min.name Lib.Math.min.code 2 (some .int)) (by decide +kernel)) (Nat.le_of_ble_eq_true rfl) (Nat.le_of_ble_eq_true rfl) (Nat.le_of_ble_eq_true rfl) (Nat.le_of_ble_eq_true rfl) dX2_latestSame_8 ?_
  refine ri_top (iI_min (a := (kk : Int)) (b := 300) (by omega) (by omega)) ?_
  refine ri_ex (b := (kk : Int)) (by omega) ?_
  refine lv_iconst (v := iI 2) hx hb dX2_latestSame_11 rfl ?_
  refine ri_isub (a := (kk : Int)) (b := 2) hx hb dX2_latestSame_12 ?_
  refine lv_istore_n (lv' := [(1, .int (iI ((kk : Int) - 2))), (0, .ref w)]) hx hb dX2_latestSame_13 rfl hl (by decide) rfl (fun ls hl => ?_)
  have J14 : ∀ (n9 : Nat) (th : Int), th + 3 < (n9 : Int) → (-2 ≤ th ∧ th ≤ (kk : Int) - 2 ∧ ((kk : Int) - th) % 2 = 0) → (cyA cs kk = lat (cyc cs kk) (th + 1).toNat) → ∀ (ls : Array Slot), lv_has ls 2 [(0, .ref w), (1, .int (iI th))] → W p l e rm_1 s m ([.ref w] : List Value).toArray below meth c s.heap [] 0 0 Q (F0 m 14 ls []) := by
    intro n9
    induction n9 with
    | zero => intro th hm9 hi hl9; exact absurd hm9 (by omega)
    | succ n9 ih =>
      intro th hm9 hi hl9 ls hl
      refine lv_iload_n hx hb dX2_latestSame_14 rfl (lv_at hl 1 rfl) ?_
      refine ri_if_lt (a := th) (tgt := 60) hx hb (by omega) dX2_latestSame_15 (by decide) (fun c15 => ?_) (fun c15 => ?_)
      · skip
        refine lv_iconst (v := iI (-1)) hx hb dX2_latestSame_60 rfl ?_
        exact hret (iI (-1)) _ _ dX2_latestSame_61 (by rw [hl9, show (th + 1).toNat = 0 by omega]; rfl)
      · skip
        have h4 := hRp th.toNat (by omega)
        rw [Int.toNat_of_nonneg (by omega : 0 ≤ th)] at h4
        have b1 := sH_b cs th.toNat
        have b2 := sH_b cs kk
        have b3 := sS_b hc kk hal
        have b4 := sS_b hc th.toNat (fun i hi => hal i (by omega))
        refine lv_aload_n hx hb dX2_latestSame_18 rfl (lv_at hl 0 rfl) ?_
        refine va_get (D := g) (ci := 2) (v := .ref a0) (C := RX2) (T := TX2) (N := 16) hx hb hts inX2 hown hK.1 hP 0 rfl rfl 4 (by decide) f34 (fun _ h9 => h9) rfl dX2_latestSame_19 ?_
        refine lv_iload_n hx hb dX2_latestSame_22 rfl (lv_at hl 1 rfl) ?_
        refine ri_iald (F := hs) (i := th) hx hb hK.1 hP 3 0 rfl rfl (by omega) (by omega) dX2_latestSame_23 ?_
        refine lv_aload_n hx hb dX2_latestSame_24 rfl (lv_at hl 0 rfl) ?_
        refine va_get (D := g) (ci := 2) (v := .int (iI (sH cs kk))) (C := RX2) (T := TX2) (N := 16) hx hb hts inX2 hown hK.1 hP 0 rfl rfl 12 (by decide) f56 (fun _ h9 => h9) rfl dX2_latestSame_25 ?_
        refine ri_icmp_ne (a := (hs th)) (b := (sH cs kk)) (tgt := 54) hx hb (by rw [h4.1]; omega) (by omega) dX2_latestSame_28 (by decide) (fun c28 => ?_) (fun c28 => ?_)
        · skip
          have hl8 : cyA cs kk = lat (cyc cs kk) (th + -2 + 1).toNat := (by rw [hl9]; exact lat_2 (by omega) (fun q => c28 (by rw [h4.1]; exact q.2.1)) (fun _ => cyc_par (by omega)))
          refine ri_iinc (x := th) (lv' := [(1, .int (iI (th + (-2)))), (0, .ref w)]) hx hb dX2_latestSame_54 hl (k := 1) rfl (by decide) rfl (fun ls hl => ?_)
          refine lv_goto (tgt := 14) hx hb dX2_latestSame_57 (by decide) ?_
          exact ih (th + (-2)) (by omega) (by omega) hl8 _ (lv_sub hl [1, 0] rfl)
        · skip
          refine lv_aload_n hx hb dX2_latestSame_31 rfl (lv_at hl 0 rfl) ?_
          refine va_get (D := g) (ci := 2) (v := .ref a1) (C := RX2) (T := TX2) (N := 16) hx hb hts inX2 hown hK.1 hP 0 rfl rfl 5 (by decide) f38 (fun _ h9 => h9) rfl dX2_latestSame_32 ?_
          refine lv_iload_n hx hb dX2_latestSame_35 rfl (lv_at hl 1 rfl) ?_
          refine ri_iald (F := ss) (i := th) hx hb hK.1 hP 4 0 rfl rfl (by omega) (by omega) dX2_latestSame_36 ?_
          refine lv_aload_n hx hb dX2_latestSame_37 rfl (lv_at hl 0 rfl) ?_
          refine va_get (D := g) (ci := 2) (v := .int (iI (sS cs kk))) (C := RX2) (T := TX2) (N := 16) hx hb hts inX2 hown hK.1 hP 0 rfl rfl 11 (by decide) f53 (fun _ h9 => h9) rfl dX2_latestSame_38 ?_
          refine ri_icmp_ne (a := (ss th)) (b := (sS cs kk)) (tgt := 54) hx hb (by rw [h4.2.1]; omega) (by omega) dX2_latestSame_41 (by decide) (fun c41 => ?_) (fun c41 => ?_)
          · skip
            have hl8 : cyA cs kk = lat (cyc cs kk) (th + -2 + 1).toNat := (by rw [hl9]; exact lat_2 (by omega) (fun q => c41 (by rw [h4.2.1]; exact q.1)) (fun _ => cyc_par (by omega)))
            refine ri_iinc (x := th) (lv' := [(1, .int (iI (th + (-2)))), (0, .ref w)]) hx hb dX2_latestSame_54 hl (k := 1) rfl (by decide) rfl (fun ls hl => ?_)
            refine lv_goto (tgt := 14) hx hb dX2_latestSame_57 (by decide) ?_
            exact ih (th + (-2)) (by omega) (by omega) hl8 _ (lv_sub hl [1, 0] rfl)
          · skip
            refine lv_aload_n hx hb dX2_latestSame_44 rfl (lv_at hl 0 rfl) ?_
            refine lv_iload_n hx hb dX2_latestSame_45 rfl (lv_at hl 1 rfl) ?_
            refine rc_P (own := RX2) (q := (RX2, TX2, 16)) (wc := [(w, .inr (2, [.int (iI 300), .int (iI 10), .ref t0, .ref t1, .ref a0, .ref a1, .ref a2, .int (iI o), .int (iI (kk : Int)), .int (iI pe), .int (iI dr), .int (iI (sS cs kk)), .int (iI (sH cs kk)), .int (iI on), .int (iI lf), .int (iI rt)])), (t0, .inl (k.2.1, 10, .inr (.inl (bW 300 (sT cs kk))))), (t1, .inl (k.2.1, 3010, .inr (.inl tps)))]) (As := [.int (iI th)]) (rest := []) ⟨hx, hb, hml, hown, hts⟩ (c_sameTape300 l g k w t0 t1 a0 a1 a2 o (kk : Int) pe dr (sS cs kk) (sH cs kk) on lf rt (bW 300 (sT cs kk)) tps th (by omega)) (cwV 1 hts gX2_latestSame_X2_sameTape rfl rfl rfl (by decide +kernel) ⟨Nat.le_of_ble_eq_true rfl, Nat.le_of_ble_eq_true rfl⟩) hK hP [0, 1, 2] rfl (ci := 2) (q0 := 0) rfl rfl rfl rfl hl.1 (Nat.le_of_ble_eq_true rfl) ⟨Nat.le_of_ble_eq_true rfl, Nat.le_of_ble_eq_true rfl⟩ dX2_latestSame_46 (fun r46 hr46 => ?_)
            obtain ⟨v46, e46, h46⟩ := hr46
            have hv46 : 0 ≤ v46 ∧ v46 ≤ 1 := by rcases h46 with ⟨h, -⟩ | ⟨h, -⟩ <;> omega
            refine ri_top (y := iI v46) e46 ?_
            refine ri_if_eq (a := v46) (tgt := 54) hx hb (by omega) dX2_latestSame_49 (by decide) (fun c49 => ?_) (fun c49 => ?_)
            · skip
              have hl8 : cyA cs kk = lat (cyc cs kk) (th + -2 + 1).toNat := (by rw [hl9]; exact lat_2 (by omega) (fun q => by rcases h46 with ⟨e1, e2⟩ | ⟨e1, e2⟩; omega; exact e2 (fun w hw => by rw [show (th * 10).toNat = th.toNat * 10 by omega, h4.2.2.2 w hw]; exact bW_eq q.2.2 w)) (fun _ => cyc_par (by omega)))
              refine ri_iinc (x := th) (lv' := [(1, .int (iI (th + (-2)))), (0, .ref w)]) hx hb dX2_latestSame_54 hl (k := 1) rfl (by decide) rfl (fun ls hl => ?_)
              refine lv_goto (tgt := 14) hx hb dX2_latestSame_57 (by decide) ?_
              exact ih (th + (-2)) (by omega) (by omega) hl8 _ (lv_sub hl [1, 0] rfl)
            · skip
              refine lv_iload_n hx hb dX2_latestSame_52 rfl (lv_at hl 1 rfl) ?_
              exact hret (iI th) _ _ dX2_latestSame_53 (by rw [hl9]; congr 1; symm; refine lat_h (by omega) ⟨by rw [← h4.2.1]; omega, by rw [← h4.1]; omega, ?_⟩; rcases h46 with ⟨e1, e2⟩ | ⟨e1, e2⟩; exact (bW_all (R := 300) (Wd := 10) (by decide) (sT_01 cs _) (sT_01 cs _) (fun j hj => sT_out cs _ j (by omega)) (fun j hj => sT_out cs _ j (by omega))).mp (fun w hw => by rw [← h4.2.2.2 w hw, ← e2 w hw]; congr 1; omega); omega)
  exact J14 ((((kk : Int) - 2) + 3 : Int).toNat.succ) ((kk : Int) - 2) (by omega) (by omega) (by unfold cyA; rw [show ((kk : Int) - 2 + 1).toNat = kk - 1 by omega]; obtain ⟨j, rfl⟩ : ∃ j, kk = j + 1 := ⟨kk - 1, by omega⟩; exact lat_n (cyc_par (by omega))) _ (lv_sub hl [1, 0] rfl)

set_option maxHeartbeats 4000000 in
set_option maxRecDepth 100000 in
theorem c_sameTape120 (l : Launch) (g : va_G) (k : kT) (w t0 t1 a0 a1 a2 : Nat) (o st pe dr sta hd on lf rt : Int) (tp tps : Nat → Int64) (th : Int) (hth : 0 ≤ th ∧ th ≤ 120) : cP l yX2_sameTape wsX2_sameTape rm_0 g k [wO120 w t0 t1 a0 a1 a2 o st pe dr sta hd on lf rt, (t0, .inl (k.2.1, 4, .inr (.inl tp))), (t1, .inl (k.2.1, 484, .inr (.inl tps)))] [.ref w, .int (iI th)] (fun r => ∃ v : Int, r = iI v ∧ ((v = 1 ∧ ∀ w : Nat, w < 4 → tps ((th * 4).toNat + w) = tp w) ∨ (v = 0 ∧ ¬ ∀ w : Nat, w < 4 → tps ((th * 4).toNat + w) = tp w))) := by
  refine st_Z (by decide) rfl (Nat.le_of_ble_eq_true rfl) ?_
  intro p e s m below meth c Q hx hb hml hown hts hP hK hret ls hl
  have hown : s.vm.findClass RX2 = some m.cls := hown
  have f24 := hts (.fieldLink RX2 24 "MachineTree$Walk" "words" "I") (by decide +kernel)
  have inX2 := (by decide +kernel : ∀ w ∈ wsX20, w ∈ wsX2_sameTape)
  have f31 := hts (.fieldLink RX2 31 "MachineTree$Walk" "tapes" "[J") (by decide +kernel)
  have f27 := hts (.fieldLink RX2 27 "MachineTree$Walk" "tape" "[J") (by decide +kernel)
  have hl : lv_has ls 4 [(0, .ref w), (1, .int (iI th))] := hl
  refine lv_iload_n hx hb dX2_sameTape_0 rfl (lv_at hl 1 rfl) ?_
  refine lv_aload_n hx hb dX2_sameTape_1 rfl (lv_at hl 0 rfl) ?_
  refine va_get (D := g) (ci := 2) (v := .int (iI 4)) (C := RX2) (T := TX2) (N := 16) hx hb hts inX2 hown hK.1 hP 0 rfl rfl 1 (by decide) f24 (fun _ h9 => h9) rfl dX2_sameTape_2 ?_
  refine ri_imul (a := th) (b := 4) hx hb dX2_sameTape_5 ?_
  refine lv_istore_n (lv' := [(2, .int (iI (th * 4))), (0, .ref w), (1, .int (iI th))]) hx hb dX2_sameTape_6 rfl hl (by decide) rfl (fun ls hl => ?_)
  refine lv_iload_n hx hb dX2_sameTape_7 rfl (lv_at hl 0 rfl) ?_
  refine ri_if_lt (a := (th * 4)) (tgt := 25) hx hb (by omega) dX2_sameTape_8 (by decide) (fun c8 => ?_) (fun c8 => ?_)
  · exact absurd c8 (by omega)
  · skip
    refine lv_iload_n hx hb dX2_sameTape_11 rfl (lv_at hl 0 rfl) ?_
    refine lv_aload_n hx hb dX2_sameTape_12 rfl (lv_at hl 1 rfl) ?_
    refine va_get (D := g) (ci := 2) (v := .int (iI 4)) (C := RX2) (T := TX2) (N := 16) hx hb hts inX2 hown hK.1 hP 0 rfl rfl 1 (by decide) f24 (fun _ h9 => h9) rfl dX2_sameTape_13 ?_
    refine ri_iadd (a := (th * 4)) (b := 4) hx hb dX2_sameTape_16 ?_
    refine lv_aload_n hx hb dX2_sameTape_17 rfl (lv_at hl 1 rfl) ?_
    refine va_get (D := g) (ci := 2) (v := .ref t1) (C := RX2) (T := TX2) (N := 16) hx hb hts inX2 hown hK.1 hP 0 rfl rfl 3 (by decide) f31 (fun _ h9 => h9) rfl dX2_sameTape_18 ?_
    refine ri_alen hx hb hK.1 hP 2 1 rfl rfl dX2_sameTape_21 ?_
    refine ri_ex (b := 484) rfl ?_
    refine ri_icmp_le (a := ((th * 4) + 4)) (b := 484) (tgt := 27) hx hb (by omega) (by omega) dX2_sameTape_22 (by decide) (fun c22 => ?_) (fun c22 => ?_)
    · skip
      refine lv_iconst (v := iI 0) hx hb dX2_sameTape_27 rfl ?_
      refine lv_istore_n (lv' := [(3, .int (iI 0)), (2, .int (iI (th * 4))), (0, .ref w), (1, .int (iI th))]) hx hb dX2_sameTape_28 rfl hl (by decide) rfl (fun ls hl => ?_)
      have J29 : ∀ (n9 : Nat) (i : Int), 4 - i < (n9 : Int) → (0 ≤ i ∧ i ≤ 4) → (∀ w : Nat, (w : Int) < i → tps ((th * 4).toNat + w) = tp w) → ∀ (ls : Array Slot), lv_has ls 4 [(0, .ref w), (1, .int (iI th)), (2, .int (iI (th * 4))), (3, .int (iI i))] → W p l e rm_0 s m ([.ref w, .int (iI th)] : List Value).toArray below meth c s.heap [] 0 0 Q (F0 m 29 ls []) := by
        intro n9
        induction n9 with
        | zero => intro i hm9 hi hal; exact absurd hm9 (by omega)
        | succ n9 ih =>
          intro i hm9 hi hal ls hl
          refine lv_iload_n hx hb dX2_sameTape_29 rfl (lv_at hl 3 rfl) ?_
          refine lv_aload_n hx hb dX2_sameTape_30 rfl (lv_at hl 0 rfl) ?_
          refine va_get (D := g) (ci := 2) (v := .int (iI 4)) (C := RX2) (T := TX2) (N := 16) hx hb hts inX2 hown hK.1 hP 0 rfl rfl 1 (by decide) f24 (fun _ h9 => h9) rfl dX2_sameTape_31 ?_
          refine ri_icmp_ge (a := i) (b := 4) (tgt := 63) hx hb (by omega) (by omega) dX2_sameTape_34 (by decide) (fun c34 => ?_) (fun c34 => ?_)
          · skip
            refine lv_iconst (v := iI 1) hx hb dX2_sameTape_63 rfl ?_
            exact hret 1 _ _ dX2_sameTape_64 (by first | exact Or.inl rfl | exact Or.inr rfl | omega) ⟨1, rfl, Or.inl ⟨rfl, fun w hw => hal w (by omega)⟩⟩
          · skip
            refine lv_aload_n hx hb dX2_sameTape_37 rfl (lv_at hl 0 rfl) ?_
            refine va_get (D := g) (ci := 2) (v := .ref t1) (C := RX2) (T := TX2) (N := 16) hx hb hts inX2 hown hK.1 hP 0 rfl rfl 3 (by decide) f31 (fun _ h9 => h9) rfl dX2_sameTape_38 ?_
            refine lv_iload_n hx hb dX2_sameTape_41 rfl (lv_at hl 2 rfl) ?_
            refine lv_iload_n hx hb dX2_sameTape_42 rfl (lv_at hl 3 rfl) ?_
            refine ri_iadd (a := (th * 4)) (b := i) hx hb dX2_sameTape_43 ?_
            refine ri_lald (f := tps) (i := ((th * 4) + i)) hx hb hK.1 hP 2 1 rfl rfl (by omega) (by omega) dX2_sameTape_44 ?_
            refine lv_aload_n hx hb dX2_sameTape_45 rfl (lv_at hl 0 rfl) ?_
            refine va_get (D := g) (ci := 2) (v := .ref t0) (C := RX2) (T := TX2) (N := 16) hx hb hts inX2 hown hK.1 hP 0 rfl rfl 2 (by decide) f27 (fun _ h9 => h9) rfl dX2_sameTape_46 ?_
            refine lv_iload_n hx hb dX2_sameTape_49 rfl (lv_at hl 3 rfl) ?_
            refine ri_lald (f := tp) (i := i) hx hb hK.1 hP 1 1 rfl rfl (by omega) (by omega) dX2_sameTape_50 ?_
            refine W.lcmp hx hb dX2_sameTape_51 ?_
            refine lv_if_eq (tgt := 57) hx hb dX2_sameTape_52 (by decide) (fun c52 => ?_) (fun c52 => ?_)
            · skip
              have c52 := (lg_cmp_eq _ _).mp c52
              refine ri_iinc (x := i) (lv' := [(3, .int (iI (i + 1))), (0, .ref w), (1, .int (iI th)), (2, .int (iI (th * 4)))]) hx hb dX2_sameTape_57 hl (k := 3) rfl (by decide) rfl (fun ls hl => ?_)
              refine lv_goto (tgt := 29) hx hb dX2_sameTape_60 (by decide) ?_
              exact ih (i + 1) (by omega) (by omega) (fun w hw => by by_cases q : (w : Int) < i; exact hal w q; rw [show w = i.toNat by omega, ← c52]; congr 1; omega) _ (lv_sub hl [1, 2, 3, 0] rfl)
            · skip
              have c52 : ¬ _ = _ := fun q => c52 ((lg_cmp_eq _ _).mpr q)
              refine lv_iconst (v := iI 0) hx hb dX2_sameTape_55 rfl ?_
              exact hret 0 _ _ dX2_sameTape_56 (by first | exact Or.inl rfl | exact Or.inr rfl | omega) ⟨0, rfl, Or.inr ⟨rfl, fun h => c52 (by rw [← h i.toNat (by omega)]; congr 1; omega)⟩⟩
      exact J29 ((4 - 0 : Int).toNat.succ) 0 (by omega) (by omega) (fun w hw => absurd hw (by omega)) _ (lv_sub hl [2, 3, 1, 0] rfl)
    · exact absurd (by omega) c22

set_option maxHeartbeats 4000000 in
set_option maxRecDepth 100000 in
theorem c_latestSame120 (l : Launch) (g : va_G) (k : kT) (w t0 t1 a0 a1 a2 : Nat) (o pe dr on lf rt : Int) (tps : Nat → Int64) (hs ss sd : Int → Int) (cs : Int → Int) (hc : okC cs) (kk : Nat) (hk1 : 1 ≤ kk ∧ kk ≤ 120) (hal : alive cs kk) (hRp : Rp cs 120 4 kk tps hs ss sd) : cP l yX2_latestSame wsX2_latestSame rm_1 g k (wW120 k w t0 t1 a0 a1 a2 o (kk : Int) pe dr (sS cs kk) (sH cs kk) on lf rt (bW 120 (sT cs kk)) tps hs ss sd) [.ref w] (fun r => r = iI (cyA cs kk)) := by
  refine st_P (by decide) rfl (Nat.le_of_ble_eq_true rfl) ?_
  intro p e s m below meth c Q hx hb hml hown hts hP hK hret ls hl
  have hown : s.vm.findClass RX2 = some m.cls := hown
  have f47 := hts (.fieldLink RX2 47 "MachineTree$Walk" "steps" "I") (by decide +kernel)
  have inX2 := (by decide +kernel : ∀ w ∈ wsX20, w ∈ wsX2_latestSame)
  have f18 := hts (.fieldLink RX2 18 "MachineTree$Walk" "reach" "I") (by decide +kernel)
  have f34 := hts (.fieldLink RX2 34 "MachineTree$Walk" "heads" "[I") (by decide +kernel)
  have f56 := hts (.fieldLink RX2 56 "MachineTree$Walk" "head" "I") (by decide +kernel)
  have f38 := hts (.fieldLink RX2 38 "MachineTree$Walk" "states" "[I") (by decide +kernel)
  have f53 := hts (.fieldLink RX2 53 "MachineTree$Walk" "state" "I") (by decide +kernel)
  have hl : lv_has ls 2 [(0, .ref w)] := hl
  refine lv_aload_n hx hb dX2_latestSame_0 rfl (lv_at hl 0 rfl) ?_
  refine va_get (D := g) (ci := 2) (v := .int (iI (kk : Int))) (C := RX2) (T := TX2) (N := 16) hx hb hts inX2 hown hK.1 hP 0 rfl rfl 8 (by decide) f47 (fun _ h9 => h9) rfl dX2_latestSame_1 ?_
  refine lv_aload_n hx hb dX2_latestSame_4 rfl (lv_at hl 0 rfl) ?_
  refine va_get (D := g) (ci := 2) (v := .int (iI 120)) (C := RX2) (T := TX2) (N := 16) hx hb hts inX2 hown hK.1 hP 0 rfl rfl 0 (by decide) f18 (fun _ h9 => h9) rfl dX2_latestSame_5 ?_
  refine va_mmin hx hb (by rw [hml]; exact hl.1.symm) hown (hts (.methodLink RX2 9 Lib.Math.min.name) (by decide +kernel)) (hts (.static Lib.Math.min.name) (by decide +kernel)) (hts (.initialized "java/lang/Math") (by decide +kernel)) (hts (.code Lib.Math.min.name Lib.Math.min.code 2 (some .int)) (by decide +kernel)) (Nat.le_of_ble_eq_true rfl) (Nat.le_of_ble_eq_true rfl) (Nat.le_of_ble_eq_true rfl) (Nat.le_of_ble_eq_true rfl) dX2_latestSame_8 ?_
  refine ri_top (iI_min (a := (kk : Int)) (b := 120) (by omega) (by omega)) ?_
  refine ri_ex (b := (kk : Int)) (by omega) ?_
  refine lv_iconst (v := iI 2) hx hb dX2_latestSame_11 rfl ?_
  refine ri_isub (a := (kk : Int)) (b := 2) hx hb dX2_latestSame_12 ?_
  refine lv_istore_n (lv' := [(1, .int (iI ((kk : Int) - 2))), (0, .ref w)]) hx hb dX2_latestSame_13 rfl hl (by decide) rfl (fun ls hl => ?_)
  have J14 : ∀ (n9 : Nat) (th : Int), th + 3 < (n9 : Int) → (-2 ≤ th ∧ th ≤ (kk : Int) - 2 ∧ ((kk : Int) - th) % 2 = 0) → (cyA cs kk = lat (cyc cs kk) (th + 1).toNat) → ∀ (ls : Array Slot), lv_has ls 2 [(0, .ref w), (1, .int (iI th))] → W p l e rm_1 s m ([.ref w] : List Value).toArray below meth c s.heap [] 0 0 Q (F0 m 14 ls []) := by
    intro n9
    induction n9 with
    | zero => intro th hm9 hi hl9; exact absurd hm9 (by omega)
    | succ n9 ih =>
      intro th hm9 hi hl9 ls hl
      refine lv_iload_n hx hb dX2_latestSame_14 rfl (lv_at hl 1 rfl) ?_
      refine ri_if_lt (a := th) (tgt := 60) hx hb (by omega) dX2_latestSame_15 (by decide) (fun c15 => ?_) (fun c15 => ?_)
      · skip
        refine lv_iconst (v := iI (-1)) hx hb dX2_latestSame_60 rfl ?_
        exact hret (iI (-1)) _ _ dX2_latestSame_61 (by rw [hl9, show (th + 1).toNat = 0 by omega]; rfl)
      · skip
        have h4 := hRp th.toNat (by omega)
        rw [Int.toNat_of_nonneg (by omega : 0 ≤ th)] at h4
        have b1 := sH_b cs th.toNat
        have b2 := sH_b cs kk
        have b3 := sS_b hc kk hal
        have b4 := sS_b hc th.toNat (fun i hi => hal i (by omega))
        refine lv_aload_n hx hb dX2_latestSame_18 rfl (lv_at hl 0 rfl) ?_
        refine va_get (D := g) (ci := 2) (v := .ref a0) (C := RX2) (T := TX2) (N := 16) hx hb hts inX2 hown hK.1 hP 0 rfl rfl 4 (by decide) f34 (fun _ h9 => h9) rfl dX2_latestSame_19 ?_
        refine lv_iload_n hx hb dX2_latestSame_22 rfl (lv_at hl 1 rfl) ?_
        refine ri_iald (F := hs) (i := th) hx hb hK.1 hP 3 0 rfl rfl (by omega) (by omega) dX2_latestSame_23 ?_
        refine lv_aload_n hx hb dX2_latestSame_24 rfl (lv_at hl 0 rfl) ?_
        refine va_get (D := g) (ci := 2) (v := .int (iI (sH cs kk))) (C := RX2) (T := TX2) (N := 16) hx hb hts inX2 hown hK.1 hP 0 rfl rfl 12 (by decide) f56 (fun _ h9 => h9) rfl dX2_latestSame_25 ?_
        refine ri_icmp_ne (a := (hs th)) (b := (sH cs kk)) (tgt := 54) hx hb (by rw [h4.1]; omega) (by omega) dX2_latestSame_28 (by decide) (fun c28 => ?_) (fun c28 => ?_)
        · skip
          have hl8 : cyA cs kk = lat (cyc cs kk) (th + -2 + 1).toNat := (by rw [hl9]; exact lat_2 (by omega) (fun q => c28 (by rw [h4.1]; exact q.2.1)) (fun _ => cyc_par (by omega)))
          refine ri_iinc (x := th) (lv' := [(1, .int (iI (th + (-2)))), (0, .ref w)]) hx hb dX2_latestSame_54 hl (k := 1) rfl (by decide) rfl (fun ls hl => ?_)
          refine lv_goto (tgt := 14) hx hb dX2_latestSame_57 (by decide) ?_
          exact ih (th + (-2)) (by omega) (by omega) hl8 _ (lv_sub hl [1, 0] rfl)
        · skip
          refine lv_aload_n hx hb dX2_latestSame_31 rfl (lv_at hl 0 rfl) ?_
          refine va_get (D := g) (ci := 2) (v := .ref a1) (C := RX2) (T := TX2) (N := 16) hx hb hts inX2 hown hK.1 hP 0 rfl rfl 5 (by decide) f38 (fun _ h9 => h9) rfl dX2_latestSame_32 ?_
          refine lv_iload_n hx hb dX2_latestSame_35 rfl (lv_at hl 1 rfl) ?_
          refine ri_iald (F := ss) (i := th) hx hb hK.1 hP 4 0 rfl rfl (by omega) (by omega) dX2_latestSame_36 ?_
          refine lv_aload_n hx hb dX2_latestSame_37 rfl (lv_at hl 0 rfl) ?_
          refine va_get (D := g) (ci := 2) (v := .int (iI (sS cs kk))) (C := RX2) (T := TX2) (N := 16) hx hb hts inX2 hown hK.1 hP 0 rfl rfl 11 (by decide) f53 (fun _ h9 => h9) rfl dX2_latestSame_38 ?_
          refine ri_icmp_ne (a := (ss th)) (b := (sS cs kk)) (tgt := 54) hx hb (by rw [h4.2.1]; omega) (by omega) dX2_latestSame_41 (by decide) (fun c41 => ?_) (fun c41 => ?_)
          · skip
            have hl8 : cyA cs kk = lat (cyc cs kk) (th + -2 + 1).toNat := (by rw [hl9]; exact lat_2 (by omega) (fun q => c41 (by rw [h4.2.1]; exact q.1)) (fun _ => cyc_par (by omega)))
            refine ri_iinc (x := th) (lv' := [(1, .int (iI (th + (-2)))), (0, .ref w)]) hx hb dX2_latestSame_54 hl (k := 1) rfl (by decide) rfl (fun ls hl => ?_)
            refine lv_goto (tgt := 14) hx hb dX2_latestSame_57 (by decide) ?_
            exact ih (th + (-2)) (by omega) (by omega) hl8 _ (lv_sub hl [1, 0] rfl)
          · skip
            refine lv_aload_n hx hb dX2_latestSame_44 rfl (lv_at hl 0 rfl) ?_
            refine lv_iload_n hx hb dX2_latestSame_45 rfl (lv_at hl 1 rfl) ?_
            refine rc_P (own := RX2) (q := (RX2, TX2, 16)) (wc := [(w, .inr (2, [.int (iI 120), .int (iI 4), .ref t0, .ref t1, .ref a0, .ref a1, .ref a2, .int (iI o), .int (iI (kk : Int)), .int (iI pe), .int (iI dr), .int (iI (sS cs kk)), .int (iI (sH cs kk)), .int (iI on), .int (iI lf), .int (iI rt)])), (t0, .inl (k.2.1, 4, .inr (.inl (bW 120 (sT cs kk))))), (t1, .inl (k.2.1, 484, .inr (.inl tps)))]) (As := [.int (iI th)]) (rest := []) ⟨hx, hb, hml, hown, hts⟩ (c_sameTape120 l g k w t0 t1 a0 a1 a2 o (kk : Int) pe dr (sS cs kk) (sH cs kk) on lf rt (bW 120 (sT cs kk)) tps th (by omega)) (cwV 1 hts gX2_latestSame_X2_sameTape rfl rfl rfl (by decide +kernel) ⟨Nat.le_of_ble_eq_true rfl, Nat.le_of_ble_eq_true rfl⟩) hK hP [0, 1, 2] rfl (ci := 2) (q0 := 0) rfl rfl rfl rfl hl.1 (Nat.le_of_ble_eq_true rfl) ⟨Nat.le_of_ble_eq_true rfl, Nat.le_of_ble_eq_true rfl⟩ dX2_latestSame_46 (fun r46 hr46 => ?_)
            obtain ⟨v46, e46, h46⟩ := hr46
            have hv46 : 0 ≤ v46 ∧ v46 ≤ 1 := by rcases h46 with ⟨h, -⟩ | ⟨h, -⟩ <;> omega
            refine ri_top (y := iI v46) e46 ?_
            refine ri_if_eq (a := v46) (tgt := 54) hx hb (by omega) dX2_latestSame_49 (by decide) (fun c49 => ?_) (fun c49 => ?_)
            · skip
              have hl8 : cyA cs kk = lat (cyc cs kk) (th + -2 + 1).toNat := (by rw [hl9]; exact lat_2 (by omega) (fun q => by rcases h46 with ⟨e1, e2⟩ | ⟨e1, e2⟩; omega; exact e2 (fun w hw => by rw [show (th * 4).toNat = th.toNat * 4 by omega, h4.2.2.2 w hw]; exact bW_eq q.2.2 w)) (fun _ => cyc_par (by omega)))
              refine ri_iinc (x := th) (lv' := [(1, .int (iI (th + (-2)))), (0, .ref w)]) hx hb dX2_latestSame_54 hl (k := 1) rfl (by decide) rfl (fun ls hl => ?_)
              refine lv_goto (tgt := 14) hx hb dX2_latestSame_57 (by decide) ?_
              exact ih (th + (-2)) (by omega) (by omega) hl8 _ (lv_sub hl [1, 0] rfl)
            · skip
              refine lv_iload_n hx hb dX2_latestSame_52 rfl (lv_at hl 1 rfl) ?_
              exact hret (iI th) _ _ dX2_latestSame_53 (by rw [hl9]; congr 1; symm; refine lat_h (by omega) ⟨by rw [← h4.2.1]; omega, by rw [← h4.1]; omega, ?_⟩; rcases h46 with ⟨e1, e2⟩ | ⟨e1, e2⟩; exact (bW_all (R := 120) (Wd := 4) (by decide) (sT_01 cs _) (sT_01 cs _) (fun j hj => sT_out cs _ j (by omega)) (fun j hj => sT_out cs _ j (by omega))).mp (fun w hw => by rw [← h4.2.2.2 w hw, ← e2 w hw]; congr 1; omega); omega)
  exact J14 ((((kk : Int) - 2) + 3 : Int).toNat.succ) ((kk : Int) - 2) (by omega) (by omega) (by unfold cyA; rw [show ((kk : Int) - 2 + 1).toNat = kk - 1 by omega]; obtain ⟨j, rfl⟩ : ∃ j, kk = j + 1 := ⟨kk - 1, by omega⟩; exact lat_n (cyc_par (by omega))) _ (lv_sub hl [1, 0] rfl)

