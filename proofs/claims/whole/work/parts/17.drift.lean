/-! THE CLASS Walk: the latest drift, the look back -/
set_option maxHeartbeats 4000000 in
set_option maxRecDepth 100000 in
theorem c_latestDrift300 (l : Launch) (g : va_G) (k : kT) (w t0 t1 a0 a1 a2 : Nat) (o pe dr on lf rt : Int) (tps : Nat → Int64) (hs ss sd : Int → Int) (cs : Int → Int) (hc : okC cs) (kk : Nat) (hk1 : 1 ≤ kk ∧ kk ≤ 300) (hal : alive cs kk) (hRp : Rp cs 300 10 kk tps hs ss sd) : cP l yX2_latestDrift wsX2_latestDrift rm_2 g k (wW300 k w t0 t1 a0 a1 a2 o (kk : Int) pe dr (sS cs kk) (sH cs kk) on lf rt (bW 300 (sT cs kk)) tps hs ss sd) [.ref w] (fun r => r = iI (drA cs kk)) := by
  refine st_P (by decide) rfl (Nat.le_of_ble_eq_true rfl) ?_
  intro p e s m below meth c Q hx hb hml hown hts hP hK hret ls hl
  have hown : s.vm.findClass RX2 = some m.cls := hown
  have f47 := hts (.fieldLink RX2 47 "MachineTree$Walk" "steps" "I") (by decide +kernel)
  have inX2 := (by decide +kernel : ∀ w ∈ wsX20, w ∈ wsX2_latestDrift)
  have f18 := hts (.fieldLink RX2 18 "MachineTree$Walk" "reach" "I") (by decide +kernel)
  have f41 := hts (.fieldLink RX2 41 "MachineTree$Walk" "sides" "[I") (by decide +kernel)
  have f56 := hts (.fieldLink RX2 56 "MachineTree$Walk" "head" "I") (by decide +kernel)
  have f34 := hts (.fieldLink RX2 34 "MachineTree$Walk" "heads" "[I") (by decide +kernel)
  have f38 := hts (.fieldLink RX2 38 "MachineTree$Walk" "states" "[I") (by decide +kernel)
  have f53 := hts (.fieldLink RX2 53 "MachineTree$Walk" "state" "I") (by decide +kernel)
  have hl : lv_has ls 6 [(0, .ref w)] := hl
  have r0 := sR_b cs kk
  have b2 := sH_b cs kk
  have b3 := sS_b hc kk hal
  refine lv_aload_n hx hb dX2_latestDrift_0 rfl (lv_at hl 0 rfl) ?_
  refine va_get (D := g) (ci := 2) (v := .int (iI (kk : Int))) (C := RX2) (T := TX2) (N := 16) hx hb hts inX2 hown hK.1 hP 0 rfl rfl 8 (by decide) f47 (fun _ h9 => h9) rfl dX2_latestDrift_1 ?_
  refine lv_aload_n hx hb dX2_latestDrift_4 rfl (lv_at hl 0 rfl) ?_
  refine va_get (D := g) (ci := 2) (v := .int (iI 300)) (C := RX2) (T := TX2) (N := 16) hx hb hts inX2 hown hK.1 hP 0 rfl rfl 0 (by decide) f18 (fun _ h9 => h9) rfl dX2_latestDrift_5 ?_
  refine va_mmin hx hb (by rw [hml]; exact hl.1.symm) hown (hts (.methodLink RX2 9 Lib.Math.min.name) (by decide +kernel)) (hts (.static Lib.Math.min.name) (by decide +kernel)) (hts (.initialized "java/lang/Math") (by decide +kernel)) (hts (.code Lib.Math.min.name Lib.Math.min.code 2 (some .int)) (by decide +kernel)) (Nat.le_of_ble_eq_true rfl) (Nat.le_of_ble_eq_true rfl) (Nat.le_of_ble_eq_true rfl) (Nat.le_of_ble_eq_true rfl) dX2_latestDrift_8 ?_
  refine ri_top (iI_min (a := (kk : Int)) (b := 300) (by omega) (by omega)) ?_
  refine ri_ex (b := (kk : Int)) (by omega) ?_
  refine lv_istore_n (lv' := [(1, .int (iI (kk : Int))), (0, .ref w)]) hx hb dX2_latestDrift_11 rfl hl (by decide) rfl (fun ls hl => ?_)
  refine lv_iload_n hx hb dX2_latestDrift_12 rfl (lv_at hl 0 rfl) ?_
  refine ri_if_lt (a := (kk : Int)) (tgt := 25) hx hb (by omega) dX2_latestDrift_13 (by decide) (fun c13 => ?_) (fun c13 => ?_)
  · exact absurd c13 (by omega)
  · skip
    refine lv_aload_n hx hb dX2_latestDrift_16 rfl (lv_at hl 1 rfl) ?_
    refine va_get (D := g) (ci := 2) (v := .ref a2) (C := RX2) (T := TX2) (N := 16) hx hb hts inX2 hown hK.1 hP 0 rfl rfl 6 (by decide) f41 (fun _ h9 => h9) rfl dX2_latestDrift_17 ?_
    refine lv_iload_n hx hb dX2_latestDrift_20 rfl (lv_at hl 0 rfl) ?_
    refine ri_iald (F := sd) (i := (kk : Int)) hx hb hK.1 hP 5 0 rfl rfl (by omega) (by omega) dX2_latestDrift_21 ?_
    refine ri_ex (b := (sR cs kk)) (hRp kk (Nat.le_refl kk)).2.2.1 ?_
    refine lv_goto (tgt := 26) hx hb dX2_latestDrift_22 (by decide) ?_
    refine lv_istore_n (lv' := [(2, .int (iI (sR cs kk))), (1, .int (iI (kk : Int))), (0, .ref w)]) hx hb dX2_latestDrift_26 rfl hl (by decide) rfl (fun ls hl => ?_)
    refine lv_iload_n hx hb dX2_latestDrift_27 rfl (lv_at hl 0 rfl) ?_
    refine ri_if_ne (a := (sR cs kk)) (tgt := 33) hx hb (by omega) dX2_latestDrift_28 (by decide) (fun c28 => ?_) (fun c28 => ?_)
    · skip
      refine lv_iload_n hx hb dX2_latestDrift_33 rfl (lv_at hl 0 rfl) ?_
      refine lv_aload_n hx hb dX2_latestDrift_34 rfl (lv_at hl 2 rfl) ?_
      refine va_get (D := g) (ci := 2) (v := .int (iI (sH cs kk))) (C := RX2) (T := TX2) (N := 16) hx hb hts inX2 hown hK.1 hP 0 rfl rfl 12 (by decide) f56 (fun _ h9 => h9) rfl dX2_latestDrift_35 ?_
      refine ri_imul (a := (sR cs kk)) (b := (sH cs kk)) hx hb dX2_latestDrift_38 ?_
      refine lv_istore_n (lv' := [(3, .int (iI ((sR cs kk) * (sH cs kk)))), (2, .int (iI (sR cs kk))), (1, .int (iI (kk : Int))), (0, .ref w)]) hx hb dX2_latestDrift_39 rfl hl (by decide) rfl (fun ls hl => ?_)
      refine lv_iload_n hx hb dX2_latestDrift_40 rfl (lv_at hl 2 rfl) ?_
      refine lv_iconst (v := iI 1) hx hb dX2_latestDrift_41 rfl ?_
      refine ri_isub (a := (kk : Int)) (b := 1) hx hb dX2_latestDrift_42 ?_
      refine lv_istore (lv' := [(4, .int (iI ((kk : Int) - 1))), (3, .int (iI ((sR cs kk) * (sH cs kk)))), (2, .int (iI (sR cs kk))), (1, .int (iI (kk : Int))), (0, .ref w)]) hx hb dX2_latestDrift_43 hl (by decide) rfl (fun ls hl => ?_)
      have J45 : ∀ (n9 : Nat) (th : Int) (x3 : Int), th + 1 < (n9 : Int) → (0 ≤ th ∧ th ≤ (kk : Int) - 1) → (x3 = far cs (sR cs kk) kk ((kk : Int) - 1 - th).toNat) → (lat (dri cs kk) kk = lat (dri cs kk) (th + 1).toNat) → ∀ (ls : Array Slot), lv_has ls 6 [(0, .ref w), (1, .int (iI (kk : Int))), (2, .int (iI (sR cs kk))), (3, .int (iI x3)), (4, .int (iI th))] → W p l e rm_2 s m ([.ref w] : List Value).toArray below meth c s.heap [] 0 0 Q (F0 m 45 ls []) := by
        intro n9
        induction n9 with
        | zero => intro th x3 hm9 hi hx3 hl9; exact absurd hm9 (by omega)
        | succ n9 ih =>
          intro th x3 hm9 hi hx3 hl9 ls hl
          refine lv_iload hx hb dX2_latestDrift_45 (lv_at hl 4 rfl) ?_
          refine ri_if_le (a := th) (tgt := 116) hx hb (by omega) dX2_latestDrift_47 (by decide) (fun c47 => ?_) (fun c47 => ?_)
          · skip
            refine lv_iconst (v := iI (-1)) hx hb dX2_latestDrift_116 rfl ?_
            exact hret (iI (-1)) _ _ dX2_latestDrift_117 (by unfold drA; rw [if_neg c28, hl9, show (th + 1).toNat = 0 + 1 by omega, lat_n (fun q => absurd q.1 (by omega))]; rfl)
          · skip
            have h4 := hRp th.toNat (by omega)
            rw [Int.toNat_of_nonneg (by omega : 0 ≤ th)] at h4
            have b1 := sH_b cs th.toNat
            have b4 := sS_b hc th.toNat (fun i hi => hal i (by omega))
            have r1 := sR_b cs th.toNat
            have hd9 : sR cs kk = 1 ∨ sR cs kk = -1 := by omega
            have f9 := far_b cs (sR cs kk) hd9 kk ((kk : Int) - 1 - th).toNat
            have m2 : sR cs kk * sH cs th.toNat = sH cs th.toNat ∨ sR cs kk * sH cs th.toNat = -sH cs th.toNat := by rcases hd9 with h | h <;> rw [h] <;> omega
            have hfar : far cs (sR cs kk) kk (kk - th.toNat) = min x3 (sR cs kk * sH cs th.toNat) := by rw [show kk - th.toNat = ((kk : Int) - 1 - (th + -1)).toNat by omega, far_s (by omega) (by omega), hx3]
            refine lv_iload_n hx hb dX2_latestDrift_50 rfl (lv_at hl 2 rfl) ?_
            refine lv_aload_n hx hb dX2_latestDrift_51 rfl (lv_at hl 0 rfl) ?_
            refine va_get (D := g) (ci := 2) (v := .ref a0) (C := RX2) (T := TX2) (N := 16) hx hb hts inX2 hown hK.1 hP 0 rfl rfl 4 (by decide) f34 (fun _ h9 => h9) rfl dX2_latestDrift_52 ?_
            refine lv_iload hx hb dX2_latestDrift_55 (lv_at hl 4 rfl) ?_
            refine ri_iald (F := hs) (i := th) hx hb hK.1 hP 3 0 rfl rfl (by omega) (by omega) dX2_latestDrift_57 ?_
            refine ri_ex (b := (sH cs th.toNat)) h4.1 ?_
            refine ri_imul (a := (sR cs kk)) (b := (sH cs th.toNat)) hx hb dX2_latestDrift_58 ?_
            refine lv_istore (lv' := [(5, .int (iI ((sR cs kk) * (sH cs th.toNat)))), (0, .ref w), (1, .int (iI (kk : Int))), (2, .int (iI (sR cs kk))), (3, .int (iI x3)), (4, .int (iI th))]) hx hb dX2_latestDrift_59 hl (by decide) rfl (fun ls hl => ?_)
            refine lv_iload_n hx hb dX2_latestDrift_61 rfl (lv_at hl 4 rfl) ?_
            refine lv_iload hx hb dX2_latestDrift_62 (lv_at hl 0 rfl) ?_
            refine va_mmin hx hb (by rw [hml]; exact hl.1.symm) hown (hts (.methodLink RX2 9 Lib.Math.min.name) (by decide +kernel)) (hts (.static Lib.Math.min.name) (by decide +kernel)) (hts (.initialized "java/lang/Math") (by decide +kernel)) (hts (.code Lib.Math.min.name Lib.Math.min.code 2 (some .int)) (by decide +kernel)) (Nat.le_of_ble_eq_true rfl) (Nat.le_of_ble_eq_true rfl) (Nat.le_of_ble_eq_true rfl) (Nat.le_of_ble_eq_true rfl) dX2_latestDrift_64 ?_
            refine ri_top (iI_min (a := x3) (b := ((sR cs kk) * (sH cs th.toNat))) (by omega) (by omega)) ?_
            refine lv_istore_n (lv' := [(3, .int (iI (min x3 ((sR cs kk) * (sH cs th.toNat))))), (5, .int (iI ((sR cs kk) * (sH cs th.toNat)))), (0, .ref w), (1, .int (iI (kk : Int))), (2, .int (iI (sR cs kk))), (4, .int (iI th))]) hx hb dX2_latestDrift_67 rfl hl (by decide) rfl (fun ls hl => ?_)
            refine lv_aload_n hx hb dX2_latestDrift_68 rfl (lv_at hl 2 rfl) ?_
            refine va_get (D := g) (ci := 2) (v := .ref a2) (C := RX2) (T := TX2) (N := 16) hx hb hts inX2 hown hK.1 hP 0 rfl rfl 6 (by decide) f41 (fun _ h9 => h9) rfl dX2_latestDrift_69 ?_
            refine lv_iload hx hb dX2_latestDrift_72 (lv_at hl 5 rfl) ?_
            refine ri_iald (F := sd) (i := th) hx hb hK.1 hP 5 0 rfl rfl (by omega) (by omega) dX2_latestDrift_74 ?_
            refine ri_ex (b := (sR cs th.toNat)) h4.2.2.1 ?_
            refine lv_iload_n hx hb dX2_latestDrift_75 rfl (lv_at hl 4 rfl) ?_
            refine ri_icmp_ne (a := (sR cs th.toNat)) (b := (sR cs kk)) (tgt := 110) hx hb (by omega) (by omega) dX2_latestDrift_76 (by decide) (fun c76 => ?_) (fun c76 => ?_)
            · skip
              have hl8 : lat (dri cs kk) kk = lat (dri cs kk) (th + -1 + 1).toNat := by rw [hl9]; exact lat_1 (by omega) (fun q => c76 q.2.1)
              refine ri_iinc (x := th) (lv' := [(4, .int (iI (th + (-1)))), (3, .int (iI (min x3 ((sR cs kk) * (sH cs th.toNat))))), (5, .int (iI ((sR cs kk) * (sH cs th.toNat)))), (0, .ref w), (1, .int (iI (kk : Int))), (2, .int (iI (sR cs kk)))]) hx hb dX2_latestDrift_110 hl (k := 5) rfl (by decide) rfl (fun ls hl => ?_)
              refine lv_goto (tgt := 45) hx hb dX2_latestDrift_113 (by decide) ?_
              exact ih (th + (-1)) (min x3 ((sR cs kk) * (sH cs th.toNat))) (by omega) (by omega) (by rw [far_s (by omega) (by omega), hx3]) hl8 _ (lv_sub hl [3, 4, 5, 1, 0] rfl)
            · skip
              refine lv_aload_n hx hb dX2_latestDrift_79 rfl (lv_at hl 2 rfl) ?_
              refine va_get (D := g) (ci := 2) (v := .ref a1) (C := RX2) (T := TX2) (N := 16) hx hb hts inX2 hown hK.1 hP 0 rfl rfl 5 (by decide) f38 (fun _ h9 => h9) rfl dX2_latestDrift_80 ?_
              refine lv_iload hx hb dX2_latestDrift_83 (lv_at hl 5 rfl) ?_
              refine ri_iald (F := ss) (i := th) hx hb hK.1 hP 4 0 rfl rfl (by omega) (by omega) dX2_latestDrift_85 ?_
              refine ri_ex (b := (sS cs th.toNat)) h4.2.1 ?_
              refine lv_aload_n hx hb dX2_latestDrift_86 rfl (lv_at hl 2 rfl) ?_
              refine va_get (D := g) (ci := 2) (v := .int (iI (sS cs kk))) (C := RX2) (T := TX2) (N := 16) hx hb hts inX2 hown hK.1 hP 0 rfl rfl 11 (by decide) f53 (fun _ h9 => h9) rfl dX2_latestDrift_87 ?_
              refine ri_icmp_ne (a := (sS cs th.toNat)) (b := (sS cs kk)) (tgt := 110) hx hb (by omega) (by omega) dX2_latestDrift_90 (by decide) (fun c90 => ?_) (fun c90 => ?_)
              · skip
                have hl8 : lat (dri cs kk) kk = lat (dri cs kk) (th + -1 + 1).toNat := by rw [hl9]; exact lat_1 (by omega) (fun q => c90 q.2.2.1)
                refine ri_iinc (x := th) (lv' := [(4, .int (iI (th + (-1)))), (3, .int (iI (min x3 ((sR cs kk) * (sH cs th.toNat))))), (5, .int (iI ((sR cs kk) * (sH cs th.toNat)))), (0, .ref w), (1, .int (iI (kk : Int))), (2, .int (iI (sR cs kk)))]) hx hb dX2_latestDrift_110 hl (k := 5) rfl (by decide) rfl (fun ls hl => ?_)
                refine lv_goto (tgt := 45) hx hb dX2_latestDrift_113 (by decide) ?_
                exact ih (th + (-1)) (min x3 ((sR cs kk) * (sH cs th.toNat))) (by omega) (by omega) (by rw [far_s (by omega) (by omega), hx3]) hl8 _ (lv_sub hl [3, 4, 5, 1, 0] rfl)
              · skip
                refine lv_aload_n hx hb dX2_latestDrift_93 rfl (lv_at hl 2 rfl) ?_
                refine lv_iload hx hb dX2_latestDrift_94 (lv_at hl 5 rfl) ?_
                refine lv_iload_n hx hb dX2_latestDrift_96 rfl (lv_at hl 4 rfl) ?_
                refine lv_iload hx hb dX2_latestDrift_97 (lv_at hl 1 rfl) ?_
                refine lv_iload_n hx hb dX2_latestDrift_99 rfl (lv_at hl 0 rfl) ?_
                refine ri_isub (a := ((sR cs kk) * (sH cs th.toNat))) (b := (min x3 ((sR cs kk) * (sH cs th.toNat)))) hx hb dX2_latestDrift_100 ?_
                refine rc_P (own := RX2) (q := (RX2, TX2, 16)) (wc := [(w, .inr (2, [.int (iI 300), .int (iI 10), .ref t0, .ref t1, .ref a0, .ref a1, .ref a2, .int (iI o), .int (iI (kk : Int)), .int (iI pe), .int (iI dr), .int (iI (sS cs kk)), .int (iI (sH cs kk)), .int (iI on), .int (iI lf), .int (iI rt)])), (t0, .inl (k.2.1, 10, .inr (.inl (bW 300 (sT cs kk))))), (t1, .inl (k.2.1, 3010, .inr (.inl tps))), (a0, .inl (k.1, 301, .inl (iF hs))), (a1, .inl (k.1, 301, .inl (iF ss))), (a2, .inl (k.1, 301, .inl (iF sd)))]) (As := [.int (iI th), .int (iI (sR cs kk)), .int (iI (((sR cs kk) * (sH cs th.toNat)) - (min x3 ((sR cs kk) * (sH cs th.toNat)))))]) (rest := []) ⟨hx, hb, hml, hown, hts⟩ (c_sameBehind300 l g k w t0 t1 a0 a1 a2 o pe dr on lf rt tps hs ss sd cs hc kk hk1 hal hRp th (sR cs kk) ((sR cs kk * sH cs th.toNat) - (min x3 (sR cs kk * sH cs th.toNat))) (by omega) hd9 (by omega)) (cwV 3 hts gX2_latestDrift_X2_sameBehind rfl rfl rfl (by decide +kernel) ⟨Nat.le_of_ble_eq_true rfl, Nat.le_of_ble_eq_true rfl⟩) hK hP [0, 1, 2, 3, 4, 5] rfl (ci := 2) (q0 := 0) rfl rfl rfl rfl hl.1 (Nat.le_of_ble_eq_true rfl) ⟨Nat.le_of_ble_eq_true rfl, Nat.le_of_ble_eq_true rfl⟩ dX2_latestDrift_101 (fun r101 hr101 => ?_)
                obtain ⟨v101, e101, h101⟩ := hr101
                have hv101 : 0 ≤ v101 ∧ v101 ≤ 1 := by rcases h101 with ⟨h, -⟩ | ⟨h, -⟩ <;> omega
                refine ri_top (y := iI v101) e101 ?_
                refine ri_if_eq (a := v101) (tgt := 110) hx hb (by omega) dX2_latestDrift_104 (by decide) (fun c104 => ?_) (fun c104 => ?_)
                · skip
                  have hl8 : lat (dri cs kk) kk = lat (dri cs kk) (th + -1 + 1).toNat := by rw [hl9]; exact lat_1 (by omega) (fun q => by rcases h101 with ⟨e1, e2⟩ | ⟨e1, e2⟩; omega; exact e2 (fun j h1 h2 => q.2.2.2 j h1 (by rw [hfar]; exact h2)))
                  refine ri_iinc (x := th) (lv' := [(4, .int (iI (th + (-1)))), (3, .int (iI (min x3 ((sR cs kk) * (sH cs th.toNat))))), (5, .int (iI ((sR cs kk) * (sH cs th.toNat)))), (0, .ref w), (1, .int (iI (kk : Int))), (2, .int (iI (sR cs kk)))]) hx hb dX2_latestDrift_110 hl (k := 5) rfl (by decide) rfl (fun ls hl => ?_)
                  refine lv_goto (tgt := 45) hx hb dX2_latestDrift_113 (by decide) ?_
                  exact ih (th + (-1)) (min x3 ((sR cs kk) * (sH cs th.toNat))) (by omega) (by omega) (by rw [far_s (by omega) (by omega), hx3]) hl8 _ (lv_sub hl [3, 4, 5, 1, 0] rfl)
                · skip
                  refine lv_iload hx hb dX2_latestDrift_107 (lv_at hl 5 rfl) ?_
                  exact hret (iI th) _ _ dX2_latestDrift_109 (by unfold drA; rw [if_neg c28, hl9]; congr 1; refine (lat_h (by omega) ⟨by omega, by omega, by omega, ?_⟩).symm; rcases h101 with ⟨e1, e2⟩ | ⟨e1, e2⟩; exact (fun j h1 h2 => e2 j h1 (by rw [hfar] at h2; exact h2)); omega)
      exact J45 ((((kk : Int) - 1) + 1 : Int).toNat.succ) ((kk : Int) - 1) ((sR cs kk) * (sH cs kk)) (by omega) (by omega) (by rw [show ((kk : Int) - 1 - ((kk : Int) - 1)).toNat = 0 by omega]; rfl) (by rw [show ((kk : Int) - 1 + 1).toNat = kk by omega]) _ (lv_sub hl [4, 3, 2, 1, 0] rfl)
    · skip
      refine lv_iconst (v := iI (-1)) hx hb dX2_latestDrift_31 rfl ?_
      exact hret (iI (-1)) _ _ dX2_latestDrift_32 (by unfold drA; rw [if_pos c28])

set_option maxHeartbeats 4000000 in
set_option maxRecDepth 100000 in
theorem c_look300 (l : Launch) (g : va_G) (k : kT) (w t0 t1 a0 a1 a2 : Nat) (o pe dr on lf rt : Int) (tps : Nat → Int64) (hs ss sd : Int → Int) (cs : Int → Int) (hc : okC cs) (kk : Nat) (hk1 : 1 ≤ kk ∧ kk ≤ 300) (hal : alive cs kk) (hRp : Rp cs 300 10 kk tps hs ss sd) (sz : Nat) : cV l yX2_look wsX2_look rm_3 g k (wW300 k w t0 t1 a0 a1 a2 o (kk : Int) pe dr (sS cs kk) (sH cs kk) on lf rt (bW 300 (sT cs kk)) tps hs ss sd) sz [.ref w] 0 0 (fun u : Int × Int × Int => wW300 k w t0 t1 a0 a1 a2 u.1 (kk : Int) u.2.1 u.2.2 (sS cs kk) (sH cs kk) on lf rt (bW 300 (sT cs kk)) tps hs ss sd) (fun u => u = lkG cs kk o pe dr) := by
  refine st_V (by decide) rfl (Nat.le_of_ble_eq_true rfl) ?_
  intro p e s m below meth c Q A hx hb hml hown hts hin hA hP hD hS hK hret ls hl
  have hown : s.vm.findClass RX2 = some m.cls := hown
  have f34 := hts (.fieldLink RX2 34 "MachineTree$Walk" "heads" "[I") (by decide +kernel)
  have inX2 := (by decide +kernel : ∀ w ∈ wsX20, w ∈ wsX2_look)
  have f50 := hts (.fieldLink RX2 50 "MachineTree$Walk" "outcome" "I") (by decide +kernel)
  have f47 := hts (.fieldLink RX2 47 "MachineTree$Walk" "steps" "I") (by decide +kernel)
  have f85 := hts (.fieldLink RX2 85 "MachineTree$Walk" "period" "I") (by decide +kernel)
  have f56 := hts (.fieldLink RX2 56 "MachineTree$Walk" "head" "I") (by decide +kernel)
  have f88 := hts (.fieldLink RX2 88 "MachineTree$Walk" "drift" "I") (by decide +kernel)
  have hl : lv_has ls 3 [(0, .ref w)] := hl
  obtain ⟨H, hH⟩ : ∃ H, H = s.heap := ⟨_, rfl⟩
  obtain ⟨locs, hlo⟩ : ∃ L : List Loc, L = [] := ⟨_, rfl⟩
  rw [← hH] at hP
  have hS : va_S A s.heap H locs := by rw [hH, hlo]; exact hS
  rw [show W p l e rm_3 s m ([.ref w] : List Value).toArray below meth c s.heap [] 0 0 Q (F0 m 0 ls []) = W p l e rm_3 s m ([.ref w] : List Value).toArray below meth c H locs 0 0 Q (F0 m 0 ls []) by rw [hH, hlo]]
  clear hH hlo
  have y1 := cyA_b cs kk
  have y2 := drA_b cs kk
  refine lv_aload_n hx hb dX2_look_0 rfl (lv_at hl 0 rfl) ?_
  refine rc_P (own := RX2) (q := (RX2, TX2, 16)) (wc := [(w, .inr (2, [.int (iI 300), .int (iI 10), .ref t0, .ref t1, .ref a0, .ref a1, .ref a2, .int (iI o), .int (iI (kk : Int)), .int (iI pe), .int (iI dr), .int (iI (sS cs kk)), .int (iI (sH cs kk)), .int (iI on), .int (iI lf), .int (iI rt)])), (t0, .inl (k.2.1, 10, .inr (.inl (bW 300 (sT cs kk))))), (t1, .inl (k.2.1, 3010, .inr (.inl tps))), (a0, .inl (k.1, 301, .inl (iF hs))), (a1, .inl (k.1, 301, .inl (iF ss))), (a2, .inl (k.1, 301, .inl (iF sd)))]) (As := []) (rest := []) ⟨hx, hb, hml, hown, hts⟩ (c_latestSame300 l g k w t0 t1 a0 a1 a2 o pe dr on lf rt tps hs ss sd cs hc kk hk1 hal hRp) (cwV 0 hts gX2_look_X2_latestSame rfl rfl rfl (by decide +kernel) ⟨Nat.le_of_ble_eq_true rfl, Nat.le_of_ble_eq_true rfl⟩) hK hP [0, 1, 2, 3, 4, 5] rfl (ci := 2) (q0 := 0) rfl rfl rfl rfl hl.1 (Nat.le_of_ble_eq_true rfl) ⟨Nat.le_of_ble_eq_true rfl, Nat.le_of_ble_eq_true rfl⟩ dX2_look_1 (fun r1 hr1 => ?_)
  refine ri_top (y := iI (cyA cs kk)) hr1 ?_
  refine lv_istore_n (lv' := [(1, .int (iI (cyA cs kk))), (0, .ref w)]) hx hb dX2_look_4 rfl hl (by decide) rfl (fun ls hl => ?_)
  refine lv_iload_n hx hb dX2_look_5 rfl (lv_at hl 0 rfl) ?_
  refine ri_if_lt (a := (cyA cs kk)) (tgt := 25) hx hb (by omega) dX2_look_6 (by decide) (fun c6 => ?_) (fun c6 => ?_)
  · skip
    refine lv_aload_n hx hb dX2_look_25 rfl (lv_at hl 1 rfl) ?_
    refine rc_P (own := RX2) (q := (RX2, TX2, 16)) (wc := [(w, .inr (2, [.int (iI 300), .int (iI 10), .ref t0, .ref t1, .ref a0, .ref a1, .ref a2, .int (iI o), .int (iI (kk : Int)), .int (iI pe), .int (iI dr), .int (iI (sS cs kk)), .int (iI (sH cs kk)), .int (iI on), .int (iI lf), .int (iI rt)])), (t0, .inl (k.2.1, 10, .inr (.inl (bW 300 (sT cs kk))))), (t1, .inl (k.2.1, 3010, .inr (.inl tps))), (a0, .inl (k.1, 301, .inl (iF hs))), (a1, .inl (k.1, 301, .inl (iF ss))), (a2, .inl (k.1, 301, .inl (iF sd)))]) (As := []) (rest := []) ⟨hx, hb, hml, hown, hts⟩ (c_latestDrift300 l g k w t0 t1 a0 a1 a2 o pe dr on lf rt tps hs ss sd cs hc kk hk1 hal hRp) (cwV 0 hts gX2_look_X2_latestDrift rfl rfl rfl (by decide +kernel) ⟨Nat.le_of_ble_eq_true rfl, Nat.le_of_ble_eq_true rfl⟩) hK hP [0, 1, 2, 3, 4, 5] rfl (ci := 2) (q0 := 0) rfl rfl rfl rfl hl.1 (Nat.le_of_ble_eq_true rfl) ⟨Nat.le_of_ble_eq_true rfl, Nat.le_of_ble_eq_true rfl⟩ dX2_look_26 (fun r26 hr26 => ?_)
    refine ri_top (y := iI (drA cs kk)) hr26 ?_
    refine lv_istore_n (lv' := [(2, .int (iI (drA cs kk))), (1, .int (iI (cyA cs kk))), (0, .ref w)]) hx hb dX2_look_29 rfl hl (by decide) rfl (fun ls hl => ?_)
    refine lv_iload_n hx hb dX2_look_30 rfl (lv_at hl 0 rfl) ?_
    refine ri_if_lt (a := (drA cs kk)) (tgt := 73) hx hb (by omega) dX2_look_31 (by decide) (fun c31 => ?_) (fun c31 => ?_)
    · skip
      exact hret (o, pe, dr) _ _ _ _ dX2_look_73 (by show _ = lkG cs kk o pe dr; unfold lkG; rw [if_neg (by omega), if_neg (by omega)]) hP hD hS
    · skip
      refine lv_iload_n hx hb dX2_look_34 rfl (lv_at hl 0 rfl) ?_
      refine lv_aload_n hx hb dX2_look_35 rfl (lv_at hl 2 rfl) ?_
      refine va_get (D := g) (ci := 2) (v := .ref a0) (C := RX2) (T := TX2) (N := 16) hx hb hts inX2 hown hK.1 hP 0 rfl rfl 4 (by decide) f34 (fun _ h9 => h9) rfl dX2_look_36 ?_
      refine ri_alen hx hb hK.1 hP 3 0 rfl rfl dX2_look_39 ?_
      refine ri_ex (b := 301) rfl ?_
      refine ri_icmp_ge (a := (drA cs kk)) (b := 301) (tgt := 73) hx hb (by omega) (by omega) dX2_look_40 (by decide) (fun c40 => ?_) (fun c40 => ?_)
      · exact absurd c40 (by omega)
      · skip
        refine lv_aload_n hx hb dX2_look_43 rfl (lv_at hl 2 rfl) ?_
        refine lv_iconst (v := iI 3) hx hb dX2_look_44 rfl ?_
        refine va_put (D := g) (ci := 2) (v := .int (iI 3)) (ty := .int) (C := RX2) (T := TX2) (N := 16) hx hb hts inX2 tyX2 tyX2_ok nmX2 hown hK.1 hP hD hS 0 rfl rfl 7 (by decide) f50 (fun _ h9 => h9) rfl (by decide +kernel) rfl rfl (Nat.le_of_ble_eq_true rfl) dX2_look_45 (fun H locs hP hD hS => ?_)
        have hP : va_P g vwCl [(w, .inr (2, [.int (iI 300), .int (iI 10), .ref t0, .ref t1, .ref a0, .ref a1, .ref a2, .int (iI 3), .int (iI (kk : Int)), .int (iI pe), .int (iI dr), .int (iI (sS cs kk)), .int (iI (sH cs kk)), .int (iI on), .int (iI lf), .int (iI rt)])), (t0, .inl (k.2.1, 10, .inr (.inl (bW 300 (sT cs kk))))), (t1, .inl (k.2.1, 3010, .inr (.inl tps))), (a0, .inl (k.1, 301, .inl (iF hs))), (a1, .inl (k.1, 301, .inl (iF ss))), (a2, .inl (k.1, 301, .inl (iF sd)))] H := hP
        have hD : va_D A [(w, .inr (2, [.int (iI 300), .int (iI 10), .ref t0, .ref t1, .ref a0, .ref a1, .ref a2, .int (iI 3), .int (iI (kk : Int)), .int (iI pe), .int (iI dr), .int (iI (sS cs kk)), .int (iI (sH cs kk)), .int (iI on), .int (iI lf), .int (iI rt)])), (t0, .inl (k.2.1, 10, .inr (.inl (bW 300 (sT cs kk))))), (t1, .inl (k.2.1, 3010, .inr (.inl tps))), (a0, .inl (k.1, 301, .inl (iF hs))), (a1, .inl (k.1, 301, .inl (iF ss))), (a2, .inl (k.1, 301, .inl (iF sd)))] := hD
        refine lv_aload_n hx hb dX2_look_48 rfl (lv_at hl 2 rfl) ?_
        refine lv_aload_n hx hb dX2_look_49 rfl (lv_at hl 2 rfl) ?_
        refine va_get (D := g) (ci := 2) (v := .int (iI (kk : Int))) (C := RX2) (T := TX2) (N := 16) hx hb hts inX2 hown hK.1 hP 0 rfl rfl 8 (by decide) f47 (fun _ h9 => h9) rfl dX2_look_50 ?_
        refine lv_iload_n hx hb dX2_look_53 rfl (lv_at hl 0 rfl) ?_
        refine ri_isub (a := (kk : Int)) (b := (drA cs kk)) hx hb dX2_look_54 ?_
        refine va_put (D := g) (ci := 2) (v := .int (iI ((kk : Int) - (drA cs kk)))) (ty := .int) (C := RX2) (T := TX2) (N := 16) hx hb hts inX2 tyX2 tyX2_ok nmX2 hown hK.1 hP hD hS 0 rfl rfl 9 (by decide) f85 (fun _ h9 => h9) rfl (by decide +kernel) rfl rfl (Nat.le_of_ble_eq_true rfl) dX2_look_55 (fun H locs hP hD hS => ?_)
        have hP : va_P g vwCl [(w, .inr (2, [.int (iI 300), .int (iI 10), .ref t0, .ref t1, .ref a0, .ref a1, .ref a2, .int (iI 3), .int (iI (kk : Int)), .int (iI ((kk : Int) - (drA cs kk))), .int (iI dr), .int (iI (sS cs kk)), .int (iI (sH cs kk)), .int (iI on), .int (iI lf), .int (iI rt)])), (t0, .inl (k.2.1, 10, .inr (.inl (bW 300 (sT cs kk))))), (t1, .inl (k.2.1, 3010, .inr (.inl tps))), (a0, .inl (k.1, 301, .inl (iF hs))), (a1, .inl (k.1, 301, .inl (iF ss))), (a2, .inl (k.1, 301, .inl (iF sd)))] H := hP
        have hD : va_D A [(w, .inr (2, [.int (iI 300), .int (iI 10), .ref t0, .ref t1, .ref a0, .ref a1, .ref a2, .int (iI 3), .int (iI (kk : Int)), .int (iI ((kk : Int) - (drA cs kk))), .int (iI dr), .int (iI (sS cs kk)), .int (iI (sH cs kk)), .int (iI on), .int (iI lf), .int (iI rt)])), (t0, .inl (k.2.1, 10, .inr (.inl (bW 300 (sT cs kk))))), (t1, .inl (k.2.1, 3010, .inr (.inl tps))), (a0, .inl (k.1, 301, .inl (iF hs))), (a1, .inl (k.1, 301, .inl (iF ss))), (a2, .inl (k.1, 301, .inl (iF sd)))] := hD
        refine lv_aload_n hx hb dX2_look_58 rfl (lv_at hl 2 rfl) ?_
        refine lv_aload_n hx hb dX2_look_59 rfl (lv_at hl 2 rfl) ?_
        refine va_get (D := g) (ci := 2) (v := .int (iI (sH cs kk))) (C := RX2) (T := TX2) (N := 16) hx hb hts inX2 hown hK.1 hP 0 rfl rfl 12 (by decide) f56 (fun _ h9 => h9) rfl dX2_look_60 ?_
        refine lv_aload_n hx hb dX2_look_63 rfl (lv_at hl 2 rfl) ?_
        refine va_get (D := g) (ci := 2) (v := .ref a0) (C := RX2) (T := TX2) (N := 16) hx hb hts inX2 hown hK.1 hP 0 rfl rfl 4 (by decide) f34 (fun _ h9 => h9) rfl dX2_look_64 ?_
        refine lv_iload_n hx hb dX2_look_67 rfl (lv_at hl 0 rfl) ?_
        refine ri_iald (F := hs) (i := (drA cs kk)) hx hb hK.1 hP 3 0 rfl rfl (by omega) (by omega) dX2_look_68 ?_
        refine ri_ex (b := (sH cs (drA cs kk).toNat)) (by have h := (hRp (drA cs kk).toNat (by omega)).1; rw [Int.toNat_of_nonneg (by omega)] at h; exact h) ?_
        refine ri_isub (a := (sH cs kk)) (b := (sH cs (drA cs kk).toNat)) hx hb dX2_look_69 ?_
        refine va_put (D := g) (ci := 2) (v := .int (iI ((sH cs kk) - (sH cs (drA cs kk).toNat)))) (ty := .int) (C := RX2) (T := TX2) (N := 16) hx hb hts inX2 tyX2 tyX2_ok nmX2 hown hK.1 hP hD hS 0 rfl rfl 10 (by decide) f88 (fun _ h9 => h9) rfl (by decide +kernel) rfl rfl (Nat.le_of_ble_eq_true rfl) dX2_look_70 (fun H locs hP hD hS => ?_)
        have hP : va_P g vwCl [(w, .inr (2, [.int (iI 300), .int (iI 10), .ref t0, .ref t1, .ref a0, .ref a1, .ref a2, .int (iI 3), .int (iI (kk : Int)), .int (iI ((kk : Int) - (drA cs kk))), .int (iI ((sH cs kk) - (sH cs (drA cs kk).toNat))), .int (iI (sS cs kk)), .int (iI (sH cs kk)), .int (iI on), .int (iI lf), .int (iI rt)])), (t0, .inl (k.2.1, 10, .inr (.inl (bW 300 (sT cs kk))))), (t1, .inl (k.2.1, 3010, .inr (.inl tps))), (a0, .inl (k.1, 301, .inl (iF hs))), (a1, .inl (k.1, 301, .inl (iF ss))), (a2, .inl (k.1, 301, .inl (iF sd)))] H := hP
        have hD : va_D A [(w, .inr (2, [.int (iI 300), .int (iI 10), .ref t0, .ref t1, .ref a0, .ref a1, .ref a2, .int (iI 3), .int (iI (kk : Int)), .int (iI ((kk : Int) - (drA cs kk))), .int (iI ((sH cs kk) - (sH cs (drA cs kk).toNat))), .int (iI (sS cs kk)), .int (iI (sH cs kk)), .int (iI on), .int (iI lf), .int (iI rt)])), (t0, .inl (k.2.1, 10, .inr (.inl (bW 300 (sT cs kk))))), (t1, .inl (k.2.1, 3010, .inr (.inl tps))), (a0, .inl (k.1, 301, .inl (iF hs))), (a1, .inl (k.1, 301, .inl (iF ss))), (a2, .inl (k.1, 301, .inl (iF sd)))] := hD
        exact hret (3, ((kk : Int) - (drA cs kk)), ((sH cs kk) - (sH cs (drA cs kk).toNat))) _ _ _ _ dX2_look_73 (by show _ = lkG cs kk o pe dr; unfold lkG; rw [if_neg (by omega), if_pos (by omega)]) hP hD hS
  · skip
    refine lv_aload_n hx hb dX2_look_9 rfl (lv_at hl 1 rfl) ?_
    refine lv_iconst (v := iI 2) hx hb dX2_look_10 rfl ?_
    refine va_put (D := g) (ci := 2) (v := .int (iI 2)) (ty := .int) (C := RX2) (T := TX2) (N := 16) hx hb hts inX2 tyX2 tyX2_ok nmX2 hown hK.1 hP hD hS 0 rfl rfl 7 (by decide) f50 (fun _ h9 => h9) rfl (by decide +kernel) rfl rfl (Nat.le_of_ble_eq_true rfl) dX2_look_11 (fun H locs hP hD hS => ?_)
    have hP : va_P g vwCl [(w, .inr (2, [.int (iI 300), .int (iI 10), .ref t0, .ref t1, .ref a0, .ref a1, .ref a2, .int (iI 2), .int (iI (kk : Int)), .int (iI pe), .int (iI dr), .int (iI (sS cs kk)), .int (iI (sH cs kk)), .int (iI on), .int (iI lf), .int (iI rt)])), (t0, .inl (k.2.1, 10, .inr (.inl (bW 300 (sT cs kk))))), (t1, .inl (k.2.1, 3010, .inr (.inl tps))), (a0, .inl (k.1, 301, .inl (iF hs))), (a1, .inl (k.1, 301, .inl (iF ss))), (a2, .inl (k.1, 301, .inl (iF sd)))] H := hP
    have hD : va_D A [(w, .inr (2, [.int (iI 300), .int (iI 10), .ref t0, .ref t1, .ref a0, .ref a1, .ref a2, .int (iI 2), .int (iI (kk : Int)), .int (iI pe), .int (iI dr), .int (iI (sS cs kk)), .int (iI (sH cs kk)), .int (iI on), .int (iI lf), .int (iI rt)])), (t0, .inl (k.2.1, 10, .inr (.inl (bW 300 (sT cs kk))))), (t1, .inl (k.2.1, 3010, .inr (.inl tps))), (a0, .inl (k.1, 301, .inl (iF hs))), (a1, .inl (k.1, 301, .inl (iF ss))), (a2, .inl (k.1, 301, .inl (iF sd)))] := hD
    refine lv_aload_n hx hb dX2_look_14 rfl (lv_at hl 1 rfl) ?_
    refine lv_aload_n hx hb dX2_look_15 rfl (lv_at hl 1 rfl) ?_
    refine va_get (D := g) (ci := 2) (v := .int (iI (kk : Int))) (C := RX2) (T := TX2) (N := 16) hx hb hts inX2 hown hK.1 hP 0 rfl rfl 8 (by decide) f47 (fun _ h9 => h9) rfl dX2_look_16 ?_
    refine lv_iload_n hx hb dX2_look_19 rfl (lv_at hl 0 rfl) ?_
    refine ri_isub (a := (kk : Int)) (b := (cyA cs kk)) hx hb dX2_look_20 ?_
    refine va_put (D := g) (ci := 2) (v := .int (iI ((kk : Int) - (cyA cs kk)))) (ty := .int) (C := RX2) (T := TX2) (N := 16) hx hb hts inX2 tyX2 tyX2_ok nmX2 hown hK.1 hP hD hS 0 rfl rfl 9 (by decide) f85 (fun _ h9 => h9) rfl (by decide +kernel) rfl rfl (Nat.le_of_ble_eq_true rfl) dX2_look_21 (fun H locs hP hD hS => ?_)
    have hP : va_P g vwCl [(w, .inr (2, [.int (iI 300), .int (iI 10), .ref t0, .ref t1, .ref a0, .ref a1, .ref a2, .int (iI 2), .int (iI (kk : Int)), .int (iI ((kk : Int) - (cyA cs kk))), .int (iI dr), .int (iI (sS cs kk)), .int (iI (sH cs kk)), .int (iI on), .int (iI lf), .int (iI rt)])), (t0, .inl (k.2.1, 10, .inr (.inl (bW 300 (sT cs kk))))), (t1, .inl (k.2.1, 3010, .inr (.inl tps))), (a0, .inl (k.1, 301, .inl (iF hs))), (a1, .inl (k.1, 301, .inl (iF ss))), (a2, .inl (k.1, 301, .inl (iF sd)))] H := hP
    have hD : va_D A [(w, .inr (2, [.int (iI 300), .int (iI 10), .ref t0, .ref t1, .ref a0, .ref a1, .ref a2, .int (iI 2), .int (iI (kk : Int)), .int (iI ((kk : Int) - (cyA cs kk))), .int (iI dr), .int (iI (sS cs kk)), .int (iI (sH cs kk)), .int (iI on), .int (iI lf), .int (iI rt)])), (t0, .inl (k.2.1, 10, .inr (.inl (bW 300 (sT cs kk))))), (t1, .inl (k.2.1, 3010, .inr (.inl tps))), (a0, .inl (k.1, 301, .inl (iF hs))), (a1, .inl (k.1, 301, .inl (iF ss))), (a2, .inl (k.1, 301, .inl (iF sd)))] := hD
    exact hret (2, ((kk : Int) - (cyA cs kk)), dr) _ _ _ _ dX2_look_24 (by show _ = lkG cs kk o pe dr; unfold lkG; rw [if_pos (by omega)]) hP hD hS

set_option maxHeartbeats 4000000 in
set_option maxRecDepth 100000 in
theorem c_latestDrift120 (l : Launch) (g : va_G) (k : kT) (w t0 t1 a0 a1 a2 : Nat) (o pe dr on lf rt : Int) (tps : Nat → Int64) (hs ss sd : Int → Int) (cs : Int → Int) (hc : okC cs) (kk : Nat) (hk1 : 1 ≤ kk ∧ kk ≤ 120) (hal : alive cs kk) (hRp : Rp cs 120 4 kk tps hs ss sd) : cP l yX2_latestDrift wsX2_latestDrift rm_2 g k (wW120 k w t0 t1 a0 a1 a2 o (kk : Int) pe dr (sS cs kk) (sH cs kk) on lf rt (bW 120 (sT cs kk)) tps hs ss sd) [.ref w] (fun r => r = iI (drA cs kk)) := by
  refine st_P (by decide) rfl (Nat.le_of_ble_eq_true rfl) ?_
  intro p e s m below meth c Q hx hb hml hown hts hP hK hret ls hl
  have hown : s.vm.findClass RX2 = some m.cls := hown
  have f47 := hts (.fieldLink RX2 47 "MachineTree$Walk" "steps" "I") (by decide +kernel)
  have inX2 := (by decide +kernel : ∀ w ∈ wsX20, w ∈ wsX2_latestDrift)
  have f18 := hts (.fieldLink RX2 18 "MachineTree$Walk" "reach" "I") (by decide +kernel)
  have f41 := hts (.fieldLink RX2 41 "MachineTree$Walk" "sides" "[I") (by decide +kernel)
  have f56 := hts (.fieldLink RX2 56 "MachineTree$Walk" "head" "I") (by decide +kernel)
  have f34 := hts (.fieldLink RX2 34 "MachineTree$Walk" "heads" "[I") (by decide +kernel)
  have f38 := hts (.fieldLink RX2 38 "MachineTree$Walk" "states" "[I") (by decide +kernel)
  have f53 := hts (.fieldLink RX2 53 "MachineTree$Walk" "state" "I") (by decide +kernel)
  have hl : lv_has ls 6 [(0, .ref w)] := hl
  have r0 := sR_b cs kk
  have b2 := sH_b cs kk
  have b3 := sS_b hc kk hal
  refine lv_aload_n hx hb dX2_latestDrift_0 rfl (lv_at hl 0 rfl) ?_
  refine va_get (D := g) (ci := 2) (v := .int (iI (kk : Int))) (C := RX2) (T := TX2) (N := 16) hx hb hts inX2 hown hK.1 hP 0 rfl rfl 8 (by decide) f47 (fun _ h9 => h9) rfl dX2_latestDrift_1 ?_
  refine lv_aload_n hx hb dX2_latestDrift_4 rfl (lv_at hl 0 rfl) ?_
  refine va_get (D := g) (ci := 2) (v := .int (iI 120)) (C := RX2) (T := TX2) (N := 16) hx hb hts inX2 hown hK.1 hP 0 rfl rfl 0 (by decide) f18 (fun _ h9 => h9) rfl dX2_latestDrift_5 ?_
  refine va_mmin hx hb (by rw [hml]; exact hl.1.symm) hown (hts (.methodLink RX2 9 Lib.Math.min.name) (by decide +kernel)) (hts (.static Lib.Math.min.name) (by decide +kernel)) (hts (.initialized "java/lang/Math") (by decide +kernel)) (hts (.code Lib.Math.min.name Lib.Math.min.code 2 (some .int)) (by decide +kernel)) (Nat.le_of_ble_eq_true rfl) (Nat.le_of_ble_eq_true rfl) (Nat.le_of_ble_eq_true rfl) (Nat.le_of_ble_eq_true rfl) dX2_latestDrift_8 ?_
  refine ri_top (iI_min (a := (kk : Int)) (b := 120) (by omega) (by omega)) ?_
  refine ri_ex (b := (kk : Int)) (by omega) ?_
  refine lv_istore_n (lv' := [(1, .int (iI (kk : Int))), (0, .ref w)]) hx hb dX2_latestDrift_11 rfl hl (by decide) rfl (fun ls hl => ?_)
  refine lv_iload_n hx hb dX2_latestDrift_12 rfl (lv_at hl 0 rfl) ?_
  refine ri_if_lt (a := (kk : Int)) (tgt := 25) hx hb (by omega) dX2_latestDrift_13 (by decide) (fun c13 => ?_) (fun c13 => ?_)
  · exact absurd c13 (by omega)
  · skip
    refine lv_aload_n hx hb dX2_latestDrift_16 rfl (lv_at hl 1 rfl) ?_
    refine va_get (D := g) (ci := 2) (v := .ref a2) (C := RX2) (T := TX2) (N := 16) hx hb hts inX2 hown hK.1 hP 0 rfl rfl 6 (by decide) f41 (fun _ h9 => h9) rfl dX2_latestDrift_17 ?_
    refine lv_iload_n hx hb dX2_latestDrift_20 rfl (lv_at hl 0 rfl) ?_
    refine ri_iald (F := sd) (i := (kk : Int)) hx hb hK.1 hP 5 0 rfl rfl (by omega) (by omega) dX2_latestDrift_21 ?_
    refine ri_ex (b := (sR cs kk)) (hRp kk (Nat.le_refl kk)).2.2.1 ?_
    refine lv_goto (tgt := 26) hx hb dX2_latestDrift_22 (by decide) ?_
    refine lv_istore_n (lv' := [(2, .int (iI (sR cs kk))), (1, .int (iI (kk : Int))), (0, .ref w)]) hx hb dX2_latestDrift_26 rfl hl (by decide) rfl (fun ls hl => ?_)
    refine lv_iload_n hx hb dX2_latestDrift_27 rfl (lv_at hl 0 rfl) ?_
    refine ri_if_ne (a := (sR cs kk)) (tgt := 33) hx hb (by omega) dX2_latestDrift_28 (by decide) (fun c28 => ?_) (fun c28 => ?_)
    · skip
      refine lv_iload_n hx hb dX2_latestDrift_33 rfl (lv_at hl 0 rfl) ?_
      refine lv_aload_n hx hb dX2_latestDrift_34 rfl (lv_at hl 2 rfl) ?_
      refine va_get (D := g) (ci := 2) (v := .int (iI (sH cs kk))) (C := RX2) (T := TX2) (N := 16) hx hb hts inX2 hown hK.1 hP 0 rfl rfl 12 (by decide) f56 (fun _ h9 => h9) rfl dX2_latestDrift_35 ?_
      refine ri_imul (a := (sR cs kk)) (b := (sH cs kk)) hx hb dX2_latestDrift_38 ?_
      refine lv_istore_n (lv' := [(3, .int (iI ((sR cs kk) * (sH cs kk)))), (2, .int (iI (sR cs kk))), (1, .int (iI (kk : Int))), (0, .ref w)]) hx hb dX2_latestDrift_39 rfl hl (by decide) rfl (fun ls hl => ?_)
      refine lv_iload_n hx hb dX2_latestDrift_40 rfl (lv_at hl 2 rfl) ?_
      refine lv_iconst (v := iI 1) hx hb dX2_latestDrift_41 rfl ?_
      refine ri_isub (a := (kk : Int)) (b := 1) hx hb dX2_latestDrift_42 ?_
      refine lv_istore (lv' := [(4, .int (iI ((kk : Int) - 1))), (3, .int (iI ((sR cs kk) * (sH cs kk)))), (2, .int (iI (sR cs kk))), (1, .int (iI (kk : Int))), (0, .ref w)]) hx hb dX2_latestDrift_43 hl (by decide) rfl (fun ls hl => ?_)
      have J45 : ∀ (n9 : Nat) (th : Int) (x3 : Int), th + 1 < (n9 : Int) → (0 ≤ th ∧ th ≤ (kk : Int) - 1) → (x3 = far cs (sR cs kk) kk ((kk : Int) - 1 - th).toNat) → (lat (dri cs kk) kk = lat (dri cs kk) (th + 1).toNat) → ∀ (ls : Array Slot), lv_has ls 6 [(0, .ref w), (1, .int (iI (kk : Int))), (2, .int (iI (sR cs kk))), (3, .int (iI x3)), (4, .int (iI th))] → W p l e rm_2 s m ([.ref w] : List Value).toArray below meth c s.heap [] 0 0 Q (F0 m 45 ls []) := by
        intro n9
        induction n9 with
        | zero => intro th x3 hm9 hi hx3 hl9; exact absurd hm9 (by omega)
        | succ n9 ih =>
          intro th x3 hm9 hi hx3 hl9 ls hl
          refine lv_iload hx hb dX2_latestDrift_45 (lv_at hl 4 rfl) ?_
          refine ri_if_le (a := th) (tgt := 116) hx hb (by omega) dX2_latestDrift_47 (by decide) (fun c47 => ?_) (fun c47 => ?_)
          · skip
            refine lv_iconst (v := iI (-1)) hx hb dX2_latestDrift_116 rfl ?_
            exact hret (iI (-1)) _ _ dX2_latestDrift_117 (by unfold drA; rw [if_neg c28, hl9, show (th + 1).toNat = 0 + 1 by omega, lat_n (fun q => absurd q.1 (by omega))]; rfl)
          · skip
            have h4 := hRp th.toNat (by omega)
            rw [Int.toNat_of_nonneg (by omega : 0 ≤ th)] at h4
            have b1 := sH_b cs th.toNat
            have b4 := sS_b hc th.toNat (fun i hi => hal i (by omega))
            have r1 := sR_b cs th.toNat
            have hd9 : sR cs kk = 1 ∨ sR cs kk = -1 := by omega
            have f9 := far_b cs (sR cs kk) hd9 kk ((kk : Int) - 1 - th).toNat
            have m2 : sR cs kk * sH cs th.toNat = sH cs th.toNat ∨ sR cs kk * sH cs th.toNat = -sH cs th.toNat := by rcases hd9 with h | h <;> rw [h] <;> omega
            have hfar : far cs (sR cs kk) kk (kk - th.toNat) = min x3 (sR cs kk * sH cs th.toNat) := by rw [show kk - th.toNat = ((kk : Int) - 1 - (th + -1)).toNat by omega, far_s (by omega) (by omega), hx3]
            refine lv_iload_n hx hb dX2_latestDrift_50 rfl (lv_at hl 2 rfl) ?_
            refine lv_aload_n hx hb dX2_latestDrift_51 rfl (lv_at hl 0 rfl) ?_
            refine va_get (D := g) (ci := 2) (v := .ref a0) (C := RX2) (T := TX2) (N := 16) hx hb hts inX2 hown hK.1 hP 0 rfl rfl 4 (by decide) f34 (fun _ h9 => h9) rfl dX2_latestDrift_52 ?_
            refine lv_iload hx hb dX2_latestDrift_55 (lv_at hl 4 rfl) ?_
            refine ri_iald (F := hs) (i := th) hx hb hK.1 hP 3 0 rfl rfl (by omega) (by omega) dX2_latestDrift_57 ?_
            refine ri_ex (b := (sH cs th.toNat)) h4.1 ?_
            refine ri_imul (a := (sR cs kk)) (b := (sH cs th.toNat)) hx hb dX2_latestDrift_58 ?_
            refine lv_istore (lv' := [(5, .int (iI ((sR cs kk) * (sH cs th.toNat)))), (0, .ref w), (1, .int (iI (kk : Int))), (2, .int (iI (sR cs kk))), (3, .int (iI x3)), (4, .int (iI th))]) hx hb dX2_latestDrift_59 hl (by decide) rfl (fun ls hl => ?_)
            refine lv_iload_n hx hb dX2_latestDrift_61 rfl (lv_at hl 4 rfl) ?_
            refine lv_iload hx hb dX2_latestDrift_62 (lv_at hl 0 rfl) ?_
            refine va_mmin hx hb (by rw [hml]; exact hl.1.symm) hown (hts (.methodLink RX2 9 Lib.Math.min.name) (by decide +kernel)) (hts (.static Lib.Math.min.name) (by decide +kernel)) (hts (.initialized "java/lang/Math") (by decide +kernel)) (hts (.code Lib.Math.min.name Lib.Math.min.code 2 (some .int)) (by decide +kernel)) (Nat.le_of_ble_eq_true rfl) (Nat.le_of_ble_eq_true rfl) (Nat.le_of_ble_eq_true rfl) (Nat.le_of_ble_eq_true rfl) dX2_latestDrift_64 ?_
            refine ri_top (iI_min (a := x3) (b := ((sR cs kk) * (sH cs th.toNat))) (by omega) (by omega)) ?_
            refine lv_istore_n (lv' := [(3, .int (iI (min x3 ((sR cs kk) * (sH cs th.toNat))))), (5, .int (iI ((sR cs kk) * (sH cs th.toNat)))), (0, .ref w), (1, .int (iI (kk : Int))), (2, .int (iI (sR cs kk))), (4, .int (iI th))]) hx hb dX2_latestDrift_67 rfl hl (by decide) rfl (fun ls hl => ?_)
            refine lv_aload_n hx hb dX2_latestDrift_68 rfl (lv_at hl 2 rfl) ?_
            refine va_get (D := g) (ci := 2) (v := .ref a2) (C := RX2) (T := TX2) (N := 16) hx hb hts inX2 hown hK.1 hP 0 rfl rfl 6 (by decide) f41 (fun _ h9 => h9) rfl dX2_latestDrift_69 ?_
            refine lv_iload hx hb dX2_latestDrift_72 (lv_at hl 5 rfl) ?_
            refine ri_iald (F := sd) (i := th) hx hb hK.1 hP 5 0 rfl rfl (by omega) (by omega) dX2_latestDrift_74 ?_
            refine ri_ex (b := (sR cs th.toNat)) h4.2.2.1 ?_
            refine lv_iload_n hx hb dX2_latestDrift_75 rfl (lv_at hl 4 rfl) ?_
            refine ri_icmp_ne (a := (sR cs th.toNat)) (b := (sR cs kk)) (tgt := 110) hx hb (by omega) (by omega) dX2_latestDrift_76 (by decide) (fun c76 => ?_) (fun c76 => ?_)
            · skip
              have hl8 : lat (dri cs kk) kk = lat (dri cs kk) (th + -1 + 1).toNat := by rw [hl9]; exact lat_1 (by omega) (fun q => c76 q.2.1)
              refine ri_iinc (x := th) (lv' := [(4, .int (iI (th + (-1)))), (3, .int (iI (min x3 ((sR cs kk) * (sH cs th.toNat))))), (5, .int (iI ((sR cs kk) * (sH cs th.toNat)))), (0, .ref w), (1, .int (iI (kk : Int))), (2, .int (iI (sR cs kk)))]) hx hb dX2_latestDrift_110 hl (k := 5) rfl (by decide) rfl (fun ls hl => ?_)
              refine lv_goto (tgt := 45) hx hb dX2_latestDrift_113 (by decide) ?_
              exact ih (th + (-1)) (min x3 ((sR cs kk) * (sH cs th.toNat))) (by omega) (by omega) (by rw [far_s (by omega) (by omega), hx3]) hl8 _ (lv_sub hl [3, 4, 5, 1, 0] rfl)
            · skip
              refine lv_aload_n hx hb dX2_latestDrift_79 rfl (lv_at hl 2 rfl) ?_
              refine va_get (D := g) (ci := 2) (v := .ref a1) (C := RX2) (T := TX2) (N := 16) hx hb hts inX2 hown hK.1 hP 0 rfl rfl 5 (by decide) f38 (fun _ h9 => h9) rfl dX2_latestDrift_80 ?_
              refine lv_iload hx hb dX2_latestDrift_83 (lv_at hl 5 rfl) ?_
              refine ri_iald (F := ss) (i := th) hx hb hK.1 hP 4 0 rfl rfl (by omega) (by omega) dX2_latestDrift_85 ?_
              refine ri_ex (b := (sS cs th.toNat)) h4.2.1 ?_
              refine lv_aload_n hx hb dX2_latestDrift_86 rfl (lv_at hl 2 rfl) ?_
              refine va_get (D := g) (ci := 2) (v := .int (iI (sS cs kk))) (C := RX2) (T := TX2) (N := 16) hx hb hts inX2 hown hK.1 hP 0 rfl rfl 11 (by decide) f53 (fun _ h9 => h9) rfl dX2_latestDrift_87 ?_
              refine ri_icmp_ne (a := (sS cs th.toNat)) (b := (sS cs kk)) (tgt := 110) hx hb (by omega) (by omega) dX2_latestDrift_90 (by decide) (fun c90 => ?_) (fun c90 => ?_)
              · skip
                have hl8 : lat (dri cs kk) kk = lat (dri cs kk) (th + -1 + 1).toNat := by rw [hl9]; exact lat_1 (by omega) (fun q => c90 q.2.2.1)
                refine ri_iinc (x := th) (lv' := [(4, .int (iI (th + (-1)))), (3, .int (iI (min x3 ((sR cs kk) * (sH cs th.toNat))))), (5, .int (iI ((sR cs kk) * (sH cs th.toNat)))), (0, .ref w), (1, .int (iI (kk : Int))), (2, .int (iI (sR cs kk)))]) hx hb dX2_latestDrift_110 hl (k := 5) rfl (by decide) rfl (fun ls hl => ?_)
                refine lv_goto (tgt := 45) hx hb dX2_latestDrift_113 (by decide) ?_
                exact ih (th + (-1)) (min x3 ((sR cs kk) * (sH cs th.toNat))) (by omega) (by omega) (by rw [far_s (by omega) (by omega), hx3]) hl8 _ (lv_sub hl [3, 4, 5, 1, 0] rfl)
              · skip
                refine lv_aload_n hx hb dX2_latestDrift_93 rfl (lv_at hl 2 rfl) ?_
                refine lv_iload hx hb dX2_latestDrift_94 (lv_at hl 5 rfl) ?_
                refine lv_iload_n hx hb dX2_latestDrift_96 rfl (lv_at hl 4 rfl) ?_
                refine lv_iload hx hb dX2_latestDrift_97 (lv_at hl 1 rfl) ?_
                refine lv_iload_n hx hb dX2_latestDrift_99 rfl (lv_at hl 0 rfl) ?_
                refine ri_isub (a := ((sR cs kk) * (sH cs th.toNat))) (b := (min x3 ((sR cs kk) * (sH cs th.toNat)))) hx hb dX2_latestDrift_100 ?_
                refine rc_P (own := RX2) (q := (RX2, TX2, 16)) (wc := [(w, .inr (2, [.int (iI 120), .int (iI 4), .ref t0, .ref t1, .ref a0, .ref a1, .ref a2, .int (iI o), .int (iI (kk : Int)), .int (iI pe), .int (iI dr), .int (iI (sS cs kk)), .int (iI (sH cs kk)), .int (iI on), .int (iI lf), .int (iI rt)])), (t0, .inl (k.2.1, 4, .inr (.inl (bW 120 (sT cs kk))))), (t1, .inl (k.2.1, 484, .inr (.inl tps))), (a0, .inl (k.1, 121, .inl (iF hs))), (a1, .inl (k.1, 121, .inl (iF ss))), (a2, .inl (k.1, 121, .inl (iF sd)))]) (As := [.int (iI th), .int (iI (sR cs kk)), .int (iI (((sR cs kk) * (sH cs th.toNat)) - (min x3 ((sR cs kk) * (sH cs th.toNat)))))]) (rest := []) ⟨hx, hb, hml, hown, hts⟩ (c_sameBehind120 l g k w t0 t1 a0 a1 a2 o pe dr on lf rt tps hs ss sd cs hc kk hk1 hal hRp th (sR cs kk) ((sR cs kk * sH cs th.toNat) - (min x3 (sR cs kk * sH cs th.toNat))) (by omega) hd9 (by omega)) (cwV 3 hts gX2_latestDrift_X2_sameBehind rfl rfl rfl (by decide +kernel) ⟨Nat.le_of_ble_eq_true rfl, Nat.le_of_ble_eq_true rfl⟩) hK hP [0, 1, 2, 3, 4, 5] rfl (ci := 2) (q0 := 0) rfl rfl rfl rfl hl.1 (Nat.le_of_ble_eq_true rfl) ⟨Nat.le_of_ble_eq_true rfl, Nat.le_of_ble_eq_true rfl⟩ dX2_latestDrift_101 (fun r101 hr101 => ?_)
                obtain ⟨v101, e101, h101⟩ := hr101
                have hv101 : 0 ≤ v101 ∧ v101 ≤ 1 := by rcases h101 with ⟨h, -⟩ | ⟨h, -⟩ <;> omega
                refine ri_top (y := iI v101) e101 ?_
                refine ri_if_eq (a := v101) (tgt := 110) hx hb (by omega) dX2_latestDrift_104 (by decide) (fun c104 => ?_) (fun c104 => ?_)
                · skip
                  have hl8 : lat (dri cs kk) kk = lat (dri cs kk) (th + -1 + 1).toNat := by rw [hl9]; exact lat_1 (by omega) (fun q => by rcases h101 with ⟨e1, e2⟩ | ⟨e1, e2⟩; omega; exact e2 (fun j h1 h2 => q.2.2.2 j h1 (by rw [hfar]; exact h2)))
                  refine ri_iinc (x := th) (lv' := [(4, .int (iI (th + (-1)))), (3, .int (iI (min x3 ((sR cs kk) * (sH cs th.toNat))))), (5, .int (iI ((sR cs kk) * (sH cs th.toNat)))), (0, .ref w), (1, .int (iI (kk : Int))), (2, .int (iI (sR cs kk)))]) hx hb dX2_latestDrift_110 hl (k := 5) rfl (by decide) rfl (fun ls hl => ?_)
                  refine lv_goto (tgt := 45) hx hb dX2_latestDrift_113 (by decide) ?_
                  exact ih (th + (-1)) (min x3 ((sR cs kk) * (sH cs th.toNat))) (by omega) (by omega) (by rw [far_s (by omega) (by omega), hx3]) hl8 _ (lv_sub hl [3, 4, 5, 1, 0] rfl)
                · skip
                  refine lv_iload hx hb dX2_latestDrift_107 (lv_at hl 5 rfl) ?_
                  exact hret (iI th) _ _ dX2_latestDrift_109 (by unfold drA; rw [if_neg c28, hl9]; congr 1; refine (lat_h (by omega) ⟨by omega, by omega, by omega, ?_⟩).symm; rcases h101 with ⟨e1, e2⟩ | ⟨e1, e2⟩; exact (fun j h1 h2 => e2 j h1 (by rw [hfar] at h2; exact h2)); omega)
      exact J45 ((((kk : Int) - 1) + 1 : Int).toNat.succ) ((kk : Int) - 1) ((sR cs kk) * (sH cs kk)) (by omega) (by omega) (by rw [show ((kk : Int) - 1 - ((kk : Int) - 1)).toNat = 0 by omega]; rfl) (by rw [show ((kk : Int) - 1 + 1).toNat = kk by omega]) _ (lv_sub hl [4, 3, 2, 1, 0] rfl)
    · skip
      refine lv_iconst (v := iI (-1)) hx hb dX2_latestDrift_31 rfl ?_
      exact hret (iI (-1)) _ _ dX2_latestDrift_32 (by unfold drA; rw [if_pos c28])

set_option maxHeartbeats 4000000 in
set_option maxRecDepth 100000 in
theorem c_look120 (l : Launch) (g : va_G) (k : kT) (w t0 t1 a0 a1 a2 : Nat) (o pe dr on lf rt : Int) (tps : Nat → Int64) (hs ss sd : Int → Int) (cs : Int → Int) (hc : okC cs) (kk : Nat) (hk1 : 1 ≤ kk ∧ kk ≤ 120) (hal : alive cs kk) (hRp : Rp cs 120 4 kk tps hs ss sd) (sz : Nat) : cV l yX2_look wsX2_look rm_3 g k (wW120 k w t0 t1 a0 a1 a2 o (kk : Int) pe dr (sS cs kk) (sH cs kk) on lf rt (bW 120 (sT cs kk)) tps hs ss sd) sz [.ref w] 0 0 (fun u : Int × Int × Int => wW120 k w t0 t1 a0 a1 a2 u.1 (kk : Int) u.2.1 u.2.2 (sS cs kk) (sH cs kk) on lf rt (bW 120 (sT cs kk)) tps hs ss sd) (fun u => u = lkG cs kk o pe dr) := by
  refine st_V (by decide) rfl (Nat.le_of_ble_eq_true rfl) ?_
  intro p e s m below meth c Q A hx hb hml hown hts hin hA hP hD hS hK hret ls hl
  have hown : s.vm.findClass RX2 = some m.cls := hown
  have f34 := hts (.fieldLink RX2 34 "MachineTree$Walk" "heads" "[I") (by decide +kernel)
  have inX2 := (by decide +kernel : ∀ w ∈ wsX20, w ∈ wsX2_look)
  have f50 := hts (.fieldLink RX2 50 "MachineTree$Walk" "outcome" "I") (by decide +kernel)
  have f47 := hts (.fieldLink RX2 47 "MachineTree$Walk" "steps" "I") (by decide +kernel)
  have f85 := hts (.fieldLink RX2 85 "MachineTree$Walk" "period" "I") (by decide +kernel)
  have f56 := hts (.fieldLink RX2 56 "MachineTree$Walk" "head" "I") (by decide +kernel)
  have f88 := hts (.fieldLink RX2 88 "MachineTree$Walk" "drift" "I") (by decide +kernel)
  have hl : lv_has ls 3 [(0, .ref w)] := hl
  obtain ⟨H, hH⟩ : ∃ H, H = s.heap := ⟨_, rfl⟩
  obtain ⟨locs, hlo⟩ : ∃ L : List Loc, L = [] := ⟨_, rfl⟩
  rw [← hH] at hP
  have hS : va_S A s.heap H locs := by rw [hH, hlo]; exact hS
  rw [show W p l e rm_3 s m ([.ref w] : List Value).toArray below meth c s.heap [] 0 0 Q (F0 m 0 ls []) = W p l e rm_3 s m ([.ref w] : List Value).toArray below meth c H locs 0 0 Q (F0 m 0 ls []) by rw [hH, hlo]]
  clear hH hlo
  have y1 := cyA_b cs kk
  have y2 := drA_b cs kk
  refine lv_aload_n hx hb dX2_look_0 rfl (lv_at hl 0 rfl) ?_
  refine rc_P (own := RX2) (q := (RX2, TX2, 16)) (wc := [(w, .inr (2, [.int (iI 120), .int (iI 4), .ref t0, .ref t1, .ref a0, .ref a1, .ref a2, .int (iI o), .int (iI (kk : Int)), .int (iI pe), .int (iI dr), .int (iI (sS cs kk)), .int (iI (sH cs kk)), .int (iI on), .int (iI lf), .int (iI rt)])), (t0, .inl (k.2.1, 4, .inr (.inl (bW 120 (sT cs kk))))), (t1, .inl (k.2.1, 484, .inr (.inl tps))), (a0, .inl (k.1, 121, .inl (iF hs))), (a1, .inl (k.1, 121, .inl (iF ss))), (a2, .inl (k.1, 121, .inl (iF sd)))]) (As := []) (rest := []) ⟨hx, hb, hml, hown, hts⟩ (c_latestSame120 l g k w t0 t1 a0 a1 a2 o pe dr on lf rt tps hs ss sd cs hc kk hk1 hal hRp) (cwV 0 hts gX2_look_X2_latestSame rfl rfl rfl (by decide +kernel) ⟨Nat.le_of_ble_eq_true rfl, Nat.le_of_ble_eq_true rfl⟩) hK hP [0, 1, 2, 3, 4, 5] rfl (ci := 2) (q0 := 0) rfl rfl rfl rfl hl.1 (Nat.le_of_ble_eq_true rfl) ⟨Nat.le_of_ble_eq_true rfl, Nat.le_of_ble_eq_true rfl⟩ dX2_look_1 (fun r1 hr1 => ?_)
  refine ri_top (y := iI (cyA cs kk)) hr1 ?_
  refine lv_istore_n (lv' := [(1, .int (iI (cyA cs kk))), (0, .ref w)]) hx hb dX2_look_4 rfl hl (by decide) rfl (fun ls hl => ?_)
  refine lv_iload_n hx hb dX2_look_5 rfl (lv_at hl 0 rfl) ?_
  refine ri_if_lt (a := (cyA cs kk)) (tgt := 25) hx hb (by omega) dX2_look_6 (by decide) (fun c6 => ?_) (fun c6 => ?_)
  · skip
    refine lv_aload_n hx hb dX2_look_25 rfl (lv_at hl 1 rfl) ?_
    refine rc_P (own := RX2) (q := (RX2, TX2, 16)) (wc := [(w, .inr (2, [.int (iI 120), .int (iI 4), .ref t0, .ref t1, .ref a0, .ref a1, .ref a2, .int (iI o), .int (iI (kk : Int)), .int (iI pe), .int (iI dr), .int (iI (sS cs kk)), .int (iI (sH cs kk)), .int (iI on), .int (iI lf), .int (iI rt)])), (t0, .inl (k.2.1, 4, .inr (.inl (bW 120 (sT cs kk))))), (t1, .inl (k.2.1, 484, .inr (.inl tps))), (a0, .inl (k.1, 121, .inl (iF hs))), (a1, .inl (k.1, 121, .inl (iF ss))), (a2, .inl (k.1, 121, .inl (iF sd)))]) (As := []) (rest := []) ⟨hx, hb, hml, hown, hts⟩ (c_latestDrift120 l g k w t0 t1 a0 a1 a2 o pe dr on lf rt tps hs ss sd cs hc kk hk1 hal hRp) (cwV 0 hts gX2_look_X2_latestDrift rfl rfl rfl (by decide +kernel) ⟨Nat.le_of_ble_eq_true rfl, Nat.le_of_ble_eq_true rfl⟩) hK hP [0, 1, 2, 3, 4, 5] rfl (ci := 2) (q0 := 0) rfl rfl rfl rfl hl.1 (Nat.le_of_ble_eq_true rfl) ⟨Nat.le_of_ble_eq_true rfl, Nat.le_of_ble_eq_true rfl⟩ dX2_look_26 (fun r26 hr26 => ?_)
    refine ri_top (y := iI (drA cs kk)) hr26 ?_
    refine lv_istore_n (lv' := [(2, .int (iI (drA cs kk))), (1, .int (iI (cyA cs kk))), (0, .ref w)]) hx hb dX2_look_29 rfl hl (by decide) rfl (fun ls hl => ?_)
    refine lv_iload_n hx hb dX2_look_30 rfl (lv_at hl 0 rfl) ?_
    refine ri_if_lt (a := (drA cs kk)) (tgt := 73) hx hb (by omega) dX2_look_31 (by decide) (fun c31 => ?_) (fun c31 => ?_)
    · skip
      exact hret (o, pe, dr) _ _ _ _ dX2_look_73 (by show _ = lkG cs kk o pe dr; unfold lkG; rw [if_neg (by omega), if_neg (by omega)]) hP hD hS
    · skip
      refine lv_iload_n hx hb dX2_look_34 rfl (lv_at hl 0 rfl) ?_
      refine lv_aload_n hx hb dX2_look_35 rfl (lv_at hl 2 rfl) ?_
      refine va_get (D := g) (ci := 2) (v := .ref a0) (C := RX2) (T := TX2) (N := 16) hx hb hts inX2 hown hK.1 hP 0 rfl rfl 4 (by decide) f34 (fun _ h9 => h9) rfl dX2_look_36 ?_
      refine ri_alen hx hb hK.1 hP 3 0 rfl rfl dX2_look_39 ?_
      refine ri_ex (b := 121) rfl ?_
      refine ri_icmp_ge (a := (drA cs kk)) (b := 121) (tgt := 73) hx hb (by omega) (by omega) dX2_look_40 (by decide) (fun c40 => ?_) (fun c40 => ?_)
      · exact absurd c40 (by omega)
      · skip
        refine lv_aload_n hx hb dX2_look_43 rfl (lv_at hl 2 rfl) ?_
        refine lv_iconst (v := iI 3) hx hb dX2_look_44 rfl ?_
        refine va_put (D := g) (ci := 2) (v := .int (iI 3)) (ty := .int) (C := RX2) (T := TX2) (N := 16) hx hb hts inX2 tyX2 tyX2_ok nmX2 hown hK.1 hP hD hS 0 rfl rfl 7 (by decide) f50 (fun _ h9 => h9) rfl (by decide +kernel) rfl rfl (Nat.le_of_ble_eq_true rfl) dX2_look_45 (fun H locs hP hD hS => ?_)
        have hP : va_P g vwCl [(w, .inr (2, [.int (iI 120), .int (iI 4), .ref t0, .ref t1, .ref a0, .ref a1, .ref a2, .int (iI 3), .int (iI (kk : Int)), .int (iI pe), .int (iI dr), .int (iI (sS cs kk)), .int (iI (sH cs kk)), .int (iI on), .int (iI lf), .int (iI rt)])), (t0, .inl (k.2.1, 4, .inr (.inl (bW 120 (sT cs kk))))), (t1, .inl (k.2.1, 484, .inr (.inl tps))), (a0, .inl (k.1, 121, .inl (iF hs))), (a1, .inl (k.1, 121, .inl (iF ss))), (a2, .inl (k.1, 121, .inl (iF sd)))] H := hP
        have hD : va_D A [(w, .inr (2, [.int (iI 120), .int (iI 4), .ref t0, .ref t1, .ref a0, .ref a1, .ref a2, .int (iI 3), .int (iI (kk : Int)), .int (iI pe), .int (iI dr), .int (iI (sS cs kk)), .int (iI (sH cs kk)), .int (iI on), .int (iI lf), .int (iI rt)])), (t0, .inl (k.2.1, 4, .inr (.inl (bW 120 (sT cs kk))))), (t1, .inl (k.2.1, 484, .inr (.inl tps))), (a0, .inl (k.1, 121, .inl (iF hs))), (a1, .inl (k.1, 121, .inl (iF ss))), (a2, .inl (k.1, 121, .inl (iF sd)))] := hD
        refine lv_aload_n hx hb dX2_look_48 rfl (lv_at hl 2 rfl) ?_
        refine lv_aload_n hx hb dX2_look_49 rfl (lv_at hl 2 rfl) ?_
        refine va_get (D := g) (ci := 2) (v := .int (iI (kk : Int))) (C := RX2) (T := TX2) (N := 16) hx hb hts inX2 hown hK.1 hP 0 rfl rfl 8 (by decide) f47 (fun _ h9 => h9) rfl dX2_look_50 ?_
        refine lv_iload_n hx hb dX2_look_53 rfl (lv_at hl 0 rfl) ?_
        refine ri_isub (a := (kk : Int)) (b := (drA cs kk)) hx hb dX2_look_54 ?_
        refine va_put (D := g) (ci := 2) (v := .int (iI ((kk : Int) - (drA cs kk)))) (ty := .int) (C := RX2) (T := TX2) (N := 16) hx hb hts inX2 tyX2 tyX2_ok nmX2 hown hK.1 hP hD hS 0 rfl rfl 9 (by decide) f85 (fun _ h9 => h9) rfl (by decide +kernel) rfl rfl (Nat.le_of_ble_eq_true rfl) dX2_look_55 (fun H locs hP hD hS => ?_)
        have hP : va_P g vwCl [(w, .inr (2, [.int (iI 120), .int (iI 4), .ref t0, .ref t1, .ref a0, .ref a1, .ref a2, .int (iI 3), .int (iI (kk : Int)), .int (iI ((kk : Int) - (drA cs kk))), .int (iI dr), .int (iI (sS cs kk)), .int (iI (sH cs kk)), .int (iI on), .int (iI lf), .int (iI rt)])), (t0, .inl (k.2.1, 4, .inr (.inl (bW 120 (sT cs kk))))), (t1, .inl (k.2.1, 484, .inr (.inl tps))), (a0, .inl (k.1, 121, .inl (iF hs))), (a1, .inl (k.1, 121, .inl (iF ss))), (a2, .inl (k.1, 121, .inl (iF sd)))] H := hP
        have hD : va_D A [(w, .inr (2, [.int (iI 120), .int (iI 4), .ref t0, .ref t1, .ref a0, .ref a1, .ref a2, .int (iI 3), .int (iI (kk : Int)), .int (iI ((kk : Int) - (drA cs kk))), .int (iI dr), .int (iI (sS cs kk)), .int (iI (sH cs kk)), .int (iI on), .int (iI lf), .int (iI rt)])), (t0, .inl (k.2.1, 4, .inr (.inl (bW 120 (sT cs kk))))), (t1, .inl (k.2.1, 484, .inr (.inl tps))), (a0, .inl (k.1, 121, .inl (iF hs))), (a1, .inl (k.1, 121, .inl (iF ss))), (a2, .inl (k.1, 121, .inl (iF sd)))] := hD
        refine lv_aload_n hx hb dX2_look_58 rfl (lv_at hl 2 rfl) ?_
        refine lv_aload_n hx hb dX2_look_59 rfl (lv_at hl 2 rfl) ?_
        refine va_get (D := g) (ci := 2) (v := .int (iI (sH cs kk))) (C := RX2) (T := TX2) (N := 16) hx hb hts inX2 hown hK.1 hP 0 rfl rfl 12 (by decide) f56 (fun _ h9 => h9) rfl dX2_look_60 ?_
        refine lv_aload_n hx hb dX2_look_63 rfl (lv_at hl 2 rfl) ?_
        refine va_get (D := g) (ci := 2) (v := .ref a0) (C := RX2) (T := TX2) (N := 16) hx hb hts inX2 hown hK.1 hP 0 rfl rfl 4 (by decide) f34 (fun _ h9 => h9) rfl dX2_look_64 ?_
        refine lv_iload_n hx hb dX2_look_67 rfl (lv_at hl 0 rfl) ?_
        refine ri_iald (F := hs) (i := (drA cs kk)) hx hb hK.1 hP 3 0 rfl rfl (by omega) (by omega) dX2_look_68 ?_
        refine ri_ex (b := (sH cs (drA cs kk).toNat)) (by have h := (hRp (drA cs kk).toNat (by omega)).1; rw [Int.toNat_of_nonneg (by omega)] at h; exact h) ?_
        refine ri_isub (a := (sH cs kk)) (b := (sH cs (drA cs kk).toNat)) hx hb dX2_look_69 ?_
        refine va_put (D := g) (ci := 2) (v := .int (iI ((sH cs kk) - (sH cs (drA cs kk).toNat)))) (ty := .int) (C := RX2) (T := TX2) (N := 16) hx hb hts inX2 tyX2 tyX2_ok nmX2 hown hK.1 hP hD hS 0 rfl rfl 10 (by decide) f88 (fun _ h9 => h9) rfl (by decide +kernel) rfl rfl (Nat.le_of_ble_eq_true rfl) dX2_look_70 (fun H locs hP hD hS => ?_)
        have hP : va_P g vwCl [(w, .inr (2, [.int (iI 120), .int (iI 4), .ref t0, .ref t1, .ref a0, .ref a1, .ref a2, .int (iI 3), .int (iI (kk : Int)), .int (iI ((kk : Int) - (drA cs kk))), .int (iI ((sH cs kk) - (sH cs (drA cs kk).toNat))), .int (iI (sS cs kk)), .int (iI (sH cs kk)), .int (iI on), .int (iI lf), .int (iI rt)])), (t0, .inl (k.2.1, 4, .inr (.inl (bW 120 (sT cs kk))))), (t1, .inl (k.2.1, 484, .inr (.inl tps))), (a0, .inl (k.1, 121, .inl (iF hs))), (a1, .inl (k.1, 121, .inl (iF ss))), (a2, .inl (k.1, 121, .inl (iF sd)))] H := hP
        have hD : va_D A [(w, .inr (2, [.int (iI 120), .int (iI 4), .ref t0, .ref t1, .ref a0, .ref a1, .ref a2, .int (iI 3), .int (iI (kk : Int)), .int (iI ((kk : Int) - (drA cs kk))), .int (iI ((sH cs kk) - (sH cs (drA cs kk).toNat))), .int (iI (sS cs kk)), .int (iI (sH cs kk)), .int (iI on), .int (iI lf), .int (iI rt)])), (t0, .inl (k.2.1, 4, .inr (.inl (bW 120 (sT cs kk))))), (t1, .inl (k.2.1, 484, .inr (.inl tps))), (a0, .inl (k.1, 121, .inl (iF hs))), (a1, .inl (k.1, 121, .inl (iF ss))), (a2, .inl (k.1, 121, .inl (iF sd)))] := hD
        exact hret (3, ((kk : Int) - (drA cs kk)), ((sH cs kk) - (sH cs (drA cs kk).toNat))) _ _ _ _ dX2_look_73 (by show _ = lkG cs kk o pe dr; unfold lkG; rw [if_neg (by omega), if_pos (by omega)]) hP hD hS
  · skip
    refine lv_aload_n hx hb dX2_look_9 rfl (lv_at hl 1 rfl) ?_
    refine lv_iconst (v := iI 2) hx hb dX2_look_10 rfl ?_
    refine va_put (D := g) (ci := 2) (v := .int (iI 2)) (ty := .int) (C := RX2) (T := TX2) (N := 16) hx hb hts inX2 tyX2 tyX2_ok nmX2 hown hK.1 hP hD hS 0 rfl rfl 7 (by decide) f50 (fun _ h9 => h9) rfl (by decide +kernel) rfl rfl (Nat.le_of_ble_eq_true rfl) dX2_look_11 (fun H locs hP hD hS => ?_)
    have hP : va_P g vwCl [(w, .inr (2, [.int (iI 120), .int (iI 4), .ref t0, .ref t1, .ref a0, .ref a1, .ref a2, .int (iI 2), .int (iI (kk : Int)), .int (iI pe), .int (iI dr), .int (iI (sS cs kk)), .int (iI (sH cs kk)), .int (iI on), .int (iI lf), .int (iI rt)])), (t0, .inl (k.2.1, 4, .inr (.inl (bW 120 (sT cs kk))))), (t1, .inl (k.2.1, 484, .inr (.inl tps))), (a0, .inl (k.1, 121, .inl (iF hs))), (a1, .inl (k.1, 121, .inl (iF ss))), (a2, .inl (k.1, 121, .inl (iF sd)))] H := hP
    have hD : va_D A [(w, .inr (2, [.int (iI 120), .int (iI 4), .ref t0, .ref t1, .ref a0, .ref a1, .ref a2, .int (iI 2), .int (iI (kk : Int)), .int (iI pe), .int (iI dr), .int (iI (sS cs kk)), .int (iI (sH cs kk)), .int (iI on), .int (iI lf), .int (iI rt)])), (t0, .inl (k.2.1, 4, .inr (.inl (bW 120 (sT cs kk))))), (t1, .inl (k.2.1, 484, .inr (.inl tps))), (a0, .inl (k.1, 121, .inl (iF hs))), (a1, .inl (k.1, 121, .inl (iF ss))), (a2, .inl (k.1, 121, .inl (iF sd)))] := hD
    refine lv_aload_n hx hb dX2_look_14 rfl (lv_at hl 1 rfl) ?_
    refine lv_aload_n hx hb dX2_look_15 rfl (lv_at hl 1 rfl) ?_
    refine va_get (D := g) (ci := 2) (v := .int (iI (kk : Int))) (C := RX2) (T := TX2) (N := 16) hx hb hts inX2 hown hK.1 hP 0 rfl rfl 8 (by decide) f47 (fun _ h9 => h9) rfl dX2_look_16 ?_
    refine lv_iload_n hx hb dX2_look_19 rfl (lv_at hl 0 rfl) ?_
    refine ri_isub (a := (kk : Int)) (b := (cyA cs kk)) hx hb dX2_look_20 ?_
    refine va_put (D := g) (ci := 2) (v := .int (iI ((kk : Int) - (cyA cs kk)))) (ty := .int) (C := RX2) (T := TX2) (N := 16) hx hb hts inX2 tyX2 tyX2_ok nmX2 hown hK.1 hP hD hS 0 rfl rfl 9 (by decide) f85 (fun _ h9 => h9) rfl (by decide +kernel) rfl rfl (Nat.le_of_ble_eq_true rfl) dX2_look_21 (fun H locs hP hD hS => ?_)
    have hP : va_P g vwCl [(w, .inr (2, [.int (iI 120), .int (iI 4), .ref t0, .ref t1, .ref a0, .ref a1, .ref a2, .int (iI 2), .int (iI (kk : Int)), .int (iI ((kk : Int) - (cyA cs kk))), .int (iI dr), .int (iI (sS cs kk)), .int (iI (sH cs kk)), .int (iI on), .int (iI lf), .int (iI rt)])), (t0, .inl (k.2.1, 4, .inr (.inl (bW 120 (sT cs kk))))), (t1, .inl (k.2.1, 484, .inr (.inl tps))), (a0, .inl (k.1, 121, .inl (iF hs))), (a1, .inl (k.1, 121, .inl (iF ss))), (a2, .inl (k.1, 121, .inl (iF sd)))] H := hP
    have hD : va_D A [(w, .inr (2, [.int (iI 120), .int (iI 4), .ref t0, .ref t1, .ref a0, .ref a1, .ref a2, .int (iI 2), .int (iI (kk : Int)), .int (iI ((kk : Int) - (cyA cs kk))), .int (iI dr), .int (iI (sS cs kk)), .int (iI (sH cs kk)), .int (iI on), .int (iI lf), .int (iI rt)])), (t0, .inl (k.2.1, 4, .inr (.inl (bW 120 (sT cs kk))))), (t1, .inl (k.2.1, 484, .inr (.inl tps))), (a0, .inl (k.1, 121, .inl (iF hs))), (a1, .inl (k.1, 121, .inl (iF ss))), (a2, .inl (k.1, 121, .inl (iF sd)))] := hD
    exact hret (2, ((kk : Int) - (cyA cs kk)), dr) _ _ _ _ dX2_look_24 (by show _ = lkG cs kk o pe dr; unfold lkG; rw [if_pos (by omega)]) hP hD hS

