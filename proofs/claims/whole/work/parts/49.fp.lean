/-! FLOATS: a quotient of two ints is no NaN; what is no NaN is equal to itself -/
theorem fp_t32 : FP.Core.Fmt.tails FP.Core.b32 = 8388608 := by decide
theorem fp_e32 : FP.Core.Fmt.exps FP.Core.b32 = 256 := by decide
theorem fp_q32 : FP.Core.Fmt.qmin FP.Core.b32 = -149 := by decide
theorem fp_x32 : FP.Core.Fmt.qmax FP.Core.b32 = 104 := by decide
theorem fp_p32 : 2 ^ FP.Core.b32.p = 16777216 := by decide
theorem fp_t64 : FP.Core.Fmt.tails FP.Core.b64 = 4503599627370496 := by decide
theorem fp_e64 : FP.Core.Fmt.exps FP.Core.b64 = 2048 := by decide
theorem fp_q64 : FP.Core.Fmt.qmin FP.Core.b64 = -1074 := by decide
theorem fp_x64 : FP.Core.Fmt.qmax FP.Core.b64 = 971 := by decide
theorem fp_p64 : 2 ^ FP.Core.b64.p = 9007199254740992 := by decide
def fp_ok32 (N : Nat) : Prop := N < 4294967296 ∧ N % 2147483648 ≤ 2139095040
def fp_ok64 (N : Nat) : Prop := N < 18446744073709551616 ∧ N % 9223372036854775808 ≤ 9218868437227405312
theorem fp_b01 (s : Bool) : s.toNat = 0 ∨ s.toNat = 1 := by cases s <;> simp
theorem fp_inf32 (s : Bool) : fp_ok32 (FP.Core.encode FP.Core.b32 (.inf s)) := by
  have hs := fp_b01 s
  simp only [FP.Core.encode, FP.Core.assemble, fp_t32, fp_e32]
  unfold fp_ok32
  omega
theorem fp_inf64 (s : Bool) : fp_ok64 (FP.Core.encode FP.Core.b64 (.inf s)) := by
  have hs := fp_b01 s
  simp only [FP.Core.encode, FP.Core.assemble, fp_t64, fp_e64]
  unfold fp_ok64
  omega
theorem fp_fin32 (s : Bool) (c : Nat) (q : Int) (hc : c < 16777216) (hq : q ≤ 104) : fp_ok32 (FP.Core.encode FP.Core.b32 (.fin s c q)) := by
  have hs := fp_b01 s
  simp only [FP.Core.encode, FP.Core.assemble, fp_t32, fp_e32, fp_q32]
  unfold fp_ok32
  have hf : false.toNat = 0 := rfl
  split
  · omega
  · omega
theorem fp_fin64 (s : Bool) (c : Nat) (q : Int) (hc : c < 9007199254740992) (hq : q ≤ 971) : fp_ok64 (FP.Core.encode FP.Core.b64 (.fin s c q)) := by
  have hs := fp_b01 s
  simp only [FP.Core.encode, FP.Core.assemble, fp_t64, fp_e64, fp_q64]
  unfold fp_ok64
  split
  · omega
  · omega
theorem fp_settle32 (s : Bool) (c : Nat) (q : Int) : fp_ok32 (FP.Core.encode FP.Core.b32 (FP.Core.settle FP.Core.b32 s c q)) := by
  unfold FP.Core.settle FP.Core.bound
  rw [fp_p32, fp_x32, fp_t32]
  split
  · split
    · exact fp_fin32 s c q (by omega) (by omega)
    · exact fp_inf32 s
  · split
    · exact fp_fin32 s _ _ (by omega) (by omega)
    · exact fp_inf32 s
theorem fp_settle64 (s : Bool) (c : Nat) (q : Int) : fp_ok64 (FP.Core.encode FP.Core.b64 (FP.Core.settle FP.Core.b64 s c q)) := by
  unfold FP.Core.settle FP.Core.bound
  rw [fp_p64, fp_x64, fp_t64]
  split
  · split
    · exact fp_fin64 s c q (by omega) (by omega)
    · exact fp_inf64 s
  · split
    · exact fp_fin64 s _ _ (by omega) (by omega)
    · exact fp_inf64 s
theorem fp_ratio32 (s : Bool) (a b : Nat) (e : Int) : fp_ok32 (FP.Core.encode FP.Core.b32 (FP.Core.roundRatio FP.Core.b32 s a b e)) := by
  unfold FP.Core.roundRatio
  split
  · exact fp_fin32 s 0 _ (by omega) (by rw [fp_q32]; decide)
  · exact fp_settle32 s _ _
theorem fp_ratio64 (s : Bool) (a b : Nat) (e : Int) : fp_ok64 (FP.Core.encode FP.Core.b64 (FP.Core.roundRatio FP.Core.b64 s a b e)) := by
  unfold FP.Core.roundRatio
  split
  · exact fp_fin64 s 0 _ (by omega) (by rw [fp_q64]; decide)
  · exact fp_settle64 s _ _
theorem fp_dec32 {N : Nat} (h : fp_ok32 N) : FP.Core.decode FP.Core.b32 N ≠ .nan := by
  unfold FP.Core.decode FP.Core.fieldE FP.Core.fieldT
  rw [fp_t32, fp_e32]
  unfold fp_ok32 at h
  split
  · split
    · intro q; cases q
    · intro q; omega
  · split <;> (intro q; cases q)
theorem fp_dec64 {N : Nat} (h : fp_ok64 N) : FP.Core.decode FP.Core.b64 N ≠ .nan := by
  unfold FP.Core.decode FP.Core.fieldE FP.Core.fieldT
  rw [fp_t64, fp_e64]
  unfold fp_ok64 at h
  split
  · split
    · intro q; cases q
    · intro q; omega
  · split <;> (intro q; cases q)
theorem fp_n32 {r : UInt32} (h : fp_ok32 r.toNat) : vf_n32 r := by
  unfold vf_n32
  rw [UInt32.le_iff_toNat_le, UInt32.toNat_and]
  show r.toNat &&& (2 ^ 31 - 1) ≤ 2139095040
  rw [Nat.and_two_pow_sub_one_eq_mod]
  exact h.2
theorem fp_n64 {r : UInt64} (h : fp_ok64 r.toNat) : vf_n64 r := by
  unfold vf_n64
  rw [UInt64.le_iff_toNat_le, UInt64.toNat_and]
  show r.toNat &&& (2 ^ 63 - 1) ≤ 9218868437227405312
  rw [Nat.and_two_pow_sub_one_eq_mod]
  exact h.2
theorem fp_of32 {N : Nat} (h : fp_ok32 N) : (UInt32.ofNat N).toNat = N := by
  rw [UInt32.toNat_ofNat']
  exact Nat.mod_eq_of_lt h.1
theorem fp_of64 {N : Nat} (h : fp_ok64 N) : (UInt64.ofNat N).toNat = N := by
  rw [UInt64.toNat_ofNat']
  exact Nat.mod_eq_of_lt h.1
/-- what encodes a number of at most 24 digits, not too great, is a number; and 0 only where it was 0 -/
theorem fp_back (s : Bool) (c : Nat) (q : Int) (hc : c < 16777216) (hq : q ≤ 100) : ∃ (s' : Bool) (c' : Nat) (q' : Int), FP.Core.decode FP.Core.b32 (FP.Core.encode FP.Core.b32 (.fin s c q)) = .fin s' c' q' ∧ (c ≠ 0 → c' ≠ 0) := by
  have hs := fp_b01 s
  simp only [FP.Core.encode, FP.Core.assemble, fp_t32, fp_e32, fp_q32]
  unfold FP.Core.decode FP.Core.fieldE FP.Core.fieldT
  rw [fp_t32, fp_e32, fp_q32]
  by_cases h : c < 8388608
  · rw [if_pos h, if_neg (by omega), if_pos (by omega)]
    exact ⟨_, _, _, rfl, fun z => by omega⟩
  · rw [if_neg h, if_neg (by omega), if_neg (by omega)]
    exact ⟨_, _, _, rfl, fun z => by omega⟩
theorem fp_near1 (a : Nat) : FP.Core.nearest a 1 = a := by
  unfold FP.Core.nearest
  rw [Nat.mod_one, Nat.div_one, if_pos (by omega)]
theorem fp_near {a b : Nat} (hb : 0 < b) (h : b ≤ a) : FP.Core.nearest a b ≠ 0 := by
  have h1 : 1 ≤ a / b := (Nat.one_le_div_iff hb).mpr h
  unfold FP.Core.nearest
  split
  · omega
  · split <;> omega
theorem fp_lead {n : Nat} (h : n ≠ 0) : FP.Core.leading n 1 = (n.log2 : Int) := by
  unfold FP.Core.leading
  have e1 : Nat.log2 1 = 0 := by decide
  have h1 := Nat.log2_self_le h
  simp only [e1]
  rw [if_pos]
  · omega
  · rw [show (((n.log2 : Nat) : Int) - ((0 : Nat) : Int)).toNat = n.log2 by omega, show (-(((n.log2 : Nat) : Int) - ((0 : Nat) : Int))).toNat = 0 by omega, Nat.pow_zero, Nat.mul_one, Nat.one_mul]
    exact h1
/-- an int as a float is a number, and no zero where the int is none -/
theorem fp_int (a : Int32) : ∃ (s : Bool) (c : Nat) (q : Int), FP.Core.decode FP.Core.b32 (FP.Core.i2f a).toNat = .fin s c q ∧ (a.toInt ≠ 0 → c ≠ 0) := by
  have b1 := Int32.toInt_lt a
  have b2 := Int32.le_toInt a
  have e0 : (FP.Core.i2f a).toNat = FP.Core.encode FP.Core.b32 (FP.Core.roundRatio FP.Core.b32 (decide (a.toInt < 0)) a.toInt.natAbs 1 0) := fp_of32 (fp_ratio32 _ _ _ _)
  rw [e0]
  generalize decide (a.toInt < 0) = s
  have hn : a.toInt.natAbs < 2 ^ 32 := by omega
  have hz : a.toInt ≠ 0 → a.toInt.natAbs ≠ 0 := fun h => by omega
  generalize a.toInt.natAbs = n at hn hz
  unfold FP.Core.roundRatio
  by_cases h0 : n = 0
  · rw [if_pos h0]
    obtain ⟨s', c', q', h1, h2⟩ := fp_back s 0 FP.Core.b32.qmin (by omega) (by rw [fp_q32]; decide)
    exact ⟨s', c', q', h1, fun h => absurd h0 (hz h)⟩
  · rw [if_neg h0]
    have hl := fp_lead h0
    have h32 : n.log2 < 32 := (Nat.log2_lt h0).mpr hn
    have hse := Nat.log2_self_le h0
    have hq : FP.Core.quantum FP.Core.b32 n 1 0 = max (-149) ((n.log2 : Int) - 23) := by
      unfold FP.Core.quantum
      rw [hl, fp_q32]
      show max (-149) ((n.log2 : Int) + 0 - ((24 : Int) - 1)) = _
      omega
    unfold FP.Core.roundAt
    rw [hq]
    have hne : FP.Core.nearest (FP.Core.unitsNum n 0 (max (-149) ((n.log2 : Int) - 23))) (FP.Core.unitsDen 1 0 (max (-149) ((n.log2 : Int) - 23))) ≠ 0 := by
      unfold FP.Core.unitsNum FP.Core.unitsDen
      refine fp_near ?_ ?_
      · rw [Nat.one_mul]
        exact Nat.two_pow_pos _
      · rw [Nat.one_mul]
        have p1 : 1 ≤ 2 ^ (0 - max (-149) ((n.log2 : Int) - 23)).toNat := Nat.two_pow_pos _
        have p2 : 2 ^ (max (-149) ((n.log2 : Int) - 23) - 0).toNat ≤ 2 ^ n.log2 := Nat.pow_le_pow_right (by omega) (by omega)
        have p3 : n * 1 ≤ n * 2 ^ (0 - max (-149) ((n.log2 : Int) - 23)).toNat := Nat.mul_le_mul_left n p1
        omega
    generalize FP.Core.nearest (FP.Core.unitsNum n 0 (max (-149) ((n.log2 : Int) - 23))) (FP.Core.unitsDen 1 0 (max (-149) ((n.log2 : Int) - 23))) = c at hne
    unfold FP.Core.settle FP.Core.bound
    rw [fp_p32, fp_x32, fp_t32]
    by_cases h1 : c < 16777216
    · rw [if_pos h1, if_pos (by omega)]
      obtain ⟨s', c', q', g1, g2⟩ := fp_back s c (max (-149) ((n.log2 : Int) - 23)) h1 (by omega)
      exact ⟨s', c', q', g1, fun _ => g2 hne⟩
    · rw [if_neg h1, if_pos (by omega)]
      obtain ⟨s', c', q', g1, g2⟩ := fp_back s 8388608 (max (-149) ((n.log2 : Int) - 23) + 1) (by omega) (by omega)
      exact ⟨s', c', q', g1, fun _ => g2 (by omega)⟩
theorem fp_div (a b : Int32) (hb : b.toInt ≠ 0) : fp_ok32 (FP.fdiv (FP.i2f a) (FP.i2f b)).toNat := by
  obtain ⟨s, c, q, h1, -⟩ := fp_int a
  obtain ⟨t, d, r, h2, h3⟩ := fp_int b
  have key : fp_ok32 (FP.Core.div FP.Core.b32 (FP.Core.i2f a).toNat (FP.Core.i2f b).toNat) := by
    unfold FP.Core.div
    rw [h1, h2]
    show fp_ok32 (FP.Core.encode FP.Core.b32 (if d = 0 then _ else FP.Core.roundRatio FP.Core.b32 (s != t) c d (q - r)))
    rw [if_neg (h3 hb)]
    exact fp_ratio32 _ _ _ _
  show fp_ok32 (UInt32.ofNat (FP.Core.div FP.Core.b32 (FP.Core.i2f a).toNat (FP.Core.i2f b).toNat)).toNat
  rw [fp_of32 key]
  exact key
theorem fp_f2d {r : UInt32} (h : fp_ok32 r.toNat) : fp_ok64 (FP.f2d r).toNat := by
  have hd := fp_dec32 h
  have hn : ¬ FP.Core.fIsNaN r = true := by
    unfold FP.Core.fIsNaN FP.Core.isNaN
    simp [hd]
  unfold FP.f2d
  rw [if_neg hn]
  have key : fp_ok64 (FP.Core.convert FP.Core.b32 FP.Core.b64 r.toNat) := by
    unfold FP.Core.convert
    cases e : FP.Core.decode FP.Core.b32 r.toNat with
    | nan => exact absurd e hd
    | inf s => exact fp_inf64 s
    | fin s c q => exact fp_ratio64 s c 1 q
  show fp_ok64 (UInt64.ofNat (FP.Core.convert FP.Core.b32 FP.Core.b64 r.toNat)).toNat
  rw [fp_of64 key]
  exact key
theorem fp_cc (v : Int) : compare v v = .eq := by
  simp
theorem fp_same {x : UInt64} (h : fp_ok64 x.toNat) : FP.dcmp x x = some .eq := by
  have hd := fp_dec64 h
  show FP.Core.order (FP.Core.decode FP.Core.b64 x.toNat) (FP.Core.decode FP.Core.b64 x.toNat) = _
  cases e : FP.Core.decode FP.Core.b64 x.toNat with
  | nan => exact absurd e hd
  | inf s => exact congrArg some (fp_cc _)
  | fin s c q => exact congrArg some (fp_cc _)
theorem fp_0 (op : CmpOp) {x : UInt64} (h : fp_ok64 x.toNat) : Op.cmpValue (FP.dcmp x x) op = 0 := by
  rw [fp_same h]
  rfl
/-- a quotient of two ints, the second none of 0 -/
theorem fp_q (a b : Int) (hb : -2147483648 ≤ b ∧ b < 2147483648 ∧ b ≠ 0) : fp_ok32 (FP.fdiv (FP.i2f (iI a)) (FP.i2f (iI b))).toNat := fp_div _ _ (by rw [iI_T ⟨hb.1, hb.2.1⟩]; exact hb.2.2)
