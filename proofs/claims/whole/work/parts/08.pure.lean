/-! THE MATHEMATICS: a machine's run, by its codes c (the action of state s and symbol b is c (2 * s + b), none if below 0) -/
/-- state, head and tape behind k steps, none of which halts -/
def sC (c : Int → Int) : Nat → Int × Int × (Int → Int)
  | 0 => (0, 0, fun _ => 0)
  | k + 1 => match sC c k with
    | (s, h, t) => (c (2 * s + t h) / 4, (if c (2 * s + t h) / 2 % 2 = 0 then h - 1 else h + 1), up t h (c (2 * s + t h) % 2))
def sS (c : Int → Int) (k : Nat) : Int := (sC c k).1
def sH (c : Int → Int) (k : Nat) : Int := (sC c k).2.1
def sT (c : Int → Int) (k : Nat) : Int → Int := (sC c k).2.2
/-- the code of the action that step k + 1 takes -/
def zc (c : Int → Int) (k : Nat) : Int := c (2 * sS c k + sT c k (sH c k))
theorem sS_0 (c : Int → Int) : sS c 0 = 0 := rfl
theorem sH_0 (c : Int → Int) : sH c 0 = 0 := rfl
theorem sT_0 (c : Int → Int) : sT c 0 = fun _ => 0 := rfl
theorem sS_s (c : Int → Int) (k : Nat) : sS c (k + 1) = zc c k / 4 := rfl
theorem sH_s (c : Int → Int) (k : Nat) : sH c (k + 1) = if zc c k / 2 % 2 = 0 then sH c k - 1 else sH c k + 1 := rfl
theorem sT_s (c : Int → Int) (k : Nat) : sT c (k + 1) = up (sT c k) (sH c k) (zc c k % 2) := rfl
/-- the leftmost and the rightmost cell where the head was -/
def sL (c : Int → Int) : Nat → Int
  | 0 => 0
  | k + 1 => min (sL c k) (sH c (k + 1))
def sU (c : Int → Int) : Nat → Int
  | 0 => 0
  | k + 1 => max (sU c k) (sH c (k + 1))
/-- 1 where step k is a right record, -1 a left one, 0 else -/
def sR (c : Int → Int) : Nat → Int
  | 0 => 0
  | k + 1 => if sU c k < sH c (k + 1) then 1 else if sH c (k + 1) < sL c k then -1 else 0
/-- the ones on the tape -/
def sO (c : Int → Int) : Nat → Int
  | 0 => 0
  | k + 1 => sO c k + (zc c k % 2 - sT c k (sH c k))
/-- the first k steps all had an action -/
def alive (c : Int → Int) (k : Nat) : Prop := ∀ i, i < k → 0 ≤ zc c i
theorem alive_0 (c : Int → Int) : alive c 0 := fun _ h => absurd h (Nat.not_lt_zero _)
theorem alive_s {c : Int → Int} {k : Nat} (h : alive c k) (h2 : 0 ≤ zc c k) : alive c (k + 1) := fun i hi => by
  rcases Nat.lt_or_ge i k with q | q
  · exact h i q
  · rw [show i = k by omega]; exact h2
/-- codes of machines with at most four states -/
def okC (c : Int → Int) : Prop := ∀ j, 0 ≤ j → j < 8 → -1 ≤ c j ∧ c j < 16
theorem sT_01 (c : Int → Int) : ∀ (k : Nat) (j : Int), sT c k j = 0 ∨ sT c k j = 1
  | 0, j => Or.inl rfl
  | k + 1, j => by
    rw [sT_s]
    unfold up
    split
    · omega
    · exact sT_01 c k j
theorem sH_b (c : Int → Int) : ∀ k : Nat, -(k : Int) ≤ sH c k ∧ sH c k ≤ k
  | 0 => by rw [sH_0]; decide
  | k + 1 => by
    have h := sH_b c k
    rw [sH_s]
    split <;> omega
theorem sH_par (c : Int → Int) : ∀ k : Nat, (sH c k - k) % 2 = 0
  | 0 => by rw [sH_0]; rfl
  | k + 1 => by
    have h := sH_par c k
    rw [sH_s]
    split <;> omega
theorem sT_out (c : Int → Int) : ∀ (k : Nat) (j : Int), (j < -(k : Int) ∨ (k : Int) < j) → sT c k j = 0
  | 0, j, _ => rfl
  | k + 1, j, h => by
    have h1 := sH_b c k
    rw [sT_s, up_n (by omega)]
    exact sT_out c k j (by omega)
theorem sS_b {c : Int → Int} (hc : okC c) : ∀ k : Nat, alive c k → 0 ≤ sS c k ∧ sS c k < 4
  | 0, _ => by rw [sS_0]; decide
  | k + 1, h => by
    have h1 := sS_b hc k (fun i hi => h i (by omega))
    have h2 := h k (by omega)
    have h3 := sT_01 c k (sH c k)
    have h4 := hc (2 * sS c k + sT c k (sH c k)) (by omega) (by omega)
    rw [sS_s]
    unfold zc at h2 ⊢
    omega
theorem zc_b {c : Int → Int} (hc : okC c) {k : Nat} (h : alive c k) : -1 ≤ zc c k ∧ zc c k < 16 := by
  have h1 := sS_b hc k h
  have h3 := sT_01 c k (sH c k)
  exact hc _ (by omega) (by omega)
theorem sLU (c : Int → Int) : ∀ k : Nat, sL c k ≤ sH c k ∧ sH c k ≤ sU c k ∧ -(k : Int) ≤ sL c k ∧ sL c k ≤ 0 ∧ 0 ≤ sU c k ∧ sU c k ≤ k
  | 0 => by simp [sL, sU, sH_0]
  | k + 1 => by
    have h := sLU c k
    have h2 := sH_b c (k + 1)
    simp only [sL, sU]
    omega
theorem sR_b (c : Int → Int) : ∀ k : Nat, sR c k = 0 ∨ sR c k = 1 ∨ sR c k = -1
  | 0 => Or.inl rfl
  | k + 1 => by
    simp only [sR]
    split
    · exact Or.inr (Or.inl rfl)
    · split
      · exact Or.inr (Or.inr rfl)
      · exact Or.inl rfl
theorem sO_b (c : Int → Int) : ∀ k : Nat, -(k : Int) ≤ sO c k ∧ sO c k ≤ k
  | 0 => by simp [sO]
  | k + 1 => by
    have h := sO_b c k
    have h3 := sT_01 c k (sH c k)
    simp only [sO]
    omega
/-- the latest number below k with P, -1 if there is none -/
noncomputable def lat (P : Nat → Prop) : Nat → Int
  | 0 => -1
  | i + 1 => @ite _ (P i) (Classical.propDecidable _) (i : Int) (lat P i)
theorem lat_y {P : Nat → Prop} {i : Nat} (h : P i) : lat P (i + 1) = i := by
  show @ite _ (P i) (Classical.propDecidable _) (i : Int) (lat P i) = _
  rw [if_pos h]
theorem lat_n {P : Nat → Prop} {i : Nat} (h : ¬ P i) : lat P (i + 1) = lat P i := by
  show @ite _ (P i) (Classical.propDecidable _) (i : Int) (lat P i) = _
  rw [if_neg h]
theorem lat_b {P : Nat → Prop} : ∀ k : Nat, -1 ≤ lat P k ∧ lat P k < k
  | 0 => by show (-1 : Int) ≤ -1 ∧ (-1 : Int) < 0; decide
  | k + 1 => by
    have h := lat_b (P := P) k
    by_cases q : P k
    · rw [lat_y q]; omega
    · rw [lat_n q]; omega
theorem lat_P {P : Nat → Prop} : ∀ k : Nat, 0 ≤ lat P k → P (lat P k).toNat
  | 0, h => absurd h (by show ¬ (0 : Int) ≤ -1; decide)
  | k + 1, h => by
    by_cases q : P k
    · rw [lat_y q]; exact q
    · rw [lat_n q] at h ⊢; exact lat_P k h
/-- behind k steps it is as behind i steps -/
def cyc (c : Int → Int) (k i : Nat) : Prop := sS c i = sS c k ∧ sH c i = sH c k ∧ ∀ j, sT c i j = sT c k j
/-- the least of d times the head's cell, behind the steps k - n .. k -/
def far (c : Int → Int) (d : Int) (k : Nat) : Nat → Int
  | 0 => d * sH c k
  | n + 1 => min (far c d k n) (d * sH c (k - (n + 1)))
/-- the record k drifts from the record q -/
def dri (c : Int → Int) (k q : Nat) : Prop := 0 < q ∧ sR c q = sR c k ∧ sS c q = sS c k ∧ ∀ j : Int, 0 ≤ j → j ≤ sR c k * sH c q - far c (sR c k) k (k - q) → sT c q (sH c q - sR c k * j) = sT c k (sH c k - sR c k * j)
noncomputable def cyA (c : Int → Int) (k : Nat) : Int := lat (cyc c k) k
noncomputable def drA (c : Int → Int) (k : Nat) : Int := if sR c k = 0 then -1 else lat (dri c k) k
theorem cyA_b (c : Int → Int) (k : Nat) : -1 ≤ cyA c k ∧ cyA c k < k := lat_b k
theorem drA_b (c : Int → Int) (k : Nat) : -1 ≤ drA c k ∧ drA c k < k := by
  unfold drA
  split
  · omega
  · exact lat_b k
/-- outcome, steps, period, drift of a run that has taken k steps and takes at most f more -/
noncomputable def runF (c : Int → Int) : Nat → Nat → Int × Nat × Int × Int
  | 0, k => (0, k, 0, 0)
  | f + 1, k => if zc c k < 0 then (1, k + 1, 0, 0) else if 0 ≤ cyA c (k + 1) then (2, k + 1, (k + 1 : Nat) - cyA c (k + 1), 0) else if 0 ≤ drA c (k + 1) then (3, k + 1, (k + 1 : Nat) - drA c (k + 1), sH c (k + 1) - sH c (drA c (k + 1)).toNat) else runF c f (k + 1)
theorem cyc_par {c : Int → Int} {k i : Nat} (h : ((k : Int) - i) % 2 ≠ 0) : ¬ cyc c k i := fun q => by
  have h1 := sH_par c k
  have h2 := sH_par c i
  rw [q.2.1] at h2
  omega
theorem far_b (c : Int → Int) (d : Int) (hd : d = 1 ∨ d = -1) (k : Nat) : ∀ n : Nat, -(k : Int) ≤ far c d k n ∧ far c d k n ≤ k
  | 0 => by
    have h := sH_b c k
    show -(k : Int) ≤ d * sH c k ∧ d * sH c k ≤ k
    rcases hd with rfl | rfl <;> omega
  | n + 1 => by
    have h := far_b c d hd k n
    have h2 := sH_b c (k - (n + 1))
    simp only [far]
    rcases hd with rfl | rfl <;> omega
/-! the tape as words of 64 bits: bit b of word w is the cell 64 w + b - R -/
def bV (f : Nat → Bool) : (n : Nat) → BitVec n
  | 0 => 0#0
  | n + 1 => BitVec.cons (f n) (bV f n)
theorem bV_bit (f : Nat → Bool) : ∀ (n i : Nat), i < n → (bV f n).getLsbD i = f i
  | 0, i, h => absurd h (Nat.not_lt_zero _)
  | n + 1, i, h => by
    show (BitVec.cons (f n) (bV f n)).getLsbD i = f i
    rw [BitVec.getLsbD_cons]
    by_cases q : i = n
    · rw [if_pos q, q]
    · rw [if_neg q]; exact bV_bit f n i (by omega)
theorem ob_tb (x : BitVec 64) : (Int64.ofBitVec x).toBitVec = x := rfl
def bW (R : Int) (t : Int → Int) (w : Nat) : Int64 := Int64.ofBitVec (bV (fun b => decide (t (64 * w + b - R) = 1)) 64)
theorem bW_bit (R : Int) (t : Int → Int) (w b : Nat) (hb : b < 64) : (bW R t w).toBitVec.getLsbD b = decide (t (64 * w + b - R) = 1) := by
  unfold bW
  rw [ob_tb]
  exact bV_bit (fun b => decide (t (64 * w + b - R) = 1)) 64 b hb
theorem bW_0 (R : Int) (w : Nat) : bW R (fun _ => 0) w = 0 := by
  apply Int64.toBitVec_inj.mp
  apply BitVec.eq_of_getLsbD_eq
  intro i hi
  rw [bW_bit R _ w i hi]
  simp
theorem bW_eq {R : Int} {t u : Int → Int} (h : ∀ j, t j = u j) (w : Nat) : bW R t w = bW R u w := by
  rw [show t = u from funext h]
/-- reading a bit -/
theorem bW_rd (R : Int) (t : Int → Int) (w : Nat) (b : Int) (hb : 0 ≤ b ∧ b < 64) (h01 : t (64 * w + b - R) = 0 ∨ t (64 * w + b - R) = 1) : ((bW R t w).toUInt64 >>> ((iI b).toInt64.toUInt64 &&& Int64.toUInt64 63)).toInt64.toInt32 &&& iI 1 = iI (t (64 * w + b - R)) := by
  obtain ⟨n, rfl⟩ := Int.eq_ofNat_of_zero_le hb.1
  have hn : n < 64 := by omega
  have e1 : ((iI (n : Int)).toInt64.toUInt64 &&& Int64.toUInt64 63) = UInt64.ofNat n := by
    rw [iI_nI]
    have key : ∀ m : Fin 64, ((nI m.val).toInt64.toUInt64 &&& Int64.toUInt64 63) = UInt64.ofNat m.val := by decide +kernel
    exact key ⟨n, hn⟩
  rw [e1]
  apply Int32.toBitVec_inj.mp
  rw [Int32.toBitVec_and]
  apply BitVec.eq_of_getLsbD_eq
  intro i hi
  rw [BitVec.getLsbD_and]
  have e2 : ((bW R t w).toUInt64 >>> UInt64.ofNat n).toInt64.toInt32.toBitVec.getLsbD i = (bW R t w).toBitVec.getLsbD (n + i) := by
    show (((bW R t w).toUInt64 >>> UInt64.ofNat n).toBitVec.signExtend 32).getLsbD i = _
    rw [BitVec.getLsbD_signExtend]
    have e3 : ((bW R t w).toUInt64 >>> UInt64.ofNat n).toBitVec = (bW R t w).toBitVec >>> n := by
      show (bW R t w).toBitVec >>> ((UInt64.ofNat n).toBitVec % 64) = _
      rw [BitVec.ushiftRight_eq']
      congr 1
      show ((BitVec.ofNat 64 n) % (64#64)).toNat = n
      rw [BitVec.toNat_umod, BitVec.toNat_ofNat, BitVec.toNat_ofNat]
      simp only [Nat.reducePow, Nat.reduceMod]
      omega
    rw [e3]
    simp [hi, show i < 64 by omega, BitVec.getLsbD_ushiftRight]
  rw [e2]
  by_cases h0 : i = 0
  · subst h0
    have hbit := bW_bit R t w n hn
    rw [Nat.add_zero, hbit]
    rcases h01 with h | h <;> rw [h] <;> decide
  · have e4 : (iI 1).toBitVec.getLsbD i = false := by
      have key : ∀ m : Fin 32, m.val ≠ 0 → (iI 1).toBitVec.getLsbD m.val = false := by decide
      exact key ⟨i, hi⟩ h0
    rw [e4, Bool.and_false]
    rcases h01 with h | h <;> rw [h]
    · have key : ∀ m : Fin 32, false = (iI 0).toBitVec.getLsbD m.val := by decide
      exact key ⟨i, hi⟩
    · exact e4.symm
/-- turning a bit over -/
theorem bW_wr (R : Int) (t : Int → Int) (w : Nat) (b : Int) (hb : 0 ≤ b ∧ b < 64) (x : Int) (h : (t (64 * w + b - R) = 0 ∧ x = 1) ∨ (t (64 * w + b - R) = 1 ∧ x = 0)) : vp_updL (bW R t) w (bW R t w ^^^ ((1 : Int64) <<< ((iI b).toInt64 &&& 63))) = bW R (up t (64 * w + b - R) x) := by
  obtain ⟨n, rfl⟩ := Int.eq_ofNat_of_zero_le hb.1
  have hn : n < 64 := by omega
  have e1 : ((1 : Int64) <<< ((iI (n : Int)).toInt64 &&& 63)).toBitVec = BitVec.twoPow 64 n := by
    rw [iI_nI]
    have key : ∀ m : Fin 64, ((1 : Int64) <<< ((nI m.val).toInt64 &&& 63)).toBitVec = BitVec.twoPow 64 m.val := by decide +kernel
    exact key ⟨n, hn⟩
  funext j
  unfold vp_updL
  apply Int64.toBitVec_inj.mp
  apply BitVec.eq_of_getLsbD_eq
  intro i hi
  rw [bW_bit R _ j i hi]
  unfold up
  by_cases hj : j = w
  · subst hj
    rw [if_pos rfl, Int64.toBitVec_xor, BitVec.getLsbD_xor, e1, BitVec.getLsbD_twoPow, bW_bit R t j i hi]
    by_cases hin : i = n
    · subst hin
      rw [if_pos rfl]
      rcases h with ⟨h1, h2⟩ | ⟨h1, h2⟩
      · rw [h1, h2]; simp [hi]
      · rw [h1, h2]; simp [hi]
    · rw [if_neg (by omega)]
      simp [show ¬ n = i from fun q => hin q.symm]
  · rw [if_neg hj, bW_bit R t j i hi, if_neg (by omega)]
