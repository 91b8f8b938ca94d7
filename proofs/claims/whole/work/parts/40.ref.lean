/-! THE REFERENCE: what its rows hold -/
def tpM (t : Int → Int) : Int → Int := fun i => t (i - 310)
theorem tpM_up (t : Int → Int) (h x : Int) : up (tpM t) (310 + h) x = tpM (up t h x) := by
  funext j
  show (if j = 310 + h then x else t (j - 310)) = (if j - 310 = h then x else t (j - 310))
  by_cases q : j = 310 + h
  · rw [if_pos q, if_pos (by omega)]
  · rw [if_neg q, if_neg (by omega)]
/-- the cell that step i + 1 changed, by the reference's number; 0 for none -/
def chG (c : Int → Int) (i : Nat) : Int := if zc c i % 2 = sT c i (sH c i) then 0 else 311 + sH c i
def RpM (c : Int → Int) (k : Nat) (ss hs rc ch : Int → Int) : Prop := ∀ i : Nat, i ≤ k → ss i = sS c i ∧ hs i = sH c i ∧ rc i = sR c i ∧ (∀ j : Nat, i = j + 1 → ch i = chG c j)
theorem RpM_0 {c : Int → Int} {ss hs rc ch : Int → Int} : RpM c 0 (up ss 0 0) (up hs 0 0) (up rc 0 0) ch := by
  intro i hi
  obtain rfl : i = 0 := by omega
  exact ⟨up_s, up_s, up_s, fun j hj => absurd hj (by omega)⟩
theorem RpM_s {c : Int → Int} {k : Nat} {ss hs rc ch : Int → Int} (h : RpM c k ss hs rc ch) : RpM c (k + 1) (up ss ((k + 1 : Nat) : Int) (sS c (k + 1))) (up hs ((k + 1 : Nat) : Int) (sH c (k + 1))) (up rc ((k + 1 : Nat) : Int) (sR c (k + 1))) (up ch ((k + 1 : Nat) : Int) (chG c k)) := by
  intro i hi
  by_cases q : i = k + 1
  · subst q
    exact ⟨up_s, up_s, up_s, fun j hj => by rw [up_s, show k = j by omega]⟩
  · obtain ⟨h1, h2, h3, h4⟩ := h i (by omega)
    have hne : (i : Int) ≠ ((k + 1 : Nat) : Int) := by omega
    exact ⟨by rw [up_n hne, h1], by rw [up_n hne, h2], by rw [up_n hne, h3], fun j hj => by rw [up_n hne, h4 j hj]⟩
/-- a sum of the first n -/
def sm (F : Int → Int) : Nat → Int
  | 0 => 0
  | n + 1 => sm F n + F n
theorem sm_s (F : Int → Int) (i : Int) (h : 0 ≤ i) : sm F (i + 1).toNat = sm F i.toNat + F i := by
  rw [show (i + 1).toNat = i.toNat + 1 by omega]
  show sm F i.toNat + F ((i.toNat : Nat) : Int) = _
  rw [Int.toNat_of_nonneg h]
theorem sm_eq {F G : Int → Int} : ∀ N : Nat, (∀ j : Int, 0 ≤ j → j < N → F j = G j) → sm F N = sm G N
  | 0, _ => rfl
  | N + 1, h => by
    show sm F N + F N = sm G N + G N
    rw [sm_eq N (fun j a b => h j a (by omega)), h N (by omega) (by omega)]
theorem sm_up (F : Int → Int) (p x : Int) : ∀ N : Nat, 0 ≤ p → p < N → sm (up F p x) N = sm F N + x - F p
  | 0, _, h => absurd h (by omega)
  | N + 1, h0, h => by
    show sm (up F p x) N + up F p x N = sm F N + F N + x - F p
    by_cases q : p = N
    · subst q
      rw [sm_eq (G := F) N (fun j a b => up_n (by omega)), up_s]
      omega
    · rw [sm_up F p x N h0 (by omega), up_n (by omega)]
      omega
theorem sm_01 {F : Int → Int} : ∀ N : Nat, (∀ j : Int, 0 ≤ j → j < N → F j = 0 ∨ F j = 1) → 0 ≤ sm F N ∧ sm F N ≤ N ∧ (sm F N = 0 ↔ ∀ j : Int, 0 ≤ j → j < N → F j = 0)
  | 0, _ => ⟨Int.le_refl 0, Int.le_refl 0, fun _ j a b => absurd b (by omega), fun _ => rfl⟩
  | N + 1, h => by
    have h1 := sm_01 N (fun j a b => h j a (by omega))
    have h2 := h N (by omega) (by omega)
    refine ⟨by show 0 ≤ sm F N + F N; omega, by show sm F N + F N ≤ ((N + 1 : Nat) : Int); omega, fun z j a b => ?_, fun z => ?_⟩
    · have z' : sm F N + F N = 0 := z
      by_cases q : j = N
      · rw [q]; omega
      · exact h1.2.2.mp (by omega) j a (by omega)
    · show sm F N + F N = 0
      rw [z N (by omega) (by omega), h1.2.2.mpr (fun j a b => z j a (by omega))]
      rfl
theorem sm_0 : ∀ N : Nat, sm (fun _ => 0) N = 0
  | 0 => rfl
  | N + 1 => by
    show sm (fun _ => 0) N + 0 = 0
    rw [sm_0 N]
    rfl
theorem sO_sm (c : Int → Int) : ∀ k : Nat, k ≤ 300 → sm (tpM (sT c k)) 620 = sO c k
  | 0, _ => sm_0 620
  | k + 1, h => by
    have hb := sH_b c k
    rw [sT_s, ← tpM_up, sm_up _ _ _ 620 (by omega) (by omega), sO_sm c k (by omega)]
    show sO c k + zc c k % 2 - sT c k (310 + sH c k - 310) = sO c k + (zc c k % 2 - sT c k (sH c k))
    rw [show 310 + sH c k - 310 = sH c k by omega]
    omega
/-- where the tapes behind i and k steps differ, by the reference's numbers -/
def dfF (c : Int → Int) (i k : Nat) : Int → Int := fun j => if sT c i (j - 310) = sT c k (j - 310) then 0 else 1
theorem dfF_01 (c : Int → Int) (i k : Nat) (j : Int) : dfF c i k j = 0 ∨ dfF c i k j = 1 := by
  unfold dfF
  split
  · exact Or.inl rfl
  · exact Or.inr rfl
theorem dfF_kk (c : Int → Int) (k : Nat) (j : Int) : dfF c k k j = 0 := by
  unfold dfF
  rw [if_pos rfl]
theorem dfF_s (c : Int → Int) (i k : Nat) (j : Int) (h0 : sH c i ≠ -311) : dfF c i k j = if chG c i = 0 then dfF c (i + 1) k j else if j = chG c i - 1 then 1 - dfF c (i + 1) k j else dfF c (i + 1) k j := by
  have h1 := sT_01 c i (sH c i)
  have h2 := sT_01 c k (sH c i)
  have hb := sH_b c i
  unfold chG
  by_cases q : zc c i % 2 = sT c i (sH c i)
  · rw [if_pos q, if_pos rfl]
    unfold dfF
    rw [sT_s, q, up_self]
  · rw [if_neg q]
    by_cases z : (311 + sH c i : Int) = 0
    · exact absurd z (by omega)
    · rw [if_neg z]
      unfold dfF
      rw [sT_s]
      by_cases e : j - 310 = sH c i
      · rw [if_pos (show j = 311 + sH c i - 1 by omega), e, up_s]
        split <;> split <;> omega
      · rw [if_neg (show ¬ j = 311 + sH c i - 1 by omega), up_n e]
theorem sT_back (c : Int → Int) (i : Nat) (j : Int) (hz : ¬ chG c i = 0 ∨ chG c i = 0) (h0 : sH c i ≠ -311) : sT c i (j - 310) = if chG c i = 0 then sT c (i + 1) (j - 310) else if j = chG c i - 1 then 1 - sT c (i + 1) (j - 310) else sT c (i + 1) (j - 310) := by
  have h1 := sT_01 c i (sH c i)
  unfold chG
  by_cases q : zc c i % 2 = sT c i (sH c i)
  · rw [if_pos q, if_pos rfl, sT_s, q, up_self]
  · rw [if_neg q, if_neg (by omega), sT_s]
    by_cases e : j - 310 = sH c i
    · rw [if_pos (show j = 311 + sH c i - 1 by omega), e, up_s]
      omega
    · rw [if_neg (show ¬ j = 311 + sH c i - 1 by omega), up_n e]
theorem sLU_q (c : Int → Int) : ∀ (k q : Nat), q ≤ k → sL c k ≤ sH c q ∧ sH c q ≤ sU c k
  | 0, q, h => by
    obtain rfl : q = 0 := by omega
    exact ⟨Int.le_refl _, Int.le_refl _⟩
  | k + 1, q, h => by
    simp only [sL, sU]
    by_cases e : q = k + 1
    · subst e; omega
    · have := sLU_q c k q (by omega)
      omega
theorem sR_rec (c : Int → Int) {k q : Nat} (h : q < k) : (sR c k = 1 → sH c q < sH c k) ∧ (sR c k = -1 → sH c k < sH c q) := by
  obtain ⟨j, rfl⟩ : ∃ j, k = j + 1 := ⟨k - 1, by omega⟩
  have h1 := sLU_q c j q (by omega)
  simp only [sR]
  constructor
  · intro z
    split at z
    · omega
    · split at z <;> omega
  · intro z
    split at z
    · omega
    · split at z <;> omega
theorem far_le (c : Int → Int) (d : Int) (k : Nat) : ∀ n : Nat, far c d k n ≤ d * sH c k
  | 0 => Int.le_refl _
  | n + 1 => by
    have := far_le c d k n
    simp only [far]
    omega
