/-! THE TREE GONE THROUGH: what keeps well, what a call of grow does -/
/-- how many of the first j codes are actions -/
def nz (F : Int → Int) : Nat → Int
  | 0 => 0
  | j + 1 => nz F j + (if 0 ≤ F j then 1 else 0)
theorem nz_eq {F G : Int → Int} : ∀ (N : Nat), (∀ j : Int, 0 ≤ j → j < N → (0 ≤ F j ↔ 0 ≤ G j)) → nz F N = nz G N
  | 0, _ => rfl
  | N + 1, h => by
    have h1 := nz_eq N (fun j a b => h j a (by omega))
    have h2 := h N (by omega) (by omega)
    simp only [nz, h1]
    by_cases q : 0 ≤ F N
    · rw [if_pos q, if_pos (h2.mp q)]
    · rw [if_neg q, if_neg (fun z => q (h2.mpr z))]
theorem nz_up (F : Int → Int) (p x : Int) : ∀ (N : Nat), 0 ≤ p → p < N → nz (up F p x) N = nz F N + (if 0 ≤ x then 1 else 0) - (if 0 ≤ F p then 1 else 0)
  | 0, _, h => absurd h (by omega)
  | N + 1, h0, h => by
    simp only [nz]
    by_cases q : p = N
    · subst q
      rw [nz_eq (F := up F (N : Int) x) (G := F) N (fun j a b => by rw [up_n (by omega)]), up_s]
      omega
    · rw [nz_up F p x N h0 (by omega), up_n (by omega)]
      omega
def wfT (n : Int) (tr ps py la : Int → Int) (d : Nat) : Prop :=
  okC tr ∧ okL ps py la d ∧ (d : Int) + 1 ≤ 2 * n - 1 ∧ nz tr 8 = (d : Int) + 1 ∧ (∀ j : Int, 0 ≤ j → j < d → 0 ≤ tr (2 * ps j + py j)) ∧ ∀ i j : Int, 0 ≤ i → i < j → j < d → 2 * ps i + py i ≠ 2 * ps j + py j
theorem okL_le {ps py la : Int → Int} {d e : Nat} (h : okL ps py la d) (he : e ≤ d) : okL ps py la e := fun j a b => h j a (by omega)
theorem nbF_wf (n : Int) (ps py la : Int → Int) : ∀ (d : Nat) (tr : Int → Int), okC tr → okL ps py la d → (d : Int) + 1 ≤ 2 * n - 1 → nz tr 8 = (d : Int) + 1 → (∀ j : Int, 0 ≤ j → j < d → 0 ≤ tr (2 * ps j + py j)) → (∀ i j : Int, 0 ≤ i → i < j → j < d → 2 * ps i + py i ≠ 2 * ps j + py j) → (nbF ps py la d tr).1 = 1 → wfT n (nbF ps py la d tr).2.1 ps py la (nbF ps py la d tr).2.2
  | 0, tr, _, _, _, _, _, _, h => absurd h (by show ¬ (0 : Int) = 1; decide)
  | d + 1, tr, hc, hL, hn, hz, hp, hd, h => by
    have hl := hL d (by omega) (by omega)
    have hp0 := hp d (by omega) (by omega)
    have hcp := hc (2 * ps d + py d) (by omega) (by omega)
    unfold nbF at h ⊢
    by_cases q : tr (2 * ps d + py d) < la d
    · rw [if_pos q]
      refine ⟨okC_up hc (by omega), hL, hn, ?_, fun j a b => ?_, hd⟩
      · show nz (up tr _ _) 8 = _
        rw [nz_up tr _ _ 8 (by omega) (by omega), hz, if_pos (by omega), if_pos hp0]
        show _ = ((d + 1 : Nat) : Int) + 1
        omega
      · show 0 ≤ up tr _ _ _
        unfold up
        split
        · omega
        · exact hp j a b
    · rw [if_neg q] at h ⊢
      refine nbF_wf n ps py la d (up tr (2 * ps d + py d) (-1)) (okC_up hc (by omega)) (okL_le hL (by omega)) (by omega) ?_ (fun j a b => ?_) (fun i j a b c => hd i j a b (by omega)) h
      · rw [nz_up tr _ _ 8 (by omega) (by omega), hz, if_neg (by omega), if_pos hp0]
        omega
      · rw [up_n (hd j d a b (by omega))]
        exact hp j a (by omega)
theorem nz_le (F : Int → Int) : ∀ N : Nat, nz F N ≤ N
  | 0 => Int.le_refl 0
  | N + 1 => by
    have h := nz_le F N
    simp only [nz]
    split <;> omega
theorem runF_halt (c : Int → Int) : ∀ (f k : Nat), (runF c f k).1 = 1 → zc c ((runF c f k).2.1 - 1) < 0
  | 0, k, h => absurd h (by show ¬ (0 : Int) = 1; decide)
  | f + 1, k, h => by
    unfold runF at h ⊢
    split
    · rename_i q; exact q
    · rename_i q
      rw [if_neg q] at h
      split
      · rename_i q1; rw [if_pos q1] at h; exact absurd h (by show ¬ (2 : Int) = 1; decide)
      · rename_i q1
        rw [if_neg q1] at h
        split
        · rename_i q2; rw [if_pos q2] at h; exact absurd h (by show ¬ (3 : Int) = 1; decide)
        · rename_i q2; rw [if_neg q2] at h; exact runF_halt c f (k + 1) h
/-- the machine behind one: answer (1: there is one) and its parts -/
noncomputable def adF (n : Int) (tr ps py la : Int → Int) (d : Nat) : Int × tT := mvF n tr ps py la d 1 0 (runF tr 120 0).1 (sS tr (kF (runF tr 120 0))) (sT tr (kF (runF tr 120 0)) (sH tr (kF (runF tr 120 0))))
theorem adF_wf {n : Int} {tr ps py la : Int → Int} {d : Nat} (hn : 2 ≤ n ∧ n ≤ 4) (h : wfT n tr ps py la d) (ha : alive tr (kF (runF tr 120 0))) (h1 : (adF n tr ps py la d).1 = 1) : wfT n (adF n tr ps py la d).2.1 (adF n tr ps py la d).2.2.1 (adF n tr ps py la d).2.2.2.1 (adF n tr ps py la d).2.2.2.2.1 (adF n tr ps py la d).2.2.2.2.2.1 ∧ (adF n tr ps py la d).2.2.2.2.2.2.1 = 1 ∧ (adF n tr ps py la d).2.2.2.2.2.2.2 = 0 := by
  obtain ⟨hc, hL, hd, hz, hp, hdi⟩ := h
  unfold adF mvF at h1 ⊢
  rw [if_neg (by decide), if_neg (by decide)] at h1 ⊢
  by_cases q : chF n d (runF tr 120 0).1
  · rw [if_pos q]
    obtain ⟨q1, q2, q3⟩ := q
    have hs := sS_b hc _ ha
    have hb := sT_01 tr (kF (runF tr 120 0)) (sH tr (kF (runF tr 120 0)))
    have hz0 : zc tr (kF (runF tr 120 0)) < 0 := by
      have := runF_halt tr 120 0 q1
      unfold kF
      rw [if_pos q1]
      exact this
    have hg := gN_le tr hc 8 (by omega)
    unfold zc at hz0
    refine ⟨⟨okC_up hc (by omega), fun j a b => ?_, by show ((d + 1 : Nat) : Int) + 1 ≤ _; omega, ?_, fun j a b => ?_, fun i j a b c => ?_⟩, rfl, rfl⟩
    · show (0 ≤ up ps d _ j ∧ up ps d _ j < 4) ∧ (up py d _ j = 0 ∨ up py d _ j = 1) ∧ 0 ≤ up la d _ j ∧ up la d _ j < 16
      by_cases e : j = d
      · subst e
        rw [up_s, up_s, up_s]
        unfold lcF
        omega
      · rw [up_n e, up_n e, up_n e]
        exact hL j a (by have : j < ((d + 1 : Nat) : Int) := b; omega)
    · show nz (up tr _ 0) 8 = ((d + 1 : Nat) : Int) + 1
      rw [nz_up tr _ _ 8 (by omega) (by omega), hz, if_pos (by omega), if_neg (by omega)]
      omega
    · show 0 ≤ up tr _ 0 (2 * up ps d _ j + up py d _ j)
      by_cases e : j = d
      · subst e
        rw [up_s, up_s, up_s]
        decide
      · have hj : j < (d : Int) := by have : j < ((d + 1 : Nat) : Int) := b; omega
        rw [up_n e, up_n e]
        unfold up
        split
        · decide
        · exact hp j a hj
    · show 2 * up ps d _ i + up py d _ i ≠ 2 * up ps d _ j + up py d _ j
      have hj : j < ((d + 1 : Nat) : Int) := c
      by_cases e : j = d
      · subst e
        rw [up_s, up_s, up_n (by omega), up_n (by omega)]
        intro z
        have := hp i a (by omega)
        rw [z] at this
        omega
      · rw [up_n e, up_n e, up_n (by omega), up_n (by omega)]
        exact hdi i j a b (by omega)
  · rw [if_neg q] at h1 ⊢
    have h2 : (nbF ps py la d tr).1 = 1 := h1
    refine ⟨nbF_wf n ps py la d tr hc hL hd hz hp hdi h2, rfl, ?_⟩
    show 1 - (nbF ps py la d tr).1 = 0
    rw [h2]
    decide
theorem mvF_0 {n : Int} {tr ps py la : Int → Int} {d : Nat} {bg en o s b : Int} (h : ¬ en = 0) : (mvF n tr ps py la d bg en o s b).1 = 0 := by
  unfold mvF
  rw [if_pos h]
/-- the tree: next machine, over, the counts -/
abbrev gT : Type := (Int → Int) × (Int → Int) × (Int → Int) × (Int → Int) × Nat × Int × tS
noncomputable def stG (n : Int) (G : gT) : gT := match G with
  | (tr, ps, py, la, d, _, (op, ha, cy, df, hsu, bs, bo, mo, be)) => ((adF n tr ps py la d).2.1, (adF n tr ps py la d).2.2.1, (adF n tr ps py la d).2.2.2.1, (adF n tr ps py la d).2.2.2.2.1, (adF n tr ps py la d).2.2.2.2.2.1, 1 - (adF n tr ps py la d).1, tkF tr op ha cy df hsu bs bo mo be)
noncomputable def grG (n : Int) : Nat → gT → Int × gT
  | 0, G => (0, G)
  | f + 1, G => if G.2.2.2.2.2.1 = 0 then ((grG n f (stG n G)).1 + 1, (grG n f (stG n G)).2) else (0, G)
/-- a tree that is well: the next machine where there is one, the counts -/
def wfG (n : Int) (G : gT) : Prop := (G.2.2.2.2.2.1 = 0 ∨ G.2.2.2.2.2.1 = 1) ∧ (G.2.2.2.2.2.1 = 0 → wfT n G.1 G.2.1 G.2.2.1 G.2.2.2.1 G.2.2.2.2.1) ∧ 0 ≤ G.2.2.2.2.2.2.2.1 ∧ (0 ≤ G.2.2.2.2.2.2.2.2.2.2.2.1 ∧ G.2.2.2.2.2.2.2.2.2.2.2.1 ≤ 120) ∧ (-120 ≤ G.2.2.2.2.2.2.2.2.2.2.2.2.2.1 ∧ G.2.2.2.2.2.2.2.2.2.2.2.2.2.1 ≤ 120)
theorem wfT_d {n : Int} {tr ps py la : Int → Int} {d : Nat} (hn : 2 ≤ n ∧ n ≤ 4) (h : wfT n tr ps py la d) : d ≤ 6 := by
  have := h.2.2.1
  omega
theorem tkF_b {tr : Int → Int} {op ha cy df hsu bs bo mo : Int} {be : Int → Int} (h0 : 0 ≤ ha) (h1 : 0 ≤ bs ∧ bs ≤ 120) (h2 : -120 ≤ mo ∧ mo ≤ 120) : (ha ≤ (tkF tr op ha cy df hsu bs bo mo be).2.1 ∧ (tkF tr op ha cy df hsu bs bo mo be).2.1 ≤ ha + 1) ∧ (0 ≤ (tkF tr op ha cy df hsu bs bo mo be).2.2.2.2.2.1 ∧ (tkF tr op ha cy df hsu bs bo mo be).2.2.2.2.2.1 ≤ 120) ∧ (-120 ≤ (tkF tr op ha cy df hsu bs bo mo be).2.2.2.2.2.2.2.1 ∧ (tkF tr op ha cy df hsu bs bo mo be).2.2.2.2.2.2.2.1 ≤ 120) := by
  have rb := runF_b tr 120 0
  have kb := kF_b tr 120
  have ob := sO_b tr (kF (runF tr 120 0))
  unfold tkF
  split
  · refine ⟨⟨by show ha ≤ ha + 1; omega, Int.le_refl _⟩, ?_, ?_⟩
    · show 0 ≤ (if bs < ((runF tr 120 0).2.1 : Int) then ((runF tr 120 0).2.1 : Int) else bs) ∧ (if bs < ((runF tr 120 0).2.1 : Int) then ((runF tr 120 0).2.1 : Int) else bs) ≤ 120
      split <;> omega
    · show -120 ≤ max mo (sO tr (kF (runF tr 120 0))) ∧ max mo (sO tr (kF (runF tr 120 0))) ≤ 120
      omega
  · split
    · exact ⟨⟨Int.le_refl _, by show ha ≤ ha + 1; omega⟩, h1, h2⟩
    · split
      · exact ⟨⟨Int.le_refl _, by show ha ≤ ha + 1; omega⟩, h1, h2⟩
      · exact ⟨⟨Int.le_refl _, by show ha ≤ ha + 1; omega⟩, h1, h2⟩
/-- the tree of the class: what its cells hold, moved on, is the next machine -/
def clR (n : Int) (ctr cps cpy cla : Int → Int) (cd : Nat) (bg en o sta hd : Int) (t : Int → Int) (G : gT) : Prop :=
  okC ctr ∧ okL cps cpy cla cd ∧ cd ≤ 7 ∧ ((bg = 0 ∨ bg = 1) ∧ (en = 0 ∨ en = 1)) ∧ (0 ≤ o ∧ o ≤ 3 ∧ 0 ≤ sta ∧ sta < 4 ∧ -200 ≤ hd ∧ hd ≤ 200) ∧ (∀ j, t j = 0 ∨ t j = 1) ∧ (∀ j, (j < -120 ∨ 120 < j) → t j = 0) ∧
  (mvF n ctr cps cpy cla cd bg en o sta (t hd)).1 = 1 - G.2.2.2.2.2.1 ∧ (G.2.2.2.2.2.1 = 0 → (mvF n ctr cps cpy cla cd bg en o sta (t hd)).2 = (G.1, G.2.1, G.2.2.1, G.2.2.2.1, G.2.2.2.2.1, 1, 0))
