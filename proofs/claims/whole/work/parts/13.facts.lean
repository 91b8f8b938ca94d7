/-! FACTS for the walks: contents that agree are one cell; what a Walk's rows hold -/
theorem arr_re {cA : ClassId} {n : Nat} {f f' : Nat → Value} (h : ∀ j, j < n → f j = f' j) : arrV cA n f = arrV cA n f' := by
  unfold arrV
  congr 1
  first
  | (apply Array.ext
     · simp
     · intro i h1 h2
       simp at h1 h2 ⊢
       exact h i (by omega))
  | (congr 1
     apply List.ext_getElem
     · simp
     · intro i h1 h2
       simp at h1 h2 ⊢
       exact h i (by omega))
theorem P_reJ {g : va_G} {cl : List vw_C} {ws : va_W} {H : Heap} {A : Nat → Prop} {a n i : Nat} {cA : ClassId} {f f' : Nat → Int64} (hP : va_P g cl ws H) (hD : va_D A ws) (hi : ws[i]? = some (a, .inl (cA, n, .inr (.inl f)))) (h : ∀ j, j < n → f j = f' j) : va_P g cl (ws.set i (a, .inl (cA, n, .inr (.inl f')))) H ∧ va_D A (ws.set i (a, .inl (cA, n, .inr (.inl f')))) := by
  refine ⟨hP.set hD hi ?_ (fun _ _ => rfl), hD.set hi⟩
  have h1 : H[a]? = some (vp_cell cA (n, .inr (.inl f))) := hP i _ hi
  show H[a]? = some (vp_cell cA (n, .inr (.inl f')))
  rw [h1, vp_cell_l, vp_cell_l, arr_re (fun j hj => by rw [h j hj])]
theorem P_reI {g : va_G} {cl : List vw_C} {ws : va_W} {H : Heap} {A : Nat → Prop} {a n i : Nat} {cA : ClassId} {F F' : Int → Int} (hP : va_P g cl ws H) (hD : va_D A ws) (hi : ws[i]? = some (a, .inl (cA, n, .inl (iF F)))) (h : ∀ j : Int, 0 ≤ j → j < n → F j = F' j) : va_P g cl (ws.set i (a, .inl (cA, n, .inl (iF F')))) H ∧ va_D A (ws.set i (a, .inl (cA, n, .inl (iF F')))) := by
  refine ⟨hP.set hD hi ?_ (fun _ _ => rfl), hD.set hi⟩
  have h1 : H[a]? = some (vp_cell cA (n, .inl (iF F))) := hP i _ hi
  show H[a]? = some (vp_cell cA (n, .inl (iF F')))
  rw [h1, vp_cell_i, vp_cell_i, arr_re (fun j hj => by show Value.int (iI (F j)) = Value.int (iI (F' j)); rw [h j (by omega) (by omega)])]
  rfl
def hdN (co hd : Int) : Int := if co / 2 % 2 = 0 then hd - 1 else hd + 1
theorem hdN_b (co hd : Int) : hdN co hd = hd - 1 ∨ hdN co hd = hd + 1 := by
  unfold hdN
  split
  · exact Or.inl rfl
  · exact Or.inr rfl
def sdN (lf rt h : Int) : Int := if rt < h then 1 else if h < lf then -1 else 0
/-- what the rows of a Walk hold behind k steps -/
def Rp (c : Int → Int) (R : Int) (Wd k : Nat) (tps : Nat → Int64) (hs ss sd : Int → Int) : Prop := ∀ i : Nat, i ≤ k → hs i = sH c i ∧ ss i = sS c i ∧ sd i = sR c i ∧ ∀ w, w < Wd → tps (i * Wd + w) = bW R (sT c i) w
theorem Rp_0 {c : Int → Int} {R : Int} {Wd : Nat} {tp tps : Nat → Int64} {hs ss sd : Int → Int} (htp : ∀ w, w < Wd → tp w = bW R (sT c 0) w) : Rp c R Wd 0 (va_cpy tp tps 0 0 Wd) (up hs 0 0) (up ss 0 0) (up sd 0 0) := by
  intro i hi
  obtain rfl : i = 0 := by omega
  refine ⟨up_s, up_s, up_s, fun w hw => ?_⟩
  rw [← htp w hw]
  unfold va_cpy
  rw [if_pos (by omega)]
  congr 1
  omega
theorem Rp_s {c : Int → Int} {R : Int} {Wd k : Nat} {tps : Nat → Int64} {hs ss sd : Int → Int} (h : Rp c R Wd k tps hs ss sd) : Rp c R Wd (k + 1) (va_cpy (bW R (sT c (k + 1))) tps 0 ((k + 1) * Wd) Wd) (up hs ((k + 1 : Nat) : Int) (sH c (k + 1))) (up ss ((k + 1 : Nat) : Int) (sS c (k + 1))) (up sd ((k + 1 : Nat) : Int) (sR c (k + 1))) := by
  intro i hi
  by_cases q : i = k + 1
  · subst q
    refine ⟨up_s, up_s, up_s, fun w hw => ?_⟩
    unfold va_cpy
    rw [if_pos (by omega)]
    congr 1
    omega
  · obtain ⟨h1, h2, h3, h4⟩ := h i (by omega)
    have hne : (i : Int) ≠ ((k + 1 : Nat) : Int) := by omega
    refine ⟨by rw [up_n hne, h1], by rw [up_n hne, h2], by rw [up_n hne, h3], fun w hw => ?_⟩
    rw [← h4 w hw]
    unfold va_cpy
    rw [if_neg]
    intro hh
    have h5 : (i + 1) * Wd ≤ (k + 1) * Wd := Nat.mul_le_mul_right Wd (by omega)
    have h6 : (i + 1) * Wd = i * Wd + Wd := by rw [Nat.add_mul, Nat.one_mul]
    omega
theorem bW_all {R : Int} {Wd : Nat} (hW : 0 ≤ R ∧ 2 * R < 64 * Wd) {t u : Int → Int} (ht : ∀ j, t j = 0 ∨ t j = 1) (hu : ∀ j, u j = 0 ∨ u j = 1) (ht0 : ∀ j, (j < -R ∨ R < j) → t j = 0) (hu0 : ∀ j, (j < -R ∨ R < j) → u j = 0) : (∀ w : Nat, w < Wd → bW R t w = bW R u w) ↔ ∀ j, t j = u j := by
  constructor
  · intro h j
    by_cases q : j < -R ∨ R < j
    · rw [ht0 j q, hu0 j q]
    · have e1 : (64 * (((j + R).toNat / 64 : Nat) : Int) + (((j + R).toNat % 64 : Nat) : Int) - R) = j := by omega
      have h1 := bW_bit R t ((j + R).toNat / 64) ((j + R).toNat % 64) (by omega)
      have h2 := bW_bit R u ((j + R).toNat / 64) ((j + R).toNat % 64) (by omega)
      rw [h _ (by omega), h2, e1] at h1
      have h3 := ht j
      have h4 := hu j
      simp only [decide_eq_decide] at h1
      omega
  · intro h w _
    exact bW_eq h w
theorem lat_2 {P : Nat → Prop} {th : Int} (h0 : 0 ≤ th) (h1 : ¬ P th.toNat) (h2 : 1 ≤ th → ¬ P (th - 1).toNat) : lat P (th + 1).toNat = lat P (th + -2 + 1).toNat := by
  rw [show (th + 1).toNat = th.toNat + 1 by omega, lat_n h1]
  by_cases q : 1 ≤ th
  · rw [show th.toNat = (th - 1).toNat + 1 by omega, lat_n (h2 q)]
    congr 1
    omega
  · congr 1
    omega
theorem lat_1 {P : Nat → Prop} {th : Int} (h0 : 0 ≤ th) (h1 : ¬ P th.toNat) : lat P (th + 1).toNat = lat P (th + -1 + 1).toNat := by
  rw [show (th + 1).toNat = th.toNat + 1 by omega, lat_n h1]
  congr 1
  omega
theorem lat_h {P : Nat → Prop} {th : Int} (h0 : 0 ≤ th) (h1 : P th.toNat) : lat P (th + 1).toNat = th := by
  rw [show (th + 1).toNat = th.toNat + 1 by omega, lat_y h1, Int.toNat_of_nonneg h0]
theorem far_s {c : Int → Int} {d : Int} {k : Nat} {th : Int} (h : 0 ≤ th) (h2 : th ≤ (k : Int) - 1) : far c d k ((k : Int) - 1 - (th + -1)).toNat = min (far c d k ((k : Int) - 1 - th).toNat) (d * sH c th.toNat) := by
  rw [show ((k : Int) - 1 - (th + -1)).toNat = ((k : Int) - 1 - th).toNat + 1 by omega]
  show min _ (d * sH c (k - (((k : Int) - 1 - th).toNat + 1))) = _
  rw [show k - (((k : Int) - 1 - th).toNat + 1) = th.toNat by omega]
/-- what look() finds -/
noncomputable def lkG (c : Int → Int) (k : Nat) (o pe dr : Int) : Int × Int × Int := if 0 ≤ cyA c k then (2, (k : Int) - cyA c k, dr) else if 0 ≤ drA c k then (3, (k : Int) - drA c k, sH c k - sH c (drA c k).toNat) else (o, pe, dr)
theorem runF_s {c : Int → Int} {L k : Nat} (h : k < L) : runF c (L - k) k = if zc c k < 0 then (1, k + 1, 0, 0) else if 0 ≤ cyA c (k + 1) then (2, k + 1, (k + 1 : Nat) - cyA c (k + 1), 0) else if 0 ≤ drA c (k + 1) then (3, k + 1, (k + 1 : Nat) - drA c (k + 1), sH c (k + 1) - sH c (drA c (k + 1)).toNat) else runF c (L - (k + 1)) (k + 1) := by
  rw [show L - k = (L - (k + 1)) + 1 by omega]
  rfl
/-- how many steps the configuration at a run's end has behind it -/
def kF (F : Int × Nat × Int × Int) : Nat := if F.1 = 1 then F.2.1 - 1 else F.2.1
/-- a run on its way: configuration kk, steps s, outcome o, period pe, drift dr -/
def onW (c : Int → Int) (R : Int) (Wd L kk : Nat) (o s pe dr : Int) (tps : Nat → Int64) (hs ss sd : Int → Int) : Prop :=
  (o = 0 ∧ s = kk ∧ pe = 0 ∧ dr = 0 ∧ kk ≤ L ∧ runF c L 0 = runF c (L - kk) kk ∧ alive c kk ∧ Rp c R Wd kk tps hs ss sd) ∨
  (o ≠ 0 ∧ (o = 1 ∨ o = 2 ∨ o = 3) ∧ 1 ≤ s ∧ s ≤ L ∧ runF c L 0 = (o, s.toNat, pe, dr) ∧ kk = kF (o, s.toNat, pe, dr) ∧ alive c kk)
theorem onW_halt {c : Int → Int} {R : Int} {Wd L kk : Nat} {tps : Nat → Int64} {hs ss sd : Int → Int} (hk : kk < L) (hr : runF c L 0 = runF c (L - kk) kk) (ha : alive c kk) (hz : zc c kk < 0) : onW c R Wd L kk 1 ((kk + 1 : Nat) : Int) 0 0 tps hs ss sd := by
  right
  refine ⟨by decide, Or.inl rfl, by omega, by omega, ?_, ?_, ha⟩
  · rw [hr, runF_s hk, if_pos hz, Int.toNat_natCast]
  · rw [Int.toNat_natCast]; rfl
theorem onW_look {c : Int → Int} {R : Int} {Wd L kk : Nat} {tps : Nat → Int64} {hs ss sd : Int → Int} {u : Int × Int × Int} (hk : kk < L) (hr : runF c L 0 = runF c (L - kk) kk) (ha : alive c kk) (hz : ¬ zc c kk < 0) (hu : u = lkG c (kk + 1) 0 0 0) (hRp : Rp c R Wd (kk + 1) tps hs ss sd) : onW c R Wd L (kk + 1) u.1 ((kk + 1 : Nat) : Int) u.2.1 u.2.2 tps hs ss sd := by
  have ha2 : alive c (kk + 1) := alive_s ha (by omega)
  rw [runF_s hk, if_neg hz] at hr
  unfold lkG at hu
  by_cases q1 : 0 ≤ cyA c (kk + 1)
  · rw [if_pos q1] at hu hr
    subst hu
    right
    refine ⟨by show (2 : Int) ≠ 0; decide, Or.inr (Or.inl rfl), by omega, by omega, ?_, ?_, ha2⟩
    · rw [hr, Int.toNat_natCast]
    · rw [Int.toNat_natCast]; rfl
  · rw [if_neg q1] at hu hr
    by_cases q2 : 0 ≤ drA c (kk + 1)
    · rw [if_pos q2] at hu hr
      subst hu
      right
      refine ⟨by show (3 : Int) ≠ 0; decide, Or.inr (Or.inr rfl), by omega, by omega, ?_, ?_, ha2⟩
      · rw [hr, Int.toNat_natCast]
      · rw [Int.toNat_natCast]; rfl
    · rw [if_neg q2] at hu hr
      subst hu
      left
      exact ⟨rfl, rfl, rfl, rfl, by omega, hr, ha2, hRp⟩
/-- the end of a run -/
theorem onW_end {c : Int → Int} {R : Int} {Wd L kk : Nat} {o s pe dr : Int} {tps : Nat → Int64} {hs ss sd : Int → Int} (h : onW c R Wd L kk o s pe dr tps hs ss sd) (he : (L : Int) ≤ s ∨ ¬ o = 0) : o = (runF c L 0).1 ∧ s = ((runF c L 0).2.1 : Int) ∧ pe = (runF c L 0).2.2.1 ∧ dr = (runF c L 0).2.2.2 ∧ kk = kF (runF c L 0) ∧ alive c (kF (runF c L 0)) := by
  rcases h with ⟨h1, h2, h3, h4, h5, h6, h7, -⟩ | ⟨h1, h2, h3, h4, h5, h6, h7⟩
  · have e : kk = L := by omega
    subst e
    rw [Nat.sub_self] at h6
    have e2 : runF c kk 0 = (0, kk, 0, 0) := h6
    rw [e2]
    exact ⟨h1, h2, h3, h4, rfl, h7⟩
  · rw [h5]
    exact ⟨rfl, by show s = (s.toNat : Int); omega, rfl, rfl, h6, h6 ▸ h7⟩
