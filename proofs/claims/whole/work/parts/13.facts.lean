/-! FACTS for the walks: contents that agree are one cell; what a Walk's rows hold -/
theorem arr_re {cA : ClassId} {n : Nat} {f f' : Nat → Value} (h : ∀ j, j < n → f j = f' j) : arrV cA n f = arrV cA n f' := by
  unfold arrV
  congr 1
  first
  | (apply Array.ext
     · simp
     · intro i h1 h2
       simp at h1 h2 ⊢
       exact h i (by omega))
  | (congr 1
     apply List.ext_getElem
     · simp
     · intro i h1 h2
       simp at h1 h2 ⊢
       exact h i (by omega))
theorem P_reJ {g : va_G} {cl : List vw_C} {ws : va_W} {H : Heap} {A : Nat → Prop} {a n i : Nat} {cA : ClassId} {f f' : Nat → Int64} (hP : va_P g cl ws H) (hD : va_D A ws) (hi : ws[i]? = some (a, .inl (cA, n, .inr (.inl f)))) (h : ∀ j, j < n → f j = f' j) : va_P g cl (ws.set i (a, .inl (cA, n, .inr (.inl f')))) H ∧ va_D A (ws.set i (a, .inl (cA, n, .inr (.inl f')))) := by
  refine ⟨hP.set hD hi ?_ (fun _ _ => rfl), hD.set hi⟩
  have h1 : H[a]? = some (vp_cell cA (n, .inr (.inl f))) := hP i _ hi
  show H[a]? = some (vp_cell cA (n, .inr (.inl f')))
  rw [h1, vp_cell_l, vp_cell_l, arr_re (fun j hj => by rw [h j hj])]
theorem P_reI {g : va_G} {cl : List vw_C} {ws : va_W} {H : Heap} {A : Nat → Prop} {a n i : Nat} {cA : ClassId} {F F' : Int → Int} (hP : va_P g cl ws H) (hD : va_D A ws) (hi : ws[i]? = some (a, .inl (cA, n, .inl (iF F)))) (h : ∀ j : Int, 0 ≤ j → j < n → F j = F' j) : va_P g cl (ws.set i (a, .inl (cA, n, .inl (iF F')))) H ∧ va_D A (ws.set i (a, .inl (cA, n, .inl (iF F')))) := by
  refine ⟨hP.set hD hi ?_ (fun _ _ => rfl), hD.set hi⟩
  have h1 : H[a]? = some (vp_cell cA (n, .inl (iF F))) := hP i _ hi
  show H[a]? = some (vp_cell cA (n, .inl (iF F')))
  rw [h1, vp_cell_i, vp_cell_i, arr_re (fun j hj => by show Value.int (iI (F j)) = Value.int (iI (F' j)); rw [h j (by omega) (by omega)])]
  rfl
def hdN (co hd : Int) : Int := if co / 2 % 2 = 0 then hd - 1 else hd + 1
theorem hdN_b (co hd : Int) : hdN co hd = hd - 1 ∨ hdN co hd = hd + 1 := by
  unfold hdN
  split
  · exact Or.inl rfl
  · exact Or.inr rfl
def sdN (lf rt h : Int) : Int := if rt < h then 1 else if h < lf then -1 else 0
/-- what the rows of a Walk hold behind k steps -/
def Rp (c : Int → Int) (R : Int) (Wd k : Nat) (tps : Nat → Int64) (hs ss sd : Int → Int) : Prop := ∀ i : Nat, i ≤ k → hs i = sH c i ∧ ss i = sS c i ∧ sd i = sR c i ∧ ∀ w, w < Wd → tps (i * Wd + w) = bW R (sT c i) w
theorem Rp_0 {c : Int → Int} {R : Int} {Wd : Nat} {tp tps : Nat → Int64} {hs ss sd : Int → Int} (htp : ∀ w, w < Wd → tp w = bW R (sT c 0) w) : Rp c R Wd 0 (va_cpy tp tps 0 0 Wd) (up hs 0 0) (up ss 0 0) (up sd 0 0) := by
  intro i hi
  obtain rfl : i = 0 := by omega
  refine ⟨up_s, up_s, up_s, fun w hw => ?_⟩
  rw [← htp w hw]
  unfold va_cpy
  rw [if_pos (by omega)]
  congr 1
  omega
theorem Rp_s {c : Int → Int} {R : Int} {Wd k : Nat} {tps : Nat → Int64} {hs ss sd : Int → Int} (h : Rp c R Wd k tps hs ss sd) : Rp c R Wd (k + 1) (va_cpy (bW R (sT c (k + 1))) tps 0 ((k + 1) * Wd) Wd) (up hs ((k + 1 : Nat) : Int) (sH c (k + 1))) (up ss ((k + 1 : Nat) : Int) (sS c (k + 1))) (up sd ((k + 1 : Nat) : Int) (sR c (k + 1))) := by
  intro i hi
  by_cases q : i = k + 1
  · subst q
    refine ⟨up_s, up_s, up_s, fun w hw => ?_⟩
    unfold va_cpy
    rw [if_pos (by omega)]
    congr 1
    omega
  · obtain ⟨h1, h2, h3, h4⟩ := h i (by omega)
    have hne : (i : Int) ≠ ((k + 1 : Nat) : Int) := by omega
    refine ⟨by rw [up_n hne, h1], by rw [up_n hne, h2], by rw [up_n hne, h3], fun w hw => ?_⟩
    rw [← h4 w hw]
    unfold va_cpy
    rw [if_neg]
    intro hh
    have h5 : (i + 1) * Wd ≤ (k + 1) * Wd := Nat.mul_le_mul_right Wd (by omega)
    have h6 : (i + 1) * Wd = i * Wd + Wd := by rw [Nat.add_mul, Nat.one_mul]
    omega
theorem bW_all {R : Int} {Wd : Nat} (hW : 0 ≤ R ∧ 2 * R < 64 * Wd) {t u : Int → Int} (ht : ∀ j, t j = 0 ∨ t j = 1) (hu : ∀ j, u j = 0 ∨ u j = 1) (ht0 : ∀ j, (j < -R ∨ R < j) → t j = 0) (hu0 : ∀ j, (j < -R ∨ R < j) → u j = 0) : (∀ w : Nat, w < Wd → bW R t w = bW R u w) ↔ ∀ j, t j = u j := by
  constructor
  · intro h j
    by_cases q : j < -R ∨ R < j
    · rw [ht0 j q, hu0 j q]
    · have e1 : (64 * (((j + R).toNat / 64 : Nat) : Int) + (((j + R).toNat % 64 : Nat) : Int) - R) = j := by omega
      have h1 := bW_bit R t ((j + R).toNat / 64) ((j + R).toNat % 64) (by omega)
      have h2 := bW_bit R u ((j + R).toNat / 64) ((j + R).toNat % 64) (by omega)
      rw [h _ (by omega), h2, e1] at h1
      have h3 := ht j
      have h4 := hu j
      simp only [decide_eq_decide] at h1
      omega
  · intro h w _
    exact bW_eq h w
theorem lat_2 {P : Nat → Prop} {th : Int} (h0 : 0 ≤ th) (h1 : ¬ P th.toNat) (h2 : 1 ≤ th → ¬ P (th - 1).toNat) : lat P (th + 1).toNat = lat P (th + -2 + 1).toNat := by
  rw [show (th + 1).toNat = th.toNat + 1 by omega, lat_n h1]
  by_cases q : 1 ≤ th
  · rw [show th.toNat = (th - 1).toNat + 1 by omega, lat_n (h2 q)]
    congr 1
    omega
  · congr 1
    omega
theorem lat_1 {P : Nat → Prop} {th : Int} (h0 : 0 ≤ th) (h1 : ¬ P th.toNat) : lat P (th + 1).toNat = lat P (th + -1 + 1).toNat := by
  rw [show (th + 1).toNat = th.toNat + 1 by omega, lat_n h1]
  congr 1
  omega
theorem lat_h {P : Nat → Prop} {th : Int} (h0 : 0 ≤ th) (h1 : P th.toNat) : lat P (th + 1).toNat = th := by
  rw [show (th + 1).toNat = th.toNat + 1 by omega, lat_y h1, Int.toNat_of_nonneg h0]
theorem far_s {c : Int → Int} {d : Int} {k : Nat} {th : Int} (h : 0 ≤ th) (h2 : th ≤ (k : Int) - 1) : far c d k ((k : Int) - 1 - (th + -1)).toNat = min (far c d k ((k : Int) - 1 - th).toNat) (d * sH c th.toNat) := by
  rw [show ((k : Int) - 1 - (th + -1)).toNat = ((k : Int) - 1 - th).toNat + 1 by omega]
  show min _ (d * sH c (k - (((k : Int) - 1 - th).toNat + 1))) = _
  rw [show k - (((k : Int) - 1 - th).toNat + 1) = th.toNat by omega]
/-- what look() finds -/
noncomputable def lkR (c : Int → Int) (k : Nat) : Int × Int × Int := if 0 ≤ cyA c k then (2, (k : Int) - cyA c k, 0) else if 0 ≤ drA c k then (3, (k : Int) - drA c k, sH c k - sH c (drA c k).toNat) else (0, 0, 0)
