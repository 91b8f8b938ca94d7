/-! THE TREE: the next machine, by the codes tr, the places (ps, py) of its actions behind the first, their last codes la, their number d -/
/-- the next branch: found (1 or 0), the codes, the number of actions behind the first -/
def nbF (ps py la : Int → Int) : Nat → (Int → Int) → Int × (Int → Int) × Nat
  | 0, tr => (0, tr, 0)
  | d + 1, tr => if tr (2 * ps d + py d) < la d then (1, up tr (2 * ps d + py d) (tr (2 * ps d + py d) + 1), d + 1) else nbF ps py la d (up tr (2 * ps d + py d) (-1))
theorem nbF_y {ps py la tr : Int → Int} {i : Int} (hi : 0 ≤ i) (h : tr (2 * ps i + py i) < la i) : nbF ps py la (i + 1).toNat tr = (1, up tr (2 * ps i + py i) (tr (2 * ps i + py i) + 1), (i + 1).toNat) := by
  rw [show (i + 1).toNat = i.toNat + 1 by omega]
  show (if tr (2 * ps (i.toNat : Int) + py (i.toNat : Int)) < la (i.toNat : Int) then _ else _) = _
  rw [Int.toNat_of_nonneg hi, if_pos h]
theorem nbF_n {ps py la tr : Int → Int} {i : Int} (hi : 0 ≤ i) (h : ¬ tr (2 * ps i + py i) < la i) : nbF ps py la (i + 1).toNat tr = nbF ps py la i.toNat (up tr (2 * ps i + py i) (-1)) := by
  rw [show (i + 1).toNat = i.toNat + 1 by omega]
  show (if tr (2 * ps (i.toNat : Int) + py (i.toNat : Int)) < la (i.toNat : Int) then _ else _) = _
  rw [Int.toNat_of_nonneg hi, if_neg h]
/-- places and last codes are in range -/
def okL (ps py la : Int → Int) (d : Nat) : Prop := ∀ j : Int, 0 ≤ j → j < d → (0 ≤ ps j ∧ ps j < 4) ∧ (py j = 0 ∨ py j = 1) ∧ 0 ≤ la j ∧ la j < 16
theorem okC_up {c : Int → Int} (h : okC c) {i x : Int} (hx : -1 ≤ x ∧ x < 16) : okC (up c i x) := fun j h1 h2 => by
  unfold up
  split
  · exact hx
  · exact h j h1 h2
/-- whether the machine that was taken last has children -/
def chF (n : Int) (d : Nat) (o : Int) : Prop := o = 1 ∧ (d : Int) + 1 < 2 * n - 1 ∧ (d : Int) < 8
/-- the last code of a new place -/
def lcF (n : Int) (tr : Int → Int) : Int := 4 * min (gN tr 8 + 1) (n - 1) + 3
abbrev tT : Type := (Int → Int) × (Int → Int) × (Int → Int) × (Int → Int) × Nat × Int × Int
/-- moving on: answer; then codes, places, last codes, number, begun, ended. o, s, b: outcome, state and symbol of the machine taken last -/
noncomputable def mvF (n : Int) (tr ps py la : Int → Int) (d : Nat) (bg en o s b : Int) : Int × tT :=
  if ¬ en = 0 then (0, tr, ps, py, la, d, bg, en) else if bg = 0 then (1, up tr 0 7, ps, py, la, d, 1, en) else
  @ite _ (chF n d o) (Classical.propDecidable _) (1, up tr (2 * s + b) 0, up ps d s, up py d b, up la d (lcF n tr), d + 1, bg, en)
    ((nbF ps py la d tr).1, (nbF ps py la d tr).2.1, ps, py, la, (nbF ps py la d tr).2.2, bg, 1 - (nbF ps py la d tr).1)
theorem nbF_b (ps py la : Int → Int) : ∀ (d : Nat) (tr : Int → Int), (nbF ps py la d tr).1 = 0 ∨ (nbF ps py la d tr).1 = 1
  | 0, _ => Or.inl rfl
  | d + 1, tr => by
    unfold nbF
    split
    · exact Or.inr rfl
    · exact nbF_b ps py la d _
/-- a machine that halted is counted: how many, steps, most ones, the champion's steps, ones and codes -/
def cnF (tr be : Int → Int) (ha hsu mo bs bo st on : Int) : Int × Int × Int × Int × Int × (Int → Int) := (ha + 1, hsu + st, max mo on, if bs < st then st else bs, if bs < st then on else bo, if bs < st then tr else be)
abbrev tS : Type := Int × Int × Int × Int × Int × Int × Int × Int × (Int → Int)
/-- a machine is taken: open, halted, cycling, drifting; the halted ones' steps; the champion's steps and ones, most ones, the champion's codes -/
noncomputable def tkF (tr : Int → Int) (op ha cy df hsu bs bo mo : Int) (be : Int → Int) : tS :=
  if (runF tr 120 0).1 = 1 then (op, ha + 1, cy, df, hsu + ((runF tr 120 0).2.1 : Int), (if bs < ((runF tr 120 0).2.1 : Int) then ((runF tr 120 0).2.1 : Int) else bs), (if bs < ((runF tr 120 0).2.1 : Int) then sO tr (kF (runF tr 120 0)) else bo), max mo (sO tr (kF (runF tr 120 0))), (if bs < ((runF tr 120 0).2.1 : Int) then tr else be))
  else if (runF tr 120 0).1 = 2 then (op, ha, cy + 1, df, hsu, bs, bo, mo, be)
  else if (runF tr 120 0).1 = 3 then (op, ha, cy, df + 1, hsu, bs, bo, mo, be)
  else (op + 1, ha, cy, df, hsu, bs, bo, mo, be)
theorem runF_b (c : Int → Int) : ∀ (f k : Nat), (0 ≤ (runF c f k).1 ∧ (runF c f k).1 ≤ 3) ∧ k ≤ (runF c f k).2.1 ∧ (runF c f k).2.1 ≤ k + f ∧ ((runF c f k).1 = 1 → k < (runF c f k).2.1)
  | 0, k => ⟨⟨Int.le_refl 0, by show (0 : Int) ≤ 3; decide⟩, Nat.le_refl k, Nat.le_refl k, fun h => absurd h (by show ¬ (0 : Int) = 1; decide)⟩
  | f + 1, k => by
    unfold runF
    split
    · exact ⟨⟨by show (0 : Int) ≤ 1; decide, by show (1 : Int) ≤ 3; decide⟩, Nat.le_succ k, by show k + 1 ≤ k + (f + 1); omega, fun _ => Nat.lt_succ_self k⟩
    · split
      · exact ⟨⟨by show (0 : Int) ≤ 2; decide, by show (2 : Int) ≤ 3; decide⟩, Nat.le_succ k, by show k + 1 ≤ k + (f + 1); omega, fun _ => Nat.lt_succ_self k⟩
      · split
        · exact ⟨⟨by show (0 : Int) ≤ 3; decide, by show (3 : Int) ≤ 3; decide⟩, Nat.le_succ k, by show k + 1 ≤ k + (f + 1); omega, fun _ => Nat.lt_succ_self k⟩
        · have h := runF_b c f (k + 1)
          exact ⟨h.1, by omega, by omega, fun q => by have := h.2.2.2 q; omega⟩
theorem kF_b (c : Int → Int) (L : Nat) : kF (runF c L 0) ≤ L ∧ (kF (runF c L 0) ≤ (runF c L 0).2.1) := by
  have h := runF_b c L 0
  unfold kF
  split <;> omega
section RT
variable {p : Program} {l : Launch} {e : Env} {R : Room} {s : State} {m : MethodId} {args : Array Value} {below : List Frame} {meth : Method} {c : Code} {H : Heap} {locs : List Loc} {cells slots : Nat} {Q : State → Prop}
variable {cc : ByteArray} {pc : Nat} {ls : Array Slot} {rest : List Value}
theorem ri_tabIn (hexec : p.tables.exec = Jvm.exec) (hb : c.code = cc) {dflt lo hi : Int} {offs : Array Int} {len : Nat} {a v : Int} {off : Int} {tgt : Nat} (hav : a = v) (hv : -2147483648 ≤ v ∧ v < 2147483648) (hdg : decode cc pc = .ok (.tableswitch dflt lo hi offs, len)) (h1 : lo ≤ v ∧ v ≤ hi) (ho : offs[(v - lo).toNat]? = some off) (ht : (pc : Int) + off = (tgt : Int))
    (k : W p l e R s m args below meth c H locs cells slots Q (F0 m tgt ls rest)) : W p l e R s m args below meth c H locs cells slots Q (F0 m pc ls (.int (iI a) :: rest)) := by
  subst hav
  exact lv_tableIn hexec hb hdg (by rw [iI_T hv]; omega) (by rw [iI_T hv]; omega) (by rw [iI_T hv]; exact ho) ht k
theorem ri_tabOut (hexec : p.tables.exec = Jvm.exec) (hb : c.code = cc) {dflt lo hi : Int} {offs : Array Int} {len : Nat} {a : Int} {tgt : Nat} (hv : -2147483648 ≤ a ∧ a < 2147483648) (hdg : decode cc pc = .ok (.tableswitch dflt lo hi offs, len)) (h1 : a < lo ∨ hi < a) (ht : (pc : Int) + dflt = (tgt : Int))
    (k : W p l e R s m args below meth c H locs cells slots Q (F0 m tgt ls rest)) : W p l e R s m args below meth c H locs cells slots Q (F0 m pc ls (.int (iI a) :: rest)) := lv_tableOut hexec hb hdg (by rw [iI_T hv]; exact h1) ht k
end RT
/-- addresses by a list -/
def adr (l : List Nat) (i : Nat) : Nat := l.getD i 0
