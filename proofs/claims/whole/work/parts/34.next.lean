/-! GROWING: a step of the class's tree and of the tree itself -/
theorem nbF_ok (ps py la : Int → Int) : ∀ (d : Nat) (tr : Int → Int), okC tr → okL ps py la d → d ≤ 7 → okC (nbF ps py la d tr).2.1 ∧ (nbF ps py la d tr).2.2 ≤ d
  | 0, tr, hc, _, _ => ⟨hc, Nat.le_refl 0⟩
  | d + 1, tr, hc, hL, h7 => by
    have hl := hL d (by omega) (by omega)
    have hcp := hc (2 * ps d + py d) (by omega) (by omega)
    unfold nbF
    by_cases q : tr (2 * ps d + py d) < la d
    · rw [if_pos q]
      exact ⟨okC_up hc (by omega), Nat.le_refl _⟩
    · rw [if_neg q]
      have h := nbF_ok ps py la d (up tr (2 * ps d + py d) (-1)) (okC_up hc (by omega)) (okL_le hL (by omega)) (by omega)
      exact ⟨h.1, by omega⟩
theorem clR_no {n : Int} {ctr cps cpy cla : Int → Int} {cd : Nat} {bg en o sta hd : Int} {t : Int → Int} {G : gT} (h : clR n ctr cps cpy cla cd bg en o sta hd t G) (h0 : (mvF n ctr cps cpy cla cd bg en o sta (t hd)).1 = 0) :
    clR n (mvF n ctr cps cpy cla cd bg en o sta (t hd)).2.1 (mvF n ctr cps cpy cla cd bg en o sta (t hd)).2.2.1 (mvF n ctr cps cpy cla cd bg en o sta (t hd)).2.2.2.1 (mvF n ctr cps cpy cla cd bg en o sta (t hd)).2.2.2.2.1 (mvF n ctr cps cpy cla cd bg en o sta (t hd)).2.2.2.2.2.1 (mvF n ctr cps cpy cla cd bg en o sta (t hd)).2.2.2.2.2.2.1 (mvF n ctr cps cpy cla cd bg en o sta (t hd)).2.2.2.2.2.2.2 o sta hd t G := by
  obtain ⟨a1, a2, a3, a4, a5, a6, a7, a8, a9⟩ := h
  have hov : G.2.2.2.2.2.1 = 1 := by omega
  have key : okC (mvF n ctr cps cpy cla cd bg en o sta (t hd)).2.1 ∧ okL (mvF n ctr cps cpy cla cd bg en o sta (t hd)).2.2.1 (mvF n ctr cps cpy cla cd bg en o sta (t hd)).2.2.2.1 (mvF n ctr cps cpy cla cd bg en o sta (t hd)).2.2.2.2.1 (mvF n ctr cps cpy cla cd bg en o sta (t hd)).2.2.2.2.2.1 ∧ (mvF n ctr cps cpy cla cd bg en o sta (t hd)).2.2.2.2.2.1 ≤ cd ∧ ((mvF n ctr cps cpy cla cd bg en o sta (t hd)).2.2.2.2.2.2.1 = bg) ∧ (mvF n ctr cps cpy cla cd bg en o sta (t hd)).2.2.2.2.2.2.2 = 1 := by
    unfold mvF at h0 ⊢
    by_cases q1 : ¬ en = 0
    · rw [if_pos q1]
      exact ⟨a1, a2, Nat.le_refl _, rfl, by show en = 1; omega⟩
    · rw [if_neg q1] at h0 ⊢
      by_cases q2 : bg = 0
      · rw [if_pos q2] at h0
        exact absurd h0 (by show ¬ (1 : Int) = 0; decide)
      · rw [if_neg q2] at h0 ⊢
        by_cases q3 : chF n cd o
        · rw [if_pos q3] at h0
          exact absurd h0 (by show ¬ (1 : Int) = 0; decide)
        · rw [if_neg q3] at h0 ⊢
          have hk := nbF_ok cps cpy cla cd ctr a1 a2 a3
          have h0' : (nbF cps cpy cla cd ctr).1 = 0 := h0
          exact ⟨hk.1, okL_le a2 hk.2, hk.2, rfl, by show 1 - (nbF cps cpy cla cd ctr).1 = 1; omega⟩
  obtain ⟨k1, k2, k3, k4, k5⟩ := key
  refine ⟨k1, k2, by omega, ⟨by rw [k4]; exact a4.1, Or.inr k5⟩, a5, a6, a7, ?_, fun z => absurd z (by omega)⟩
  rw [mvF_0 (by rw [k5]; decide), hov]
  decide
theorem clR_next {n : Int} {G : gT} (hn : 2 ≤ n ∧ n ≤ 4) (hw : wfG n G) (h0 : G.2.2.2.2.2.1 = 0) (ha : alive G.1 (kF (runF G.1 120 0))) :
    clR n G.1 G.2.1 G.2.2.1 G.2.2.2.1 G.2.2.2.2.1 1 0 (runF G.1 120 0).1 (sS G.1 (kF (runF G.1 120 0))) (sH G.1 (kF (runF G.1 120 0))) (sT G.1 (kF (runF G.1 120 0))) (stG n G) ∧ wfG n (stG n G) := by
  obtain ⟨tr, ps, py, la, d, ov, op, ha2, cy, df, hsu, bs, bo, mo, be⟩ := G
  obtain ⟨w1, w2, w3, w4, w5⟩ := hw
  have wf := w2 h0
  dsimp only at h0 ha wf w3 w4 w5 ⊢
  have rb := runF_b tr 120 0
  have kb := kF_b tr 120
  have hs := sS_b wf.1 _ ha
  have hh := sH_b tr (kF (runF tr 120 0))
  have d6 := wfT_d hn wf
  have m01 := mvF_b n tr ps py la d 1 0 (runF tr 120 0).1 (sS tr (kF (runF tr 120 0))) (sT tr (kF (runF tr 120 0)) (sH tr (kF (runF tr 120 0))))
  have a01 : (adF n tr ps py la d).1 = 0 ∨ (adF n tr ps py la d).1 = 1 := m01
  have tb := tkF_b (tr := tr) (op := op) (cy := cy) (df := df) (hsu := hsu) (bo := bo) (be := be) w3 w4 w5
  refine ⟨⟨wf.1, wf.2.1, by omega, ⟨Or.inr rfl, Or.inl rfl⟩, by omega, sT_01 tr _, fun j hj => sT_out tr _ j (by omega), ?_, fun z => ?_⟩, ?_, fun z => ?_, ?_, tb.2.1, tb.2.2⟩
  · show (adF n tr ps py la d).1 = 1 - (1 - (adF n tr ps py la d).1)
    omega
  · have z' : 1 - (adF n tr ps py la d).1 = 0 := z
    have h := adF_wf hn wf ha (by omega)
    show (adF n tr ps py la d).2 = ((adF n tr ps py la d).2.1, (adF n tr ps py la d).2.2.1, (adF n tr ps py la d).2.2.2.1, (adF n tr ps py la d).2.2.2.2.1, (adF n tr ps py la d).2.2.2.2.2.1, 1, 0)
    rw [← h.2.1, ← h.2.2]
  · show 1 - (adF n tr ps py la d).1 = 0 ∨ 1 - (adF n tr ps py la d).1 = 1
    omega
  · have z' : 1 - (adF n tr ps py la d).1 = 0 := z
    exact (adF_wf hn wf ha (by omega)).1
  · show 0 ≤ (tkF tr op ha2 cy df hsu bs bo mo be).2.1
    omega
theorem grG_y {n : Int} {f : Nat} {G : gT} (h : G.2.2.2.2.2.1 = 0) : grG n (f + 1) G = ((grG n f (stG n G)).1 + 1, (grG n f (stG n G)).2) := by
  show (if _ then _ else _) = _
  rw [if_pos h]
theorem grG_n {n : Int} {f : Nat} {G : gT} (h : ¬ G.2.2.2.2.2.1 = 0) : grG n (f + 1) G = (0, G) := by
  show (if _ then _ else _) = _
  rw [if_neg h]
