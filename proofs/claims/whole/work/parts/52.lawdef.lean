/-! THE LAW: its world and what holds at the head of its loop -/
def lawC (p : Program) (l : Launch) (s : State) (m : MethodId) (c : Code) (g : va_G) (k : kT) (b L : Nat) (xs : Nat → Int32) (A : Nat → Prop) : Prop := l.stackTraces = false ∧ p.tables.exec = Jvm.exec ∧ c.code = code ∧ c.maxLocals = 8 ∧ s.vm.findClass RL = some m.cls ∧ (∀ w ∈ wsL_law, w.before ([Value.ref b] : List Value).toArray s = true) ∧ va_X b L xs s s.heap ∧ b < s.heap.size ∧ L ≤ 2049 ∧ gK g k s ∧ gE s ∧ lG s ∧ gH A s s.heap ∧ ¬ A b ∧ ∀ q, s.heap.size ≤ q → A q
def lawI (k : kT) (z x y : Nat → Nat) (oa od : Nat) (n : Int) (q : Nat) (u : va_W) : Prop := ∃ (cs : Int → Int) (wk : Int) (o : Int) (st : Int) (pe : Int) (dr : Int) (sta : Int) (hd : Int) (on : Int) (lf : Int) (rt : Int) (t : Int → Int) (tps : Nat → Int64) (hs : Int → Int) (ss : Int → Int) (sd : Int → Int) (G : gT) (ctr1 : Int → Int) (cps1 : Int → Int) (cpy1 : Int → Int) (cla1 : Int → Int) (cd1 : Nat) (bg1 : Int) (en1 : Int) (o1 : Int) (st1 : Int) (pe1 : Int) (dr1 : Int) (sta1 : Int) (hd1 : Int) (on1 : Int) (lf1 : Int) (rt1 : Int) (t1 : Int → Int) (tps1 : Nat → Int64) (hs1 : Int → Int) (ss1 : Int → Int) (sd1 : Int → Int) (thr : Int) (st3 : Int) (pe3 : Int) (dr3 : Int) (lf3 : Int) (rt3 : Int) (dp : Int) (trr : Int → Int) (T3 : Int → Int) (B3 : Int → Int) (ss3 : Int → Int) (hs3 : Int → Int) (rc3 : Int → Int) (ch3 : Int → Int) (fi : Int → Int) (ke : Int → Int) (ol : Nat → Int64) (fd : Nat → UInt64), u = [((z 0), .inr (3, [.ref (z 1), .ref (z 3), .ref (x 0), .int (iI wk)])), ((z 1), .inr (0, [.int (iI n), .ref (z 2)])), ((z 2), .inl (k.1, 8, .inl (iF cs))), ((z 3), .inr (2, [.int (iI 300), .int (iI 10), .ref (z 4), .ref (z 5), .ref (z 6), .ref (z 7), .ref (z 8), .int (iI o), .int (iI st), .int (iI pe), .int (iI dr), .int (iI sta), .int (iI hd), .int (iI on), .int (iI lf), .int (iI rt)])), ((z 4), .inl (k.2.1, 10, .inr (.inl (bW 300 t)))), ((z 5), .inl (k.2.1, 3010, .inr (.inl tps))), ((z 6), .inl (k.1, 301, .inl (iF hs))), ((z 7), .inl (k.1, 301, .inl (iF ss))), ((z 8), .inl (k.1, 301, .inl (iF sd))), ((x 0), .inr (1, [.int (iI n), .ref (x 1), .ref (x 8), .ref (x 5), .ref (x 6), .ref (x 7), .int (iI (cd1 : Int)), .int (iI bg1), .int (iI en1), .ref (x 3), .int (iI G.2.2.2.2.2.2.2.2.2.2.2.1), .int (iI G.2.2.2.2.2.2.2.2.2.2.2.2.1), .int (iI G.2.2.2.2.2.2.2.2.2.2.2.2.2.1), .int (iI G.2.2.2.2.2.2.1), .int (iI G.2.2.2.2.2.2.2.1), .int (iI G.2.2.2.2.2.2.2.2.1), .int (iI G.2.2.2.2.2.2.2.2.2.1), .int (iI G.2.2.2.2.2.2.2.2.2.2.1)])), ((x 1), .inr (0, [.int (iI n), .ref (x 2)])), ((x 2), .inl (k.1, 8, .inl (iF ctr1))), ((x 3), .inr (0, [.int (iI n), .ref (x 4)])), ((x 4), .inl (k.1, 8, .inl (iF G.2.2.2.2.2.2.2.2.2.2.2.2.2.2))), ((x 5), .inl (k.1, 8, .inl (iF cps1))), ((x 6), .inl (k.1, 8, .inl (iF cpy1))), ((x 7), .inl (k.1, 8, .inl (iF cla1))), ((x 8), .inr (2, [.int (iI 120), .int (iI 4), .ref (x 9), .ref (x 10), .ref (x 11), .ref (x 12), .ref (x 13), .int (iI o1), .int (iI st1), .int (iI pe1), .int (iI dr1), .int (iI sta1), .int (iI hd1), .int (iI on1), .int (iI lf1), .int (iI rt1)])), ((x 9), .inl (k.2.1, 4, .inr (.inl (bW 120 t1)))), ((x 10), .inl (k.2.1, 484, .inr (.inl tps1))), ((x 11), .inl (k.1, 121, .inl (iF hs1))), ((x 12), .inl (k.1, 121, .inl (iF ss1))), ((x 13), .inl (k.1, 121, .inl (iF sd1))), ((y 0), .inr (4, [.int (iI thr), .int (iI n), .ref (y 1), .ref (y 2), .ref (y 3), .ref (y 4), .ref (y 5), .ref (y 6), .ref (y 7), .ref (y 8), .ref (y 9), .int (iI st3), .int (iI pe3), .int (iI dr3), .int (iI lf3), .int (iI rt3), .int (iI wk), .ref (y 10), .ref (y 11), .int (iI dp), .ref (y 12), .ref (y 13), .int (iI G.2.2.2.2.2.1), .ref (y 14), .int (iI G.2.2.2.2.2.2.2.2.2.2.2.1), .int (iI G.2.2.2.2.2.2.2.2.2.2.2.2.1), .int (iI G.2.2.2.2.2.2.2.2.2.2.2.2.2.1), .int (iI G.2.2.2.2.2.2.2.2.2.2.1)])), ((y 1), .inl (k.1, 8, .inl (iF cs))), ((y 2), .inl (k.1, 8, .inl (iF trr))), ((y 3), .inl (k.1, 8, .inl (iF G.2.2.2.2.2.2.2.2.2.2.2.2.2.2))), ((y 4), .inl (k.1, 620, .inl (iF T3))), ((y 5), .inl (k.1, 620, .inl (iF B3))), ((y 6), .inl (k.1, 301, .inl (iF ss3))), ((y 7), .inl (k.1, 301, .inl (iF hs3))), ((y 8), .inl (k.1, 301, .inl (iF rc3))), ((y 9), .inl (k.1, 301, .inl (iF ch3))), ((y 10), .inl (k.1, 9, .inl (iF fi))), ((y 11), .inl (k.1, 620, .inl (iF ke))), ((y 12), .inl (k.1, 8, .inl (iF (plF G.2.1 G.2.2.1)))), ((y 13), .inl (k.1, 8, .inl (iF G.2.2.2.1))), ((y 14), .inl (k.1, 4, .inl (iF (coF G.2.2.2.2.2.2.1 G.2.2.2.2.2.2.2.1 G.2.2.2.2.2.2.2.2.1 G.2.2.2.2.2.2.2.2.2.1)))), (oa, .inl (k.2.1, 1, .inr (.inl ol))), (od, .inl (k.2.2, 1, .inr (.inr (.inr (.inl fd)))))] ∧ okC cs ∧ (wk = 0 ∨ wk = 1) ∧ (∀ j, t j = 0 ∨ t j = 1) ∧ (∀ j, (j < -300 ∨ 300 < j) → t j = 0) ∧ (-1000 ≤ lf ∧ lf ≤ rt ∧ rt ≤ 1000) ∧ (wk = 1 → fi = figF o st pe dr sta hd on lf rt ∧ ke = tpM t) ∧ wfG n G ∧ clR n ctr1 cps1 cpy1 cla1 cd1 bg1 en1 o1 sta1 hd1 t1 G ∧ ((dp = -1 ∧ up trr 0 7 = G.1 ∧ G.2.2.2.2.1 = 0) ∨ (dp = (G.2.2.2.2.1 : Int) ∧ trr = G.1)) ∧ G.2.2.2.2.1 ≤ 7 ∧ G.2.2.2.2.2.2.2.1 ≤ 40 * (q : Int)
theorem nbF_le (ps py la : Int → Int) : ∀ (d : Nat) (tr : Int → Int), (nbF ps py la d tr).2.2 ≤ d
  | 0, _ => Nat.le_refl 0
  | d + 1, tr => by
    unfold nbF
    split
    · exact Nat.le_refl _
    · exact Nat.le_succ_of_le (nbF_le ps py la d _)
theorem tkF_ha {tr : Int → Int} {op ha cy df hsu bs bo mo : Int} {be : Int → Int} : (tkF tr op ha cy df hsu bs bo mo be).2.1 ≤ ha + 1 := by
  unfold tkF
  split
  · exact Int.le_refl _
  · split
    · show ha ≤ ha + 1; omega
    · split <;> (show ha ≤ ha + 1; omega)
theorem stG_b {n : Int} (hn : 2 ≤ n ∧ n ≤ 4) (G : gT) (h : G.2.2.2.2.1 ≤ 7) : (stG n G).2.2.2.2.1 ≤ 7 ∧ (stG n G).2.2.2.2.2.2.2.1 ≤ G.2.2.2.2.2.2.2.1 + 1 := by
  obtain ⟨tr, ps, py, la, d, ov, op, ha, cy, df, hsu, bs, bo, mo, be⟩ := G
  refine ⟨?_, tkF_ha⟩
  show (adF n tr ps py la d).2.2.2.2.2.1 ≤ 7
  by_cases q : chF n d (runF tr 120 0).1
  · rw [adF_c q]
    show d + 1 ≤ 7
    have := q.2.1
    omega
  · rw [adF_n q]
    have h1 := nbF_le ps py la d tr
    have h2 : d ≤ 7 := h
    show (nbF ps py la d tr).2.2 ≤ 7
    omega
theorem grG_b {n : Int} (hn : 2 ≤ n ∧ n ≤ 4) : ∀ (f : Nat) (G : gT), G.2.2.2.2.1 ≤ 7 → (grG n f G).2.2.2.2.2.1 ≤ 7 ∧ (grG n f G).2.2.2.2.2.2.2.2.1 ≤ G.2.2.2.2.2.2.2.1 + f
  | 0, G, h => ⟨h, by show G.2.2.2.2.2.2.2.1 ≤ G.2.2.2.2.2.2.2.1 + ((0 : Nat) : Int); omega⟩
  | f + 1, G, h => by
    have h1 := stG_b hn G h
    have h2 := grG_b hn f (stG n G) h1.1
    by_cases q : G.2.2.2.2.2.1 = 0
    · rw [grG_y q]
      refine ⟨h2.1, ?_⟩
      show (grG n f (stG n G)).2.2.2.2.2.2.2.2.1 ≤ G.2.2.2.2.2.2.2.1 + ((f + 1 : Nat) : Int)
      omega
    · rw [grG_n q]
      refine ⟨h, ?_⟩
      show G.2.2.2.2.2.2.2.1 ≤ G.2.2.2.2.2.2.2.1 + ((f + 1 : Nat) : Int)
      omega
