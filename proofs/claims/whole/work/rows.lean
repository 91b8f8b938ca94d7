section
-- ===== PART A: goes FIRST, ahead of the names: the tables' words, and 'selects' of the private methods out of them =====
/-- a private method of a class that the tables say can be made, by its rows of tables_1 -/
def lw_okq (q : MethodName × Nat) : Prop := (q.1.cls ≠ "java/lang/invoke/MethodHandle" ∧ q.1.cls ≠ "java/lang/invoke/VarHandle") ∧ Cond.instantiable q.1.cls q.2 ∈ tables_1 ∧ Cond.privateMethod q.1 ∈ tables_1 ∧ Cond.instanceMethod q.1 ∈ tables_1
theorem lw_p0 : lw_okq (⟨"java/lang/Throwable", "fillInStackTrace", "(I)Ljava/lang/Throwable;"⟩, 6) := ⟨⟨by decide +kernel, by decide +kernel⟩, List.mem_of_getElem? (i := 257) (by decide +kernel), List.mem_of_getElem? (i := 255) (by decide +kernel), List.mem_of_getElem? (i := 256) (by decide +kernel)⟩
theorem lw_p1 : lw_okq (⟨"MachineTree$Walk", "begin", "()V"⟩, 16) := ⟨⟨by decide +kernel, by decide +kernel⟩, List.mem_of_getElem? (i := 46) (by decide +kernel), List.mem_of_getElem? (i := 312) (by decide +kernel), List.mem_of_getElem? (i := 313) (by decide +kernel)⟩
theorem lw_p2 : lw_okq (⟨"MachineTree$Walk", "note", "(I)V"⟩, 16) := ⟨⟨by decide +kernel, by decide +kernel⟩, List.mem_of_getElem? (i := 46) (by decide +kernel), List.mem_of_getElem? (i := 319) (by decide +kernel), List.mem_of_getElem? (i := 320) (by decide +kernel)⟩
theorem lw_p3 : lw_okq (⟨"MachineTree$Walk", "symbolIn", "([JII)I"⟩, 16) := ⟨⟨by decide +kernel, by decide +kernel⟩, List.mem_of_getElem? (i := 46) (by decide +kernel), List.mem_of_getElem? (i := 330) (by decide +kernel), List.mem_of_getElem? (i := 331) (by decide +kernel)⟩
theorem lw_p4 : lw_okq (⟨"MachineTree$Walk", "act", "(I)V"⟩, 16) := ⟨⟨by decide +kernel, by decide +kernel⟩, List.mem_of_getElem? (i := 46) (by decide +kernel), List.mem_of_getElem? (i := 335) (by decide +kernel), List.mem_of_getElem? (i := 336) (by decide +kernel)⟩
theorem lw_p5 : lw_okq (⟨"MachineTree$Walk", "write", "(I)V"⟩, 16) := ⟨⟨by decide +kernel, by decide +kernel⟩, List.mem_of_getElem? (i := 46) (by decide +kernel), List.mem_of_getElem? (i := 339) (by decide +kernel), List.mem_of_getElem? (i := 340) (by decide +kernel)⟩
theorem lw_p6 : lw_okq (⟨"MachineTree$Walk", "look", "()V"⟩, 16) := ⟨⟨by decide +kernel, by decide +kernel⟩, List.mem_of_getElem? (i := 46) (by decide +kernel), List.mem_of_getElem? (i := 343) (by decide +kernel), List.mem_of_getElem? (i := 344) (by decide +kernel)⟩
theorem lw_p7 : lw_okq (⟨"MachineTree$Walk", "latestSame", "()I"⟩, 16) := ⟨⟨by decide +kernel, by decide +kernel⟩, List.mem_of_getElem? (i := 46) (by decide +kernel), List.mem_of_getElem? (i := 347) (by decide +kernel), List.mem_of_getElem? (i := 348) (by decide +kernel)⟩
theorem lw_p8 : lw_okq (⟨"MachineTree$Walk", "sameTape", "(I)Z"⟩, 16) := ⟨⟨by decide +kernel, by decide +kernel⟩, List.mem_of_getElem? (i := 46) (by decide +kernel), List.mem_of_getElem? (i := 351) (by decide +kernel), List.mem_of_getElem? (i := 352) (by decide +kernel)⟩
theorem lw_p9 : lw_okq (⟨"MachineTree$Walk", "latestDrift", "()I"⟩, 16) := ⟨⟨by decide +kernel, by decide +kernel⟩, List.mem_of_getElem? (i := 46) (by decide +kernel), List.mem_of_getElem? (i := 355) (by decide +kernel), List.mem_of_getElem? (i := 356) (by decide +kernel)⟩
theorem lw_p10 : lw_okq (⟨"MachineTree$Walk", "sameBehind", "(III)Z"⟩, 16) := ⟨⟨by decide +kernel, by decide +kernel⟩, List.mem_of_getElem? (i := 46) (by decide +kernel), List.mem_of_getElem? (i := 359) (by decide +kernel), List.mem_of_getElem? (i := 360) (by decide +kernel)⟩
theorem lw_p11 : lw_okq (⟨"MachineTree", "needWalk", "()V"⟩, 4) := ⟨⟨by decide +kernel, by decide +kernel⟩, List.mem_of_getElem? (i := 15) (by decide +kernel), List.mem_of_getElem? (i := 372) (by decide +kernel), List.mem_of_getElem? (i := 373) (by decide +kernel)⟩
theorem lw_p12 : lw_okq (⟨"MachineTree$Tree", "moveOn", "()Z"⟩, 18) := ⟨⟨by decide +kernel, by decide +kernel⟩, List.mem_of_getElem? (i := 118) (by decide +kernel), List.mem_of_getElem? (i := 419) (by decide +kernel), List.mem_of_getElem? (i := 420) (by decide +kernel)⟩
theorem lw_p13 : lw_okq (⟨"MachineTree$Tree", "hasChildren", "()Z"⟩, 18) := ⟨⟨by decide +kernel, by decide +kernel⟩, List.mem_of_getElem? (i := 118) (by decide +kernel), List.mem_of_getElem? (i := 424) (by decide +kernel), List.mem_of_getElem? (i := 425) (by decide +kernel)⟩
theorem lw_p14 : lw_okq (⟨"MachineTree$Tree", "toFirstChild", "()V"⟩, 18) := ⟨⟨by decide +kernel, by decide +kernel⟩, List.mem_of_getElem? (i := 118) (by decide +kernel), List.mem_of_getElem? (i := 428) (by decide +kernel), List.mem_of_getElem? (i := 429) (by decide +kernel)⟩
theorem lw_p15 : lw_okq (⟨"MachineTree$Tree", "toNextBranch", "()Z"⟩, 18) := ⟨⟨by decide +kernel, by decide +kernel⟩, List.mem_of_getElem? (i := 118) (by decide +kernel), List.mem_of_getElem? (i := 439) (by decide +kernel), List.mem_of_getElem? (i := 440) (by decide +kernel)⟩
def lw_privs_1 : List (MethodName × Nat) := [(⟨"java/lang/Throwable", "fillInStackTrace", "(I)Ljava/lang/Throwable;"⟩, 6), (⟨"MachineTree$Walk", "begin", "()V"⟩, 16), (⟨"MachineTree$Walk", "note", "(I)V"⟩, 16), (⟨"MachineTree$Walk", "symbolIn", "([JII)I"⟩, 16), (⟨"MachineTree$Walk", "act", "(I)V"⟩, 16), (⟨"MachineTree$Walk", "write", "(I)V"⟩, 16), (⟨"MachineTree$Walk", "look", "()V"⟩, 16), (⟨"MachineTree$Walk", "latestSame", "()I"⟩, 16), (⟨"MachineTree$Walk", "sameTape", "(I)Z"⟩, 16), (⟨"MachineTree$Walk", "latestDrift", "()I"⟩, 16), (⟨"MachineTree$Walk", "sameBehind", "(III)Z"⟩, 16), (⟨"MachineTree", "needWalk", "()V"⟩, 4), (⟨"MachineTree$Tree", "moveOn", "()Z"⟩, 18), (⟨"MachineTree$Tree", "hasChildren", "()Z"⟩, 18), (⟨"MachineTree$Tree", "toFirstChild", "()V"⟩, 18), (⟨"MachineTree$Tree", "toNextBranch", "()Z"⟩, 18)]
theorem lw_r1 : ∀ q ∈ lw_privs_1, lw_okq q := List.forall_mem_cons.mpr ⟨lw_p0, List.forall_mem_cons.mpr ⟨lw_p1, List.forall_mem_cons.mpr ⟨lw_p2, List.forall_mem_cons.mpr ⟨lw_p3, List.forall_mem_cons.mpr ⟨lw_p4, List.forall_mem_cons.mpr ⟨lw_p5, List.forall_mem_cons.mpr ⟨lw_p6, List.forall_mem_cons.mpr ⟨lw_p7, List.forall_mem_cons.mpr ⟨lw_p8, List.forall_mem_cons.mpr ⟨lw_p9, List.forall_mem_cons.mpr ⟨lw_p10, List.forall_mem_cons.mpr ⟨lw_p11, List.forall_mem_cons.mpr ⟨lw_p12, List.forall_mem_cons.mpr ⟨lw_p13, List.forall_mem_cons.mpr ⟨lw_p14, List.forall_mem_cons.mpr ⟨lw_p15, fun _ h => absurd h List.not_mem_nil⟩⟩⟩⟩⟩⟩⟩⟩⟩⟩⟩⟩⟩⟩⟩⟩
theorem lw_p16 : lw_okq (⟨"MachineTree$Tree", "countHalted", "()V"⟩, 18) := ⟨⟨by decide +kernel, by decide +kernel⟩, List.mem_of_getElem? (i := 118) (by decide +kernel), List.mem_of_getElem? (i := 445) (by decide +kernel), List.mem_of_getElem? (i := 446) (by decide +kernel)⟩
theorem lw_p17 : lw_okq (⟨"MachineTreeModel", "refuse", "(I)I"⟩, 28) := ⟨⟨by decide +kernel, by decide +kernel⟩, List.mem_of_getElem? (i := 479) (by decide +kernel), List.mem_of_getElem? (i := 578) (by decide +kernel), List.mem_of_getElem? (i := 579) (by decide +kernel)⟩
theorem lw_p18 : lw_okq (⟨"MachineTreeModel", "outcome", "([II)I"⟩, 28) := ⟨⟨by decide +kernel, by decide +kernel⟩, List.mem_of_getElem? (i := 479) (by decide +kernel), List.mem_of_getElem? (i := 586) (by decide +kernel), List.mem_of_getElem? (i := 587) (by decide +kernel)⟩
theorem lw_p19 : lw_okq (⟨"MachineTreeModel", "begin", "()V"⟩, 28) := ⟨⟨by decide +kernel, by decide +kernel⟩, List.mem_of_getElem? (i := 479) (by decide +kernel), List.mem_of_getElem? (i := 590) (by decide +kernel), List.mem_of_getElem? (i := 591) (by decide +kernel)⟩
theorem lw_p20 : lw_okq (⟨"MachineTreeModel", "step", "([I)Z"⟩, 28) := ⟨⟨by decide +kernel, by decide +kernel⟩, List.mem_of_getElem? (i := 479) (by decide +kernel), List.mem_of_getElem? (i := 594) (by decide +kernel), List.mem_of_getElem? (i := 595) (by decide +kernel)⟩
theorem lw_p21 : lw_okq (⟨"MachineTreeModel", "cycles", "()Z"⟩, 28) := ⟨⟨by decide +kernel, by decide +kernel⟩, List.mem_of_getElem? (i := 479) (by decide +kernel), List.mem_of_getElem? (i := 598) (by decide +kernel), List.mem_of_getElem? (i := 599) (by decide +kernel)⟩
theorem lw_p22 : lw_okq (⟨"MachineTreeModel", "drifts", "()Z"⟩, 28) := ⟨⟨by decide +kernel, by decide +kernel⟩, List.mem_of_getElem? (i := 479) (by decide +kernel), List.mem_of_getElem? (i := 602) (by decide +kernel), List.mem_of_getElem? (i := 603) (by decide +kernel)⟩
theorem lw_p23 : lw_okq (⟨"MachineTreeModel", "alike", "(III)Z"⟩, 28) := ⟨⟨by decide +kernel, by decide +kernel⟩, List.mem_of_getElem? (i := 479) (by decide +kernel), List.mem_of_getElem? (i := 606) (by decide +kernel), List.mem_of_getElem? (i := 607) (by decide +kernel)⟩
theorem lw_p24 : lw_okq (⟨"MachineTreeModel", "ones", "()I"⟩, 28) := ⟨⟨by decide +kernel, by decide +kernel⟩, List.mem_of_getElem? (i := 479) (by decide +kernel), List.mem_of_getElem? (i := 610) (by decide +kernel), List.mem_of_getElem? (i := 611) (by decide +kernel)⟩
theorem lw_p25 : lw_okq (⟨"MachineTreeModel", "take", "()V"⟩, 28) := ⟨⟨by decide +kernel, by decide +kernel⟩, List.mem_of_getElem? (i := 479) (by decide +kernel), List.mem_of_getElem? (i := 630) (by decide +kernel), List.mem_of_getElem? (i := 631) (by decide +kernel)⟩
theorem lw_p26 : lw_okq (⟨"MachineTreeModel", "actions", "()I"⟩, 28) := ⟨⟨by decide +kernel, by decide +kernel⟩, List.mem_of_getElem? (i := 479) (by decide +kernel), List.mem_of_getElem? (i := 634) (by decide +kernel), List.mem_of_getElem? (i := 635) (by decide +kernel)⟩
theorem lw_p27 : lw_okq (⟨"MachineTreeModel", "greatest", "()I"⟩, 28) := ⟨⟨by decide +kernel, by decide +kernel⟩, List.mem_of_getElem? (i := 479) (by decide +kernel), List.mem_of_getElem? (i := 638) (by decide +kernel), List.mem_of_getElem? (i := 639) (by decide +kernel)⟩
theorem lw_p28 : lw_okq (⟨"MachineTreeModel", "goOn", "()V"⟩, 28) := ⟨⟨by decide +kernel, by decide +kernel⟩, List.mem_of_getElem? (i := 479) (by decide +kernel), List.mem_of_getElem? (i := 642) (by decide +kernel), List.mem_of_getElem? (i := 643) (by decide +kernel)⟩
def lw_privs_2 : List (MethodName × Nat) := [(⟨"MachineTree$Tree", "countHalted", "()V"⟩, 18), (⟨"MachineTreeModel", "refuse", "(I)I"⟩, 28), (⟨"MachineTreeModel", "outcome", "([II)I"⟩, 28), (⟨"MachineTreeModel", "begin", "()V"⟩, 28), (⟨"MachineTreeModel", "step", "([I)Z"⟩, 28), (⟨"MachineTreeModel", "cycles", "()Z"⟩, 28), (⟨"MachineTreeModel", "drifts", "()Z"⟩, 28), (⟨"MachineTreeModel", "alike", "(III)Z"⟩, 28), (⟨"MachineTreeModel", "ones", "()I"⟩, 28), (⟨"MachineTreeModel", "take", "()V"⟩, 28), (⟨"MachineTreeModel", "actions", "()I"⟩, 28), (⟨"MachineTreeModel", "greatest", "()I"⟩, 28), (⟨"MachineTreeModel", "goOn", "()V"⟩, 28)]
theorem lw_r2 : ∀ q ∈ lw_privs_2, lw_okq q := List.forall_mem_cons.mpr ⟨lw_p16, List.forall_mem_cons.mpr ⟨lw_p17, List.forall_mem_cons.mpr ⟨lw_p18, List.forall_mem_cons.mpr ⟨lw_p19, List.forall_mem_cons.mpr ⟨lw_p20, List.forall_mem_cons.mpr ⟨lw_p21, List.forall_mem_cons.mpr ⟨lw_p22, List.forall_mem_cons.mpr ⟨lw_p23, List.forall_mem_cons.mpr ⟨lw_p24, List.forall_mem_cons.mpr ⟨lw_p25, List.forall_mem_cons.mpr ⟨lw_p26, List.forall_mem_cons.mpr ⟨lw_p27, List.forall_mem_cons.mpr ⟨lw_p28, fun _ h => absurd h List.not_mem_nil⟩⟩⟩⟩⟩⟩⟩⟩⟩⟩⟩⟩⟩
def lw_privs : List (MethodName × Nat) := lw_privs_1 ++ (lw_privs_2)
def lw_tbl : List Cond := k2_sels lw_privs ++ tables_1
theorem lw_privs_ok : ∀ q ∈ lw_privs, lw_okq q := by
  show ∀ q ∈ lw_privs_1 ++ (lw_privs_2), lw_okq q
  exact List.forall_mem_append.mpr ⟨lw_r1, lw_r2⟩
end
section
/-! ===== BEGIN words of one list among another's, by their places ===== -/
theorem goodIn_r {big : List Cond} (ws : List Cond) (ps : List Nat) (hp : ws = ps.filterMap (fun i => big[i]?)) (h : ws.all goodWord = true) : GoodIn big ws := by
  intro w hw
  have h1 := List.all_eq_true.mp h w hw
  rw [hp] at hw
  obtain ⟨i, -, hi⟩ := List.mem_filterMap.mp hw
  have hm : w ∈ big := by first | exact List.mem_of_getElem? hi | exact List.getElem?_mem hi
  exact ⟨hm, good_of_word h1⟩
theorem goodIn_app {big a b : List Cond} (ha : GoodIn big a) (hb : GoodIn big b) : GoodIn big (a ++ b) := fun w h => (List.mem_append.mp h).elim (ha w) (hb w)
theorem goodIn_ca {big a b : List Cond} {c : Cond} (ha : GoodIn big (c :: a)) (hb : GoodIn big b) : GoodIn big (c :: (a ++ b)) := fun w h => (List.mem_cons.mp h).elim (fun e => ha w (List.mem_cons.mpr (Or.inl e))) (fun h => (List.mem_append.mp h).elim (fun h => ha w (List.mem_cons.mpr (Or.inr h))) (hb w))
theorem goodIn_sub {big ws : List Cond} (hm : ∀ w ∈ ws, w ∈ big) (h : ws.all goodWord = true) : GoodIn big ws := fun w hw => ⟨hm w hw, good_of_word (List.all_eq_true.mp h w hw)⟩
/-! ===== END ===== -/

/-! ===== BEGIN exceptions that leave a method, and their catching by the caller (launches without stack traces) ===== -/
section VXA
/-! The laws vx_back, vx_callV, vx_callS, vx_callSW, vx_throw0, vx_throwS follow proofs of the library, with one case more: JvmDerived/Free/Laws.lean (Back.of_free), Shelf42/LK1.lean (callV, callS), Shelf/KitTraced.lean (throwNew0V, throwNewS). -/
/-- where a method has thrown q: the class by its name, the cell, what was written, the world -/
def vx_T (XC : String → State → State → Prop) (st : State) (q : Addr) (t : State) (mc ms : Nat) (free : Addr → Prop) : Prop :=
  ∃ (E : String) (ce : Cell) (L : List Loc), XC E st t ∧ t.heap[q]? = some ce ∧ ce.vm = .none ∧ st.vm.findClass E = some ce.cls ∧ st.WarmedH t.vm ∧ st.sameButNew ({ t with vm := st.vm } : State) L mc ms ∧ ∀ z ∈ L, free z.base
def vx_Q (Qc : Array Value → State → Outcome → State → Prop) (XC : String → State → State → Prop) (mc ms : Nat) (free : Addr → Prop) : Array Value → State → Outcome → State → Prop := fun a st o t =>
  (Qc a st o t ∧ ∃ L, FrameEnd st o t L mc ms ∧ ∀ q ∈ L, free q.base) ∨ ∃ q, o = .threw q ∧ vx_T XC st q t mc ms free
/-- a callee that returns or throws -/
def vx_Met (l : Launch) (y : MethodName) (ws : List Cond) (rm : Room) (Pc : Array Value → State → Prop) (Qc : Array Value → State → Outcome → State → Prop) (XC : String → State → State → Prop) (mc ms : Nat) (free : Addr → Prop) : Prop :=
  MetFree l y (headSpec ws rm) Pc (fun _ _ _ _ _ => True) (vx_Q Qc XC mc ms free)
def vx_Post (XC : String → State → State → Prop) (mc ms : Nat) (free : Addr → Prop) : Pt → Array Value → Addr → Pt → Prop := fun A a q B =>
  ∃ (g : JFrame) (mk : MethodId) (t : State) (L : List Loc) (E : String) (ce : Cell), B.U.heap = t.heap ∧ B.U.vm = t.vm ∧ XC E (A.U.calling g mk a) t ∧ t.heap[q]? = some ce ∧ ce.vm = .none ∧ A.U.vm.findClass E = some ce.cls ∧ B.locs = A.locs ++ L ∧ (∀ z ∈ L, free z.base) ∧ B.cells = A.cells + mc ∧ B.slots = A.slots + ms
def vx_Back (l : Launch) (R : Room) (p : Program) (e : Env) (below : List Frame) (s : State) (sargs : Array Value) (y : MethodName) (len W9 : Nat)
    (Pre : Pt → Array Value → Prop) (Post : Pt → Array Value → Option Value → Pt → Prop) (PostX : Pt → Array Value → Addr → Pt → Prop) : Prop :=
  ∀ (m : MethodId) (meth : Method) (c : Code) (A : Pt) (g : JFrame) (ig : Instr) (mk : MethodId) (a : Array Value),
    Stand p l e R s m sargs below meth c A.U A.locs A.cells A.slots → g.method = m → g.locals.size = c.maxLocals → decode c.code g.pc = .ok (ig, len) →
    2 * g.monitorRoom + (g.stack.map fun v => v.category).sum ≤ W9 → A.U.methodNamed? y = some mk → Pre A a →
    (∃ (v : Option Value) (B : Pt), Stand p l e R s m sargs below meth c B.U B.locs B.cells B.slots ∧ Post A a v B ∧
      Steps p.tables e below (doInvoke e (A.U.setTop g) [] mk a).1 (B.U.setTop { g with pc := g.pc + len, stack := v.toList ++ g.stack })) ∨
    (∃ (q : Addr) (B : Pt), Stand p l e R s m sargs below meth c B.U B.locs B.cells B.slots ∧ PostX A a q B ∧
      Steps p.tables e below (doInvoke e (A.U.setTop g) [] mk a).1 ((B.U.setTop g).pushFrame (.throwing q)))
section Payer
variable {l : Launch} {R : Room} {p : Program} {e : Env} {below : List Frame} {s : State} {sargs : Array Value} {y : MethodName} {len W9 : Nat}
theorem vx_back {ws : List Cond} {rm : Room} {Pc : Array Value → State → Prop} {Qc : Array Value → State → Outcome → State → Prop} {XC : String → State → State → Prop} {mc ms : Nat} {free : Addr → Prop} {bytes : ByteArray} {maxL : Nat} {ret : Option FieldType}
    (hM : vx_Met l y ws rm Pc Qc XC mc ms free) (hblind : FrameBlind Pc) (hrc : rm.cells = mc) (hrs : rm.slots = ms)
    (hframes : rm.frames + 1 ≤ R.frames) (hlocals : W9 + (maxL + 11) + rm.locals ≤ R.locals)
    (hws : ∀ w ∈ ws, ∀ a' U, s.WarmedH U.vm → w.before a' U = true) (hcode : Cond.code y bytes maxL ret ∈ ws) (hinit : ∀ a' U, s.WarmedH U.vm → (Cond.initialized y.cls).before a' U = true) :
    vx_Back l R p e below s sargs y len W9 (PreOf R mc ms Pc) (PostOf Qc mc ms free) (vx_Post XC mc ms free) := by
  intro m meth c A g ig mk a X hg hsize hdg hW hn hp
  have h1 : (headSpec ws rm).pre.before a A.U = true := atoms_intro fun w hw => hws w hw _ _ X.warmed
  have h2 : (Cond.code y bytes maxL ret).before a A.U = true := hws _ hcode _ _ X.warmed
  have h3 : (Cond.initialized y.cls).before a A.U = true := hinit _ _ X.warmed
  have h4 : A.cells + (headSpec ws rm).room.cells ≤ R.cells := by rw [show (headSpec ws rm).room.cells = mc from hrc]; exact hp.1
  have h5 : A.slots + (headSpec ws rm).room.slots ≤ R.slots := by rw [show (headSpec ws rm).room.slots = ms from hrs]; exact hp.2.1
  have hPc : Pc a (A.U.calling g mk a) := hblind _ _ _ _ hp.2.2
  obtain ⟨U, Ls, c0, s0⟩ := A
  dsimp only [Pt.U, Pt.locs, Pt.cells, Pt.slots] at h1 h2 h3 h4 h5 X hn hPc ⊢
  obtain ⟨methY, cY, hmY, hcY, -, hlY, -, -, -, -⟩ := Cond.code_spec hn h2
  obtain ⟨kY, hkY, -⟩ := className_of_methodNamed hn
  have hinitY : kY.init = .initialized := Cond.initialized_spec (findClass_of_methodNamed hn) hkY h3
  have h : At U g.method c below := by rw [hg]; exact X.here
  have hlocals9 : W9 + (maxL + 11) + (headSpec ws rm).room.locals ≤ R.locals := hlocals
  have happ : (headSpec ws rm).appliesLoose y e.platform (U.calling g mk a) = true :=
    Spec.appliesLoose_calling (g := g) h hdg hn hkY hinitY
      (X.room_calling (g := g) (R' := (headSpec ws rm).room) hsize hmY hcY hframes (by rw [hlY]; omega) h4 h5) h1
  obtain ⟨mid, hmid⟩ := h.above
  have hfr : (U.setTop g).frames = (.java g :: mid) ++ below := by rw [State.frames_setTop' g h.top, hmid]; rfl
  obtain ⟨o, s₂, hsteps, -, hend, hq⟩ := Steps.callFree hM p X.admits X.cas X.clock (acts := []) hfr happ hPc trivial
  have hq' : vx_Q Qc XC mc ms free a (U.calling g mk a) o s₂ := hq
  rw [State.frames_setTop' g h.top] at hend
  obtain ⟨g₀, hg0⟩ := Option.isSome_iff_exists.mp h.top
  obtain ⟨r, hr⟩ := State.topJava?_eq_some.mp hg0
  have hr' : (({ U with heap := s₂.heap, slotsUsed := s₂.slotsUsed } : State).setVm s₂.vm).frames = .java g₀ :: r := hr
  rcases hq' with ⟨hqc, L, hfe, hL⟩ | ⟨q, rfl, E, ce, L, hx, hce, hcv, hcl, hW₂, hsm, hL⟩
  · obtain ⟨⟨v, rfl⟩, hW₂, e2, q2, q3, q4, q5, q6⟩ := id hfe
    have e3 : s₂ = ({ (U.calling g mk a).setFrames s₂.frames with heap := s₂.heap, slotsUsed := s₂.slotsUsed } : State).setVm s₂.vm := by
      have : s₂ = ({ s₂ with vm := (U.calling g mk a).vm } : State).setVm s₂.vm := rfl
      rw [e2] at this
      exact this
    obtain ⟨c₂, i₂, len₂, hc₂, hd₂, hf₂⟩ := hend
    have hW' : U.WarmedH s₂.vm := hW₂
    have hcc : c₂ = c := by
      have h1 : s₂.code? g.method = U.code? g.method := by
        rw [State.code?_eq, State.code?_eq, hW'.alike.method?]
      exact Option.some.inj (hc₂.symm.trans (h1.trans h.code))
    subst hcc
    have hlen : len₂ = len := by rw [hdg] at hd₂; cases hd₂; rfl
    subst hlen
    have hs₂ : s₂ = (({ U with heap := s₂.heap, slotsUsed := s₂.slotsUsed } : State).setVm s₂.vm).setTop { g with pc := g.pc + len₂, stack := v.toList ++ g.stack } := by
      refine e3.trans ?_
      rw [hf₂, State.calling_eq h.top, State.setFrames_setFrames, State.setTop_of_frames _ hr', hr]
      rfl
    have hsame : U.sameButNew ({ U with heap := s₂.heap, slotsUsed := s₂.slotsUsed } : State) L mc ms := by
      refine ⟨?_, q2, q3, q4, q5, q6⟩
      obtain ⟨t, ht, -⟩ := State.frames_cons hr
      show ({ U with heap := s₂.heap, slotsUsed := s₂.slotsUsed } : State) = { U.setFrames U.frames with heap := s₂.heap, slotsUsed := s₂.slotsUsed }
      rw [State.setFrames_self ht]
    subst hg
    refine Or.inl ⟨v, ⟨(({ U with heap := s₂.heap, slotsUsed := s₂.slotsUsed } : State).setVm s₂.vm), Ls ++ L, c0 + mc, s0 + ms⟩,
      ⟨X.admits, X.cas, X.clock, X.frames, X.room, X.hears, X.method, X.code, (X.here.setHeapUsed s₂.heap s₂.slotsUsed).setVm hW'.alike, X.tail, State.WarmedH.trans X.warmed hW', X.limits, X.bytes, X.same.trans (hsame.setVm s.vm)⟩,
      ⟨g, mk, s₂, L, rfl, rfl, hqc, rfl, hL, rfl, rfl⟩, ?_⟩
    show Steps p.tables e below _ ((({ U with heap := s₂.heap, slotsUsed := s₂.slotsUsed } : State).setVm s₂.vm).setTop { g with pc := g.pc + len₂, stack := v.toList ++ g.stack })
    rw [← hs₂]
    exact hsteps
  · obtain ⟨e2, q2, q3, q4, q5, q6⟩ := id hsm
    have e3 : s₂ = ({ (U.calling g mk a).setFrames s₂.frames with heap := s₂.heap, slotsUsed := s₂.slotsUsed } : State).setVm s₂.vm := by
      have : s₂ = ({ s₂ with vm := (U.calling g mk a).vm } : State).setVm s₂.vm := rfl
      rw [e2] at this
      exact this
    have hf₂ : s₂.frames = .throwing q :: .java g :: U.frames.tail := hend
    have hW' : U.WarmedH s₂.vm := hW₂
    have hs₂ : s₂ = ((({ U with heap := s₂.heap, slotsUsed := s₂.slotsUsed } : State).setVm s₂.vm).setTop g).pushFrame (.throwing q) := by
      refine e3.trans ?_
      rw [hf₂, State.calling_eq h.top, State.setFrames_setFrames, State.pushFrame, State.frames_setTop _ hr', State.setTop_of_frames _ hr', State.setFrames_setFrames, hr]
      rfl
    have hsame : U.sameButNew ({ U with heap := s₂.heap, slotsUsed := s₂.slotsUsed } : State) L mc ms := by
      refine ⟨?_, q2, q3, q4, q5, q6⟩
      obtain ⟨t, ht, -⟩ := State.frames_cons hr
      show ({ U with heap := s₂.heap, slotsUsed := s₂.slotsUsed } : State) = { U.setFrames U.frames with heap := s₂.heap, slotsUsed := s₂.slotsUsed }
      rw [State.setFrames_self ht]
    subst hg
    refine Or.inr ⟨q, ⟨(({ U with heap := s₂.heap, slotsUsed := s₂.slotsUsed } : State).setVm s₂.vm), Ls ++ L, c0 + mc, s0 + ms⟩,
      ⟨X.admits, X.cas, X.clock, X.frames, X.room, X.hears, X.method, X.code, (X.here.setHeapUsed s₂.heap s₂.slotsUsed).setVm hW'.alike, X.tail, State.WarmedH.trans X.warmed hW', X.limits, X.bytes, X.same.trans (hsame.setVm s.vm)⟩,
      ⟨g, mk, s₂, L, E, ce, rfl, rfl, hx, hce, hcv, hcl, rfl, hL, rfl, rfl⟩, ?_⟩
    show Steps p.tables e below _ (((({ U with heap := s₂.heap, slotsUsed := s₂.slotsUsed } : State).setVm s₂.vm).setTop g).pushFrame (.throwing q))
    rw [← hs₂]
    exact hsteps
end Payer
section Calls
variable {p : Program} {l : Launch} {e : Env} {R : Room} {s : State} {m : MethodId} {args : Array Value} {below : List Frame} {meth : Method} {c : Code} {T : State} {locs : List Loc} {cells slots : Nat}
theorem vx_callV (X : Stand p l e R s m args below meth c T locs cells slots) (hexec : p.tables.exec = Jvm.exec) {own C : String} {index : Nat} {y : MethodName} {bytes : ByteArray} {maxL : Nat} {ret : Option FieldType}
    (hown : s.vm.findClass own = some m.cls) (hlink : (Cond.methodLink own index y).before args s = true) (hinst : (Cond.instanceMethod y).before args s = true) (hsel : (Cond.selects C y y).before args s = true)
    (hcode : (Cond.code y bytes maxL ret).before args s = true) (hy : y.cls ≠ "java/lang/invoke/MethodHandle" ∧ y.cls ≠ "java/lang/invoke/VarHandle")
    {W9 : Nat} {Pre : Pt → Array Value → Prop} {Post : Pt → Array Value → Option Value → Pt → Prop} {PostX : Pt → Array Value → Addr → Pt → Prop} (hK : vx_Back l R p e below s args y 3 W9 Pre Post PostX)
    {b : Addr} {cellB : Cell} (hcell : T.heap[b]? = some cellB) (hobj : cellB.vm.isStatics = false) (hcls : s.vm.findClass C = some cellB.cls)
    {g : JFrame} (hg : g.method = m) (hsize : g.locals.size = c.maxLocals) {argsL rest : List Value} (hlen : ∀ sig, parseMethodDescriptor y.desc = some sig → argsL.length = sig.parameters.length)
    (hstack : g.stack = argsL.reverse ++ .ref b :: rest) (hW : 2 * g.monitorRoom + (rest.map fun v => v.category).sum ≤ W9) (hdg : decode c.code g.pc = .ok (.invokevirtual index, 3))
    (hpre : ∀ vm₁, s.WarmedH vm₁ → Pre ⟨T.setVm vm₁, locs, cells, slots⟩ (Value.ref b :: argsL).toArray) :
    (∃ (v : Option Value) (vm₁ : Vm) (B : Pt), s.WarmedH vm₁ ∧ Stand p l e R s m args below meth c B.U B.locs B.cells B.slots ∧ Post ⟨T.setVm vm₁, locs, cells, slots⟩ (Value.ref b :: argsL).toArray v B ∧
      ∀ target, Steps p.tables e below (B.U.setTop { g with pc := g.pc + 3, stack := v.toList ++ rest }) target → Steps p.tables e below (T.setTop g) target) ∨
    (∃ (q : Addr) (vm₁ : Vm) (B : Pt), s.WarmedH vm₁ ∧ Stand p l e R s m args below meth c B.U B.locs B.cells B.slots ∧ PostX ⟨T.setVm vm₁, locs, cells, slots⟩ (Value.ref b :: argsL).toArray q B ∧
      Steps p.tables e below (T.setTop g) ((B.U.setTop { g with stack := rest }).pushFrame (.throwing q))) := by
  obtain ⟨mk, methM, hnamed, hmethM, hstM, habM⟩ := Cond.instanceMethod_spec hinst
  obtain ⟨methM', cM, hmethM', -, -, -, -, -, -, hsigM⟩ := Cond.code_spec hnamed hcode
  cases hmethM.symm.trans hmethM'
  obtain ⟨c2, r2, m2, q1, q2, q3, q4, kP, hkP, hkPi⟩ := Cond.selects_spec hsel
  cases hcls.symm.trans q1
  cases (State.methodFound?_of_named hnamed hy).symm.trans q2
  cases hnamed.symm.trans q3
  have hselP : selectMethod e.platform s.vm cellB.cls mk = .method mk := by rw [Launch.admits_selectMethod X.admits]; exact q4
  obtain ⟨vm₁, X₁, hstep₁⟩ := X.invokevirtual hexec hown hlink hnamed hmethM hstM hkP hkPi hy (a := b) (cell := cellB) hcell
    (fun z h => by rw [h] at hobj; cases hobj) hselP hmethM habM hkP hkPi (g := g) hg (argsL := argsL) (rest := rest) (hlen _ hsigM) hstack hdg
  rcases hK m meth c ⟨T.setVm vm₁, locs, cells, slots⟩ { g with stack := rest } (.invokevirtual index) mk (Value.ref b :: argsL).toArray X₁ hg hsize hdg hW (X₁.named hnamed) (hpre vm₁ X₁.warmed) with ⟨v, B, X', hpost, hsteps⟩ | ⟨q, B, X', hpost, hsteps⟩
  · exact Or.inl ⟨v, vm₁, B, X₁.warmed, X', hpost, fun target h => hstep₁ _ fun acts => by rw [doInvoke_state]; exact hsteps.trans h⟩
  · exact Or.inr ⟨q, vm₁, B, X₁.warmed, X', hpost, hstep₁ _ fun acts => by rw [doInvoke_state]; exact hsteps⟩
theorem vx_callS (X : Stand p l e R s m args below meth c T locs cells slots) (hexec : p.tables.exec = Jvm.exec) {own : String} {index : Nat} {y : MethodName} {bytes : ByteArray} {maxL : Nat} {ret : Option FieldType}
    (hown : s.vm.findClass own = some m.cls) (hlink : (Cond.methodLink own index y).before args s = true) (hstat : (Cond.static y).before args s = true) (hinit : (Cond.initialized y.cls).before args s = true)
    (hcode : (Cond.code y bytes maxL ret).before args s = true) (hy : y.cls ≠ "java/lang/invoke/MethodHandle" ∧ y.cls ≠ "java/lang/invoke/VarHandle")
    {W9 : Nat} {Pre : Pt → Array Value → Prop} {Post : Pt → Array Value → Option Value → Pt → Prop} {PostX : Pt → Array Value → Addr → Pt → Prop} (hK : vx_Back l R p e below s args y 3 W9 Pre Post PostX)
    {g : JFrame} (hg : g.method = m) (hsize : g.locals.size = c.maxLocals) {argsL rest : List Value} (hlen : ∀ sig, parseMethodDescriptor y.desc = some sig → argsL.length = sig.parameters.length)
    (hstack : g.stack = argsL.reverse ++ rest) (hW : 2 * g.monitorRoom + (rest.map fun v => v.category).sum ≤ W9) (hdg : decode c.code g.pc = .ok (.invokestatic index, 3))
    (hpre : ∀ vm₁, s.WarmedH vm₁ → Pre ⟨T.setVm vm₁, locs, cells, slots⟩ argsL.toArray) :
    (∃ (v : Option Value) (vm₁ : Vm) (B : Pt), s.WarmedH vm₁ ∧ Stand p l e R s m args below meth c B.U B.locs B.cells B.slots ∧ Post ⟨T.setVm vm₁, locs, cells, slots⟩ argsL.toArray v B ∧
      ∀ target, Steps p.tables e below (B.U.setTop { g with pc := g.pc + 3, stack := v.toList ++ rest }) target → Steps p.tables e below (T.setTop g) target) ∨
    (∃ (q : Addr) (vm₁ : Vm) (B : Pt), s.WarmedH vm₁ ∧ Stand p l e R s m args below meth c B.U B.locs B.cells B.slots ∧ PostX ⟨T.setVm vm₁, locs, cells, slots⟩ argsL.toArray q B ∧
      Steps p.tables e below (T.setTop g) ((B.U.setTop { g with stack := rest }).pushFrame (.throwing q))) := by
  obtain ⟨mk, hnamed⟩ := Cond.code_named hcode
  obtain ⟨methM, cM, hmethM, -, -, -, -, -, -, hsigM⟩ := Cond.code_spec hnamed hcode
  have hstatic : methM.isStatic = true := Cond.static_spec hnamed hmethM hstat
  obtain ⟨kP, hkP, -⟩ := className_of_methodNamed hnamed
  have hinitP : kP.init = .initialized := Cond.initialized_spec (findClass_of_methodNamed hnamed) hkP hinit
  obtain ⟨vm₁, X₁, hstep₁⟩ := X.invokestatic hexec hown hlink hnamed hmethM hstatic hkP hinitP hy (g := g) hg (argsL := argsL) (rest := rest) (hlen _ hsigM) hstack hdg
  rcases hK m meth c ⟨T.setVm vm₁, locs, cells, slots⟩ { g with stack := rest } (.invokestatic index) mk argsL.toArray X₁ hg hsize hdg hW (X₁.named hnamed) (hpre vm₁ X₁.warmed) with ⟨v, B, X', hpost, hsteps⟩ | ⟨q, B, X', hpost, hsteps⟩
  · exact Or.inl ⟨v, vm₁, B, X₁.warmed, X', hpost, fun target h => hstep₁ _ fun acts => by rw [doInvoke_state]; exact hsteps.trans h⟩
  · exact Or.inr ⟨q, vm₁, B, X₁.warmed, X', hpost, hstep₁ _ fun acts => by rw [doInvoke_state]; exact hsteps⟩
end Calls
theorem vx_cls {s : State} {T : State} {vm₁ : Vm} {E : String} {k : ClassId} (hW : s.WarmedH vm₁) (h : (T.setVm vm₁).vm.findClass E = some k) : s.vm.findClass E = some k := by
  have h1 : vm₁.findClass E = some k := h
  rw [hW.alike.findClass] at h1
  exact h1
/-- the method's frame g, with q thrown over it -/
def vx_W (p : Program) (l : Launch) (e : Env) (R : Room) (s : State) (m : MethodId) (args : Array Value) (below : List Frame) (meth : Method) (c : Code) (H : Heap) (locs : List Loc) (cells slots : Nat) (Q : State → Prop) (g : JFrame) (q : Addr) : Prop :=
  ∀ T : State, T.heap = H → Stand p l e R s m args below meth c T locs cells slots → ∃ t, Steps p.tables e below ((T.setTop g).pushFrame (.throwing q)) t ∧ Q t
def vx_Run (p : Program) (l : Launch) (e : Env) (R : Room) (s : State) (m : MethodId) (args : Array Value) (below : List Frame) (meth : Method) (c : Code) (H : Heap) (locs : List Loc) (cells slots mc ms : Nat) (g : JFrame) (rest : List Value) (Qa : State → Outcome → State → Prop) (XC : String → State → State → Prop) (free : Addr → Prop) : Prop :=
  ∀ T : State, T.heap = H → Stand p l e R s m args below meth c T locs cells slots →
    (∃ (v : Option Value) (st₀ t T' : State) (L : List Loc), st₀.heap = H ∧ Stand p l e R s m args below meth c T' (locs ++ L) (cells + mc) (slots + ms) ∧ (∀ q ∈ L, free q.base) ∧ T'.heap = t.heap ∧ T'.vm = t.vm ∧ Qa st₀ (.returned v) t ∧
      Goes p e below T g T' { g with pc := g.pc + 3, stack := v.toList ++ rest }) ∨
    (∃ (q : Addr) (st₀ t T' : State) (L : List Loc) (E : String) (ce : Cell), st₀.heap = H ∧ Stand p l e R s m args below meth c T' (locs ++ L) (cells + mc) (slots + ms) ∧ (∀ z ∈ L, free z.base) ∧ T'.heap = t.heap ∧ T'.vm = t.vm ∧ XC E st₀ t ∧ t.heap[q]? = some ce ∧ ce.vm = .none ∧ s.vm.findClass E = some ce.cls ∧
      Steps p.tables e below (T.setTop g) ((T'.setTop { g with stack := rest }).pushFrame (.throwing q)))
def vx_X {S : Type} (px : S → Prop) (B : String → S → State → Prop) (A : Nat → Prop) : String → State → State → Prop := fun E st t => ∃ u : S, px u ∧ B E u t ∧ va_F A st t
section Runs
variable {p : Program} {l : Launch} {e : Env} {R : Room} {s : State} {m : MethodId} {args : Array Value} {below : List Frame} {meth : Method} {c : Code} {H : Heap} {locs : List Loc} {cells slots : Nat}
variable {y : MethodName} {bytes cc : ByteArray} {maxL nL mc ms n index : Nat} {ret : Option FieldType} {ws : List Cond} {rm : Room} {Pc : Array Value → State → Prop} {Qc : Array Value → State → Outcome → State → Prop} {XC : String → State → State → Prop} {free : Addr → Prop} {Ts : List Cond} {own C : String} {b : Addr} {As rest : List Value} {g : JFrame}
theorem vx_callBack (cb : CallB R s args own index y bytes maxL ret ws rm mc ms n) (hM : vx_Met l y ws rm Pc Qc XC mc ms free) (hbl : FrameBlind Pc) : vx_Back l R p e below s args y 3 8 (PreOf R mc ms Pc) (PostOf Qc mc ms free) (vx_Post XC mc ms free) := by
  obtain ⟨hrc, hrs, hfr, hlo, hws, hcw, -, hini, -⟩ := cb
  exact vx_back (bytes := bytes) (maxL := maxL) (ret := ret) hM hbl hrc hrs hfr hlo hws hcw (fun a' U hW => word_at hW (Or.inl (by first | rfl | simp [Cond.onTables, Cond.keeps, Cond.steady])) hini)
theorem vx_runV (S : CallFix p m c cc nL s args Ts own) (hM : vx_Met l y ws rm Pc Qc XC mc ms free) (cw : CallW R s args own C index y bytes maxL ret ws rm mc ms n) (hp : PreV s H C b Pc As)
    (hg : g.method = m) (hn : As.length = n) (hsize : g.locals.size = nL) (hstack : g.stack = As.reverse ++ .ref b :: rest) (hW : 2 * g.monitorRoom + (rest.map fun v => v.category).sum ≤ 8) (hdg : decode cc g.pc = .ok (.invokevirtual index, 3)) (hf : cells + mc ≤ R.cells ∧ slots + ms ≤ R.slots) :
    vx_Run p l e R s m args below meth c H locs cells slots mc ms g rest (Qc (Value.ref b :: As).toArray) XC free := by
  have hK : vx_Back l R p e below s args y 3 8 (PreOf R mc ms Pc) (PostOf Qc mc ms free) (vx_Post XC mc ms free) := vx_callBack cw.1 hM hp.1
  obtain ⟨⟨-, -, -, -, -, -, hcode, -, hy, hlen, hl⟩, hin, hse⟩ := cw
  obtain ⟨hx, hb, hml, ho, -⟩ := S
  obtain ⟨-, ⟨cellB, hcB, hoB, hclB⟩, hPc⟩ := hp
  intro T hT X
  rcases vx_callV X hx (C := C) (bytes := bytes) (maxL := maxL) (ret := ret) ho hl hin hse hcode hy hK (by rw [hT]; exact hcB) hoB hclB hg (hsize.trans hml.symm) (argsL := As) (rest := rest) (fun sig h => hn.trans (hlen sig h)) hstack hW (by rw [hb]; exact hdg)
    (fun vm₁ hW₁ => ⟨hf.1, hf.2, hPc (T.setVm vm₁) hT hW₁⟩) with ⟨v, vm₁, ⟨U', l2, c2, s2⟩, hW₁, X', ⟨g', mk, t, L, e1, e2, hq, h1, hL, h2, h3⟩, st⟩ | ⟨q, vm₁, ⟨U', l2, c2, s2⟩, hW₁, X', ⟨g', mk, t, L, E, ce, e1, e2, hq, hce, hcv, hcl, h1, hL, h2, h3⟩, st⟩
  · dsimp only [Pt.U, Pt.locs, Pt.cells, Pt.slots] at X' e1 e2 h1 h2 h3 st
    subst h1; subst h2; subst h3
    exact Or.inl ⟨v, (T.setVm vm₁).calling g' mk (Value.ref b :: As).toArray, t, U', L, hT, X', hL, e1, e2, hq, st⟩
  · dsimp only [Pt.U, Pt.locs, Pt.cells, Pt.slots] at X' e1 e2 h1 h2 h3 st hcl
    subst h1; subst h2; subst h3
    exact Or.inr ⟨q, (T.setVm vm₁).calling g' mk (Value.ref b :: As).toArray, t, U', L, E, ce, hT, X', hL, e1, e2, hq, hce, hcv, vx_cls hW₁ hcl, st⟩
theorem vx_runS (S : CallFix p m c cc nL s args Ts own) (hM : vx_Met l y ws rm Pc Qc XC mc ms free) (cw : CallB R s args own index y bytes maxL ret ws rm mc ms n ∧ (Cond.static y).before args s = true) (hp : PreS s H Pc As)
    (hg : g.method = m) (hn : As.length = n) (hsize : g.locals.size = nL) (hstack : g.stack = As.reverse ++ rest) (hW : 2 * g.monitorRoom + (rest.map fun v => v.category).sum ≤ 8) (hdg : decode cc g.pc = .ok (.invokestatic index, 3)) (hf : cells + mc ≤ R.cells ∧ slots + ms ≤ R.slots) :
    vx_Run p l e R s m args below meth c H locs cells slots mc ms g rest (Qc As.toArray) XC free := by
  have hK : vx_Back l R p e below s args y 3 8 (PreOf R mc ms Pc) (PostOf Qc mc ms free) (vx_Post XC mc ms free) := vx_callBack cw.1 hM hp.1
  obtain ⟨⟨-, -, -, -, -, -, hcode, hini, hy, hlen, hl⟩, hstt⟩ := cw
  obtain ⟨hx, hb, hml, ho, -⟩ := S
  intro T hT X
  rcases vx_callS X hx (bytes := bytes) (maxL := maxL) (ret := ret) ho hl hstt hini hcode hy hK hg (hsize.trans hml.symm) (argsL := As) (rest := rest) (fun sig h => hn.trans (hlen sig h)) hstack hW (by rw [hb]; exact hdg)
    (fun vm₁ hW₁ => ⟨hf.1, hf.2, hp.2 (T.setVm vm₁) hT hW₁⟩) with ⟨v, vm₁, ⟨U', l2, c2, s2⟩, hW₁, X', ⟨g', mk, t, L, e1, e2, hq, h1, hL, h2, h3⟩, st⟩ | ⟨q, vm₁, ⟨U', l2, c2, s2⟩, hW₁, X', ⟨g', mk, t, L, E, ce, e1, e2, hq, hce, hcv, hcl, h1, hL, h2, h3⟩, st⟩
  · dsimp only [Pt.U, Pt.locs, Pt.cells, Pt.slots] at X' e1 e2 h1 h2 h3 st
    subst h1; subst h2; subst h3
    exact Or.inl ⟨v, (T.setVm vm₁).calling g' mk As.toArray, t, U', L, hT, X', hL, e1, e2, hq, st⟩
  · dsimp only [Pt.U, Pt.locs, Pt.cells, Pt.slots] at X' e1 e2 h1 h2 h3 st hcl
    subst h1; subst h2; subst h3
    exact Or.inr ⟨q, (T.setVm vm₁).calling g' mk As.toArray, t, U', L, E, ce, hT, X', hL, e1, e2, hq, hce, hcv, vx_cls hW₁ hcl, st⟩
end Runs
section Rows
variable {p : Program} {l : Launch} {e : Env} {R : Room} {s : State} {m : MethodId} {args : Array Value} {below : List Frame} {meth : Method} {c : Code} {H : Heap} {locs : List Loc} {cells slots : Nat} {Q : State → Prop}
variable {mc ms : Nat} {free : Addr → Prop} {A0 A1 : Nat → Prop} {H0 : Heap} {a : Array Value} {pc : Nat} {ls : Array Slot} {st0 rest : List Value}
theorem vx_keep {st₀ t T' : State} {L : List Loc} (h0 : st₀.heap = H) (e1 : T'.heap = t.heap) (hS : va_S A0 H0 H locs) (hA : ∀ q, q < H.size → A1 q → A0 q) (hf : ∀ q, free q → A0 q) (hL : ∀ q ∈ L, free q.base) (hF : va_F A1 st₀ t) :
    H.size ≤ T'.heap.size ∧ (∀ q : Nat, q < H.size → ¬ A1 q → T'.heap[q]? = H[q]?) ∧ va_S A0 H0 T'.heap (locs ++ L) := by
  obtain ⟨hz, hk⟩ := hF
  rw [h0] at hz hk
  exact ⟨by rw [e1]; exact hz, fun q h1 h2 => by rw [e1]; exact hk q h1 h2,
    ⟨Nat.le_trans hS.1 (by rw [e1]; exact hz), fun q h1 h2 => by rw [e1, hk q (Nat.lt_of_lt_of_le h1 hS.1) (fun z => h2 (hA q (Nat.lt_of_lt_of_le h1 hS.1) z))]; exact hS.2.1 q h1 h2, fun q hq => by
      rcases List.mem_append.mp hq with h | h
      · exact hS.2.2 q h
      · exact hf _ (hL q h)⟩⟩
theorem vx_calli {S SX : Type} {post : Int32 → S → Prop} {px : SX → Prop} {B : S → State → Prop} {BX : String → SX → State → Prop} {AX : Nat → Prop} (hr : vx_Run p l e R s m args below meth c H locs cells slots mc ms (F0 m pc ls st0) rest (va_Qi post B A1 a) (vx_X px BX AX) free) (hS : va_S A0 H0 H locs) (hA : ∀ q, q < H.size → A1 q → A0 q) (hf : ∀ q, free q → A0 q) (hAX : ∀ q, q < H.size → AX q → A0 q)
    (kx : ∀ (E : String) (ce : Cell) (q9 : Addr) (u : SX) (t : State) (H1 : Heap) (locs1 : List Loc), t.heap = H1 → s.vm.Alike t.vm → px u → BX E u t → H.size ≤ H1.size → (∀ q : Nat, q < H.size → ¬ AX q → H1[q]? = H[q]?) → va_S A0 H0 H1 locs1 → H1[q9]? = some ce → ce.vm = .none → s.vm.findClass E = some ce.cls → vx_W p l e R s m args below meth c H1 locs1 (cells + mc) (slots + ms) Q (F0 m pc ls rest) q9)
    (kk : ∀ (r : Int32) (u : S) (t : State) (H1 : Heap) (locs1 : List Loc), t.heap = H1 → s.vm.Alike t.vm → post r u → B u t → H.size ≤ H1.size → (∀ q : Nat, q < H.size → ¬ A1 q → H1[q]? = H[q]?) → va_S A0 H0 H1 locs1 → W p l e R s m args below meth c H1 locs1 (cells + mc) (slots + ms) Q (F0 m (pc + 3) ls (.int r :: rest))) : W p l e R s m args below meth c H locs cells slots Q (F0 m pc ls st0) := by
  intro T hT X
  rcases hr T hT X with ⟨v, st₀, t, T', L, h0, X', hL, e1, e2, ⟨⟨r, u, hv, hp, hb⟩, hF⟩, st⟩ | ⟨q, st₀, t, T', L, E, ce, h0, X', hL, e1, e2, ⟨u, hp, hb, hF⟩, hce, hcv, hcl, st⟩
  · cases hv
    obtain ⟨k1, k2, k3⟩ := vx_keep h0 e1 hS hA hf hL hF
    obtain ⟨t2, a1, b1⟩ := kk r u t T'.heap (locs ++ L) e1.symm (by rw [← e2]; exact X'.warmed.alike) hp hb k1 k2 k3 T' rfl X'
    exact ⟨t2, st t2 a1, b1⟩
  · obtain ⟨k1, k2, k3⟩ := vx_keep h0 e1 hS hAX hf hL hF
    obtain ⟨t2, a1, b1⟩ := kx E ce q u t T'.heap (locs ++ L) e1.symm (by rw [← e2]; exact X'.warmed.alike) hp hb k1 k2 k3 (by rw [e1]; exact hce) hcv hcl T' rfl X'
    exact ⟨t2, st.trans a1, b1⟩
theorem vx_calll {S SX : Type} {post : Int64 → S → Prop} {px : SX → Prop} {B : S → State → Prop} {BX : String → SX → State → Prop} {AX : Nat → Prop} (hr : vx_Run p l e R s m args below meth c H locs cells slots mc ms (F0 m pc ls st0) rest (va_Ql post B A1 a) (vx_X px BX AX) free) (hS : va_S A0 H0 H locs) (hA : ∀ q, q < H.size → A1 q → A0 q) (hf : ∀ q, free q → A0 q) (hAX : ∀ q, q < H.size → AX q → A0 q)
    (kx : ∀ (E : String) (ce : Cell) (q9 : Addr) (u : SX) (t : State) (H1 : Heap) (locs1 : List Loc), t.heap = H1 → s.vm.Alike t.vm → px u → BX E u t → H.size ≤ H1.size → (∀ q : Nat, q < H.size → ¬ AX q → H1[q]? = H[q]?) → va_S A0 H0 H1 locs1 → H1[q9]? = some ce → ce.vm = .none → s.vm.findClass E = some ce.cls → vx_W p l e R s m args below meth c H1 locs1 (cells + mc) (slots + ms) Q (F0 m pc ls rest) q9)
    (kk : ∀ (r : Int64) (u : S) (t : State) (H1 : Heap) (locs1 : List Loc), t.heap = H1 → s.vm.Alike t.vm → post r u → B u t → H.size ≤ H1.size → (∀ q : Nat, q < H.size → ¬ A1 q → H1[q]? = H[q]?) → va_S A0 H0 H1 locs1 → W p l e R s m args below meth c H1 locs1 (cells + mc) (slots + ms) Q (F0 m (pc + 3) ls (.long r :: rest))) : W p l e R s m args below meth c H locs cells slots Q (F0 m pc ls st0) := by
  intro T hT X
  rcases hr T hT X with ⟨v, st₀, t, T', L, h0, X', hL, e1, e2, ⟨⟨r, u, hv, hp, hb⟩, hF⟩, st⟩ | ⟨q, st₀, t, T', L, E, ce, h0, X', hL, e1, e2, ⟨u, hp, hb, hF⟩, hce, hcv, hcl, st⟩
  · cases hv
    obtain ⟨k1, k2, k3⟩ := vx_keep h0 e1 hS hA hf hL hF
    obtain ⟨t2, a1, b1⟩ := kk r u t T'.heap (locs ++ L) e1.symm (by rw [← e2]; exact X'.warmed.alike) hp hb k1 k2 k3 T' rfl X'
    exact ⟨t2, st t2 a1, b1⟩
  · obtain ⟨k1, k2, k3⟩ := vx_keep h0 e1 hS hAX hf hL hF
    obtain ⟨t2, a1, b1⟩ := kx E ce q u t T'.heap (locs ++ L) e1.symm (by rw [← e2]; exact X'.warmed.alike) hp hb k1 k2 k3 (by rw [e1]; exact hce) hcv hcl T' rfl X'
    exact ⟨t2, st.trans a1, b1⟩
theorem vx_callf {S SX : Type} {post : UInt32 → S → Prop} {px : SX → Prop} {B : S → State → Prop} {BX : String → SX → State → Prop} {AX : Nat → Prop} (hr : vx_Run p l e R s m args below meth c H locs cells slots mc ms (F0 m pc ls st0) rest (va_Qf post B A1 a) (vx_X px BX AX) free) (hS : va_S A0 H0 H locs) (hA : ∀ q, q < H.size → A1 q → A0 q) (hf : ∀ q, free q → A0 q) (hAX : ∀ q, q < H.size → AX q → A0 q)
    (kx : ∀ (E : String) (ce : Cell) (q9 : Addr) (u : SX) (t : State) (H1 : Heap) (locs1 : List Loc), t.heap = H1 → s.vm.Alike t.vm → px u → BX E u t → H.size ≤ H1.size → (∀ q : Nat, q < H.size → ¬ AX q → H1[q]? = H[q]?) → va_S A0 H0 H1 locs1 → H1[q9]? = some ce → ce.vm = .none → s.vm.findClass E = some ce.cls → vx_W p l e R s m args below meth c H1 locs1 (cells + mc) (slots + ms) Q (F0 m pc ls rest) q9)
    (kk : ∀ (r : UInt32) (u : S) (t : State) (H1 : Heap) (locs1 : List Loc), t.heap = H1 → s.vm.Alike t.vm → post r u → B u t → H.size ≤ H1.size → (∀ q : Nat, q < H.size → ¬ A1 q → H1[q]? = H[q]?) → va_S A0 H0 H1 locs1 → W p l e R s m args below meth c H1 locs1 (cells + mc) (slots + ms) Q (F0 m (pc + 3) ls (.float r :: rest))) : W p l e R s m args below meth c H locs cells slots Q (F0 m pc ls st0) := by
  intro T hT X
  rcases hr T hT X with ⟨v, st₀, t, T', L, h0, X', hL, e1, e2, ⟨⟨r, u, hv, hp, hb⟩, hF⟩, st⟩ | ⟨q, st₀, t, T', L, E, ce, h0, X', hL, e1, e2, ⟨u, hp, hb, hF⟩, hce, hcv, hcl, st⟩
  · cases hv
    obtain ⟨k1, k2, k3⟩ := vx_keep h0 e1 hS hA hf hL hF
    obtain ⟨t2, a1, b1⟩ := kk r u t T'.heap (locs ++ L) e1.symm (by rw [← e2]; exact X'.warmed.alike) hp hb k1 k2 k3 T' rfl X'
    exact ⟨t2, st t2 a1, b1⟩
  · obtain ⟨k1, k2, k3⟩ := vx_keep h0 e1 hS hAX hf hL hF
    obtain ⟨t2, a1, b1⟩ := kx E ce q u t T'.heap (locs ++ L) e1.symm (by rw [← e2]; exact X'.warmed.alike) hp hb k1 k2 k3 (by rw [e1]; exact hce) hcv hcl T' rfl X'
    exact ⟨t2, st.trans a1, b1⟩
theorem vx_calld {S SX : Type} {post : UInt64 → S → Prop} {px : SX → Prop} {B : S → State → Prop} {BX : String → SX → State → Prop} {AX : Nat → Prop} (hr : vx_Run p l e R s m args below meth c H locs cells slots mc ms (F0 m pc ls st0) rest (va_Qd post B A1 a) (vx_X px BX AX) free) (hS : va_S A0 H0 H locs) (hA : ∀ q, q < H.size → A1 q → A0 q) (hf : ∀ q, free q → A0 q) (hAX : ∀ q, q < H.size → AX q → A0 q)
    (kx : ∀ (E : String) (ce : Cell) (q9 : Addr) (u : SX) (t : State) (H1 : Heap) (locs1 : List Loc), t.heap = H1 → s.vm.Alike t.vm → px u → BX E u t → H.size ≤ H1.size → (∀ q : Nat, q < H.size → ¬ AX q → H1[q]? = H[q]?) → va_S A0 H0 H1 locs1 → H1[q9]? = some ce → ce.vm = .none → s.vm.findClass E = some ce.cls → vx_W p l e R s m args below meth c H1 locs1 (cells + mc) (slots + ms) Q (F0 m pc ls rest) q9)
    (kk : ∀ (r : UInt64) (u : S) (t : State) (H1 : Heap) (locs1 : List Loc), t.heap = H1 → s.vm.Alike t.vm → post r u → B u t → H.size ≤ H1.size → (∀ q : Nat, q < H.size → ¬ A1 q → H1[q]? = H[q]?) → va_S A0 H0 H1 locs1 → W p l e R s m args below meth c H1 locs1 (cells + mc) (slots + ms) Q (F0 m (pc + 3) ls (.double r :: rest))) : W p l e R s m args below meth c H locs cells slots Q (F0 m pc ls st0) := by
  intro T hT X
  rcases hr T hT X with ⟨v, st₀, t, T', L, h0, X', hL, e1, e2, ⟨⟨r, u, hv, hp, hb⟩, hF⟩, st⟩ | ⟨q, st₀, t, T', L, E, ce, h0, X', hL, e1, e2, ⟨u, hp, hb, hF⟩, hce, hcv, hcl, st⟩
  · cases hv
    obtain ⟨k1, k2, k3⟩ := vx_keep h0 e1 hS hA hf hL hF
    obtain ⟨t2, a1, b1⟩ := kk r u t T'.heap (locs ++ L) e1.symm (by rw [← e2]; exact X'.warmed.alike) hp hb k1 k2 k3 T' rfl X'
    exact ⟨t2, st t2 a1, b1⟩
  · obtain ⟨k1, k2, k3⟩ := vx_keep h0 e1 hS hAX hf hL hF
    obtain ⟨t2, a1, b1⟩ := kx E ce q u t T'.heap (locs ++ L) e1.symm (by rw [← e2]; exact X'.warmed.alike) hp hb k1 k2 k3 (by rw [e1]; exact hce) hcv hcl T' rfl X'
    exact ⟨t2, st.trans a1, b1⟩
theorem vx_callv {S SX : Type} {post : S → Prop} {px : SX → Prop} {B : S → State → Prop} {BX : String → SX → State → Prop} {AX : Nat → Prop} (hr : vx_Run p l e R s m args below meth c H locs cells slots mc ms (F0 m pc ls st0) rest (va_Qv post B A1 a) (vx_X px BX AX) free) (hS : va_S A0 H0 H locs) (hA : ∀ q, q < H.size → A1 q → A0 q) (hf : ∀ q, free q → A0 q) (hAX : ∀ q, q < H.size → AX q → A0 q)
    (kx : ∀ (E : String) (ce : Cell) (q9 : Addr) (u : SX) (t : State) (H1 : Heap) (locs1 : List Loc), t.heap = H1 → s.vm.Alike t.vm → px u → BX E u t → H.size ≤ H1.size → (∀ q : Nat, q < H.size → ¬ AX q → H1[q]? = H[q]?) → va_S A0 H0 H1 locs1 → H1[q9]? = some ce → ce.vm = .none → s.vm.findClass E = some ce.cls → vx_W p l e R s m args below meth c H1 locs1 (cells + mc) (slots + ms) Q (F0 m pc ls rest) q9)
    (kk : ∀ (u : S) (t : State) (H1 : Heap) (locs1 : List Loc), t.heap = H1 → s.vm.Alike t.vm → post u → B u t → H.size ≤ H1.size → (∀ q : Nat, q < H.size → ¬ A1 q → H1[q]? = H[q]?) → va_S A0 H0 H1 locs1 → W p l e R s m args below meth c H1 locs1 (cells + mc) (slots + ms) Q (F0 m (pc + 3) ls (rest))) : W p l e R s m args below meth c H locs cells slots Q (F0 m pc ls st0) := by
  intro T hT X
  rcases hr T hT X with ⟨v, st₀, t, T', L, h0, X', hL, e1, e2, ⟨⟨u, hv, hp, hb⟩, hF⟩, st⟩ | ⟨q, st₀, t, T', L, E, ce, h0, X', hL, e1, e2, ⟨u, hp, hb, hF⟩, hce, hcv, hcl, st⟩
  · cases hv
    obtain ⟨k1, k2, k3⟩ := vx_keep h0 e1 hS hA hf hL hF
    obtain ⟨t2, a1, b1⟩ := kk u t T'.heap (locs ++ L) e1.symm (by rw [← e2]; exact X'.warmed.alike) hp hb k1 k2 k3 T' rfl X'
    exact ⟨t2, st t2 a1, b1⟩
  · obtain ⟨k1, k2, k3⟩ := vx_keep h0 e1 hS hAX hf hL hF
    obtain ⟨t2, a1, b1⟩ := kx E ce q u t T'.heap (locs ++ L) e1.symm (by rw [← e2]; exact X'.warmed.alike) hp hb k1 k2 k3 (by rw [e1]; exact hce) hcv hcl T' rfl X'
    exact ⟨t2, st.trans a1, b1⟩
end Rows
section Ends
variable {p : Program} {l : Launch} {e : Env} {R : Room} {s : State} {m : MethodId} {args : Array Value} {below : List Frame} {meth : Method} {c : Code} {H : Heap} {locs : List Loc} {cells slots : Nat} {Q : State → Prop}
variable {mc ms : Nat} {free : Addr → Prop} {A0 A1 : Nat → Prop} {H0 : Heap} {a : Array Value} {ls : Array Slot} {st0 rest : List Value}
variable {Qc : Array Value → State → Outcome → State → Prop} {XC : String → State → State → Prop}
/-- what a body that may throw owes at its end -/
def vx_MQ (below : List Frame) (Qc : Array Value → State → Outcome → State → Prop) (XC : String → State → State → Prop) (a : Array Value) (s : State) (mc ms : Nat) (free : Addr → Prop) : State → Prop := fun t =>
  ∃ o, t.status = .running ∧ Ended t below o ∧ vx_Q Qc XC mc ms free a s o t
theorem vx_ret {g : JFrame} {mc ms : Nat} (k : W p l e R s m args below meth c H locs cells slots (MQ below Qc args s mc ms free) g) : W p l e R s m args below meth c H locs cells slots (vx_MQ below Qc XC args s mc ms free) g := by
  intro T hT X
  obtain ⟨t, a1, o, b1, b2, b3, b4⟩ := k T hT X
  exact ⟨t, a1, o, b1, b2, Or.inl ⟨b3, b4⟩⟩
/-- not caught here: it goes on to the caller -/
theorem vx_widen {g : JFrame} {q : Addr} {k n : Nat} (h1 : cells ≤ k) (h2 : slots ≤ n) (kk : vx_W p l e R s m args below meth c H locs k n Q g q) : vx_W p l e R s m args below meth c H locs cells slots Q g q := fun T hT X => kk T hT (stand_widen X h1 h2)
theorem vx_out {pc : Nat} {E : String} {ce : Cell} {q : Addr} {mc ms : Nat} (hout : ∀ x ∈ c.exceptionTable.toList, covers x pc = false) (hlocks : meth.locks = false) (hcell : H[q]? = some ce) (hv : ce.vm = .none) (hcl : s.vm.findClass E = some ce.cls)
    (hx : ∀ t : State, t.heap = H → s.vm.Alike t.vm → XC E s t) (hf : ∀ z ∈ locs, free z.base) (hc : cells ≤ mc) (hs : slots ≤ ms) :
    vx_W p l e R s m args below meth c H locs cells slots (vx_MQ below Qc XC args s mc ms free) (F0 m pc ls rest) q := by
  intro T hT X
  obtain ⟨st1, hrun, hend, hW, hsm⟩ := X.leaveThrown q (g := F0 m pc ls rest) rfl rfl rfl hout hlocks
  have hcell9 : (T.setFrames (.throwing q :: below)).heap[q]? = some ce := by
    show T.heap[q]? = some ce
    rw [hT]; exact hcell
  exact ⟨_, st1, .threw q, hrun, hend, Or.inr ⟨q, rfl, E, ce, locs, hx _ hT hW.alike, hcell9, hv, hcl, hW, hsm.mono hc hs, hf⟩⟩
theorem vx_frame {U : State} {k n : Nat} (h : s.sameButNew ({ U with vm := s.vm } : State) locs k n) : s.heap.size ≤ U.heap.size ∧ ∀ q : Nat, q < s.heap.size → (∀ z ∈ locs, z.base ≠ q) → U.heap[q]? = s.heap[q]? := by
  obtain ⟨-, h2, -, -, -, h6⟩ := h
  refine ⟨h2, fun q hq hz => ?_⟩
  obtain ⟨c9, e1, e2, e3, e4⟩ := h6 q _ (Array.getElem?_eq_getElem hq)
  have hs : c9.slots = (s.heap[q]).slots := Array.ext_getElem? fun i => e4 i fun hm => hz _ hm rfl
  have h9 : c9 = s.heap[q] := by
    rw [hs] at e2
    exact e2
  have e5 : U.heap[q]? = some c9 := e1
  rw [e5, h9, Array.getElem?_eq_getElem hq]
/-- the words of a throw but the four that speak of the heap -/
def vx_no (w : Cond) : Bool := decide (w ≠ .isRef (.static Bundle.tN "UNASSIGNED_STACK" Bundle.steD)) && decide (w ≠ .isRef (.static Bundle.tN "SUPPRESSED_SENTINEL" Bundle.listD)) && decide (w ≠ .laysStatic Bundle.tN "UNASSIGNED_STACK" Bundle.steD) && decide (w ≠ .laysStatic Bundle.tN "SUPPRESSED_SENTINEL" Bundle.listD)
def vx_at0 (own : String) (ic : Nat) (X : String) (names : List String) : List Cond := (Bundle.ownAtoms0 own ic X names).filter vx_no
def vx_atS (own : String) (ic : Nat) (X : String) (names : List String) : List Cond := (Bundle.ownAtoms own ic X names).filter vx_no
/-- a word that the tables alone decide, or a good one -/
def vx_ot (w : Cond) : Bool := w.onTables || goodWord w
theorem vx_ot_at {args a' : Array Value} {s U : State} {w : Cond} (hW : s.WarmedH U.vm) (hvm : s.vm = U.vm) (hg : vx_ot w = true) (h : w.before args s = true) : w.before a' U = true := by
  simp only [vx_ot, Bool.or_eq_true] at hg
  rcases hg with hg | hg
  · exact va_tabs hg hvm h
  · exact word_at hW (good_of_word hg) h
/-- a list's words: the good ones out of the method's own list, the others by premises of their own -/
theorem vx_hat {args : Array Value} {s : State} {L B : List Cond} (h1 : ∀ w ∈ L.filter goodWord, w.before args s = true) (h2 : ∀ w ∈ L.filter (fun w => !goodWord w), w ∈ B) (h3 : ∀ w ∈ B, w.before args s = true) : ∀ w ∈ L, w.before args s = true := by
  intro w hw
  by_cases g : goodWord w = true
  · exact h1 w (List.mem_filter.mpr ⟨hw, g⟩)
  · refine h3 w (h2 w (List.mem_filter.mpr ⟨hw, ?_⟩))
    show (!goodWord w) = true
    cases hgw : goodWord w
    · rfl
    · exact absurd hgw g
theorem vx_c {args : Array Value} {s : State} {w : Cond} {B : List Cond} (h : w.before args s = true) (t : ∀ w ∈ B, w.before args s = true) : ∀ w' ∈ w :: B, w'.before args s = true := fun w' h' => (List.mem_cons.mp h').elim (fun e => by rw [e]; exact h) (t w')
theorem vx_n {args : Array Value} {s : State} : ∀ w ∈ ([] : List Cond), w.before args s = true := fun _ h => nomatch h
theorem vx_own {args : Array Value} {s : State} {L : List Cond} (h1 : ∀ w ∈ L.filter vx_no, w.before args s = true)
    (hU : (Cond.isRef (.static Bundle.tN "UNASSIGNED_STACK" Bundle.steD)).before args s = true) (hN : (Cond.isRef (.static Bundle.tN "SUPPRESSED_SENTINEL" Bundle.listD)).before args s = true)
    (lU : (Cond.laysStatic Bundle.tN "UNASSIGNED_STACK" Bundle.steD).before args s = true) (lN : (Cond.laysStatic Bundle.tN "SUPPRESSED_SENTINEL" Bundle.listD).before args s = true) : ∀ w ∈ L, w.before args s = true := by
  intro w hw
  by_cases e1 : w = .isRef (.static Bundle.tN "UNASSIGNED_STACK" Bundle.steD)
  · rw [e1]; exact hU
  · by_cases e2 : w = .isRef (.static Bundle.tN "SUPPRESSED_SENTINEL" Bundle.listD)
    · rw [e2]; exact hN
    · by_cases e3 : w = .laysStatic Bundle.tN "UNASSIGNED_STACK" Bundle.steD
      · rw [e3]; exact lU
      · by_cases e4 : w = .laysStatic Bundle.tN "SUPPRESSED_SENTINEL" Bundle.listD
        · rw [e4]; exact lN
        · exact h1 w (List.mem_filter.mpr ⟨hw, by unfold vx_no; rw [decide_eq_true e1, decide_eq_true e2, decide_eq_true e3, decide_eq_true e4]; rfl⟩)
/-- where a static field lies, its class's statics cell in H -/
def vx_L (C n d : String) (A : Nat → Prop) (U : State) (H : Heap) : Prop := ∃ (c : ClassId) (k : Class) (i : Nat) (f : Field) (a : Nat) (cell : Cell), U.vm.findClass C = some c ∧ U.fieldFound? C n d = some (c, k, i, f) ∧ f.isStatic = true ∧ k.statics = some a ∧ H[a]? = some cell ∧ cell.vm.isStatics = true ∧ cell.cls = c ∧ f.slot < cell.slots.size ∧ k.staticTypes[f.slot]? = some f.type ∧ ¬ A a
theorem vx_L.moved {C n d : String} {A : Nat → Prop} {u U : State} {H : Heap} (hvm : u.vm.Alike U.vm) (h : vx_L C n d A u H) : vx_L C n d A U H := by
  obtain ⟨c, k, i, f, a, cell, h1, h2, h3, h4, h5, h6, h7, h8, h9, h10⟩ := h
  obtain ⟨k', hi', he⟩ := State.fieldFound?_setVm hvm h2
  exact ⟨c, k', i, f, a, cell, by rw [hvm.findClass]; exact h1, hi', h3, by rw [he]; exact h4, h5, h6, h7, h8, by rw [he]; exact h9, h10⟩
theorem vx_L.kept {C n d : String} {A : Nat → Prop} {U : State} {H H1 : Heap} (h : vx_L C n d A U H) (hq : ∀ a : Nat, a < H.size → ¬ A a → H1[a]? = H[a]?) : vx_L C n d A U H1 := by
  obtain ⟨c, k, i, f, a, cell, h1, h2, h3, h4, h5, h6, h7, h8, h9, h10⟩ := h
  exact ⟨c, k, i, f, a, cell, h1, h2, h3, h4, by rw [hq a (Array.getElem?_eq_some_iff.mp h5).1 h10]; exact h5, h6, h7, h8, h9, h10⟩
theorem vx_L.narrow {C n d : String} {A B : Nat → Prop} {U : State} {H : Heap} (h : vx_L C n d A U H) (hAB : ∀ q, B q → A q) : vx_L C n d B U H := by
  obtain ⟨c, k, i, f, a, cell, h1, h2, h3, h4, h5, h6, h7, h8, h9, h10⟩ := h
  exact ⟨c, k, i, f, a, cell, h1, h2, h3, h4, h5, h6, h7, h8, h9, fun z => h10 (hAB _ z)⟩
theorem vx_L.word {C n d : String} {A : Nat → Prop} {s : State} {args : Array Value} (h : vx_L C n d A s s.heap) : (Cond.laysStatic C n d).before args s = true := by
  obtain ⟨c, k, i, f, a, cell, h1, h2, h3, h4, h5, h6, h7, h8, h9, -⟩ := h
  show (Cond.laysStatic C n d).holds args s none s [] = true
  exact Cond.laysStatic_of h1 h2 h3 h4 h5 h6 h7 h8 h9
/-- .. and what it holds: null or some reference -/
def vx_Zq (C n d : String) (A : Nat → Prop) (U : State) (H : Heap) : Prop := va_Zq C n d A U H ∧ vx_L C n d A U H
theorem vx_Zq.moved {C n d : String} {A : Nat → Prop} {u U : State} {H : Heap} (hvm : u.vm.Alike U.vm) (h : vx_Zq C n d A u H) : vx_Zq C n d A U H := ⟨va_Zq.moved hvm h.1, vx_L.moved hvm h.2⟩
theorem vx_Zq.kept {C n d : String} {A : Nat → Prop} {U : State} {H H1 : Heap} (h : vx_Zq C n d A U H) (hq : ∀ a : Nat, a < H.size → ¬ A a → H1[a]? = H[a]?) : vx_Zq C n d A U H1 := ⟨va_Zq.kept h.1 hq, vx_L.kept h.2 hq⟩
theorem vx_Zq.narrow {C n d : String} {A B : Nat → Prop} {U : State} {H : Heap} (h : vx_Zq C n d A U H) (hAB : ∀ q, B q → A q) : vx_Zq C n d B U H := ⟨va_Zq.narrow h.1 hAB, vx_L.narrow h.2 hAB⟩
theorem vx_Zqof {args : Array Value} {s : State} {C n d : String} {A : Nat → Prop} (hl : (Cond.laysStatic C n d).before args s = true) (hini : (Cond.initialized C).before args s = true) (h : (Cond.isRef (.static C n d)).before args s = true) (hA : ∀ a : Nat, a < s.heap.size → ¬ A a) : vx_Zq C n d A s s.heap := by
  refine ⟨va_Zqof hl hini h hA, ?_⟩
  obtain ⟨c, k, i, f, a, cell, h1, h2, h3, h4, h5, h6, h7, h8, h9⟩ := Cond.laysStatic_spec hl
  exact ⟨c, k, i, f, a, cell, h1, h2, h3, h4, h5, h6, h7, h8, h9, hA a (Array.getElem?_eq_some_iff.mp h5).1⟩
theorem vx_isRef {C n d : String} {v : Value} {A : Nat → Prop} {s : State} {args : Array Value} (h : va_Z C n d v A s s.heap) (hv : v.isRef = true) : (Cond.isRef (.static C n d)).before args s = true := by
  obtain ⟨cf, kf, fi, f, a, cell, h1, h2, h3, h4, h5, h6, h7, -⟩ := h
  have he : (Term.static C n d).eval args s none [] s = some v := by
    simp [Term.eval, State.fieldNamed?, h1, h2, h4, h5, h6, h7]
  simp only [Cond.before, Cond.holds, Cond.value, he]
  cases v <;> simp_all [Value.isRef]
theorem vx_isRefq {C n d : String} {A : Nat → Prop} {s : State} {args : Array Value} (h : va_Zq C n d A s s.heap) : (Cond.isRef (.static C n d)).before args s = true := by
  rcases h with h | ⟨t, h⟩
  · exact vx_isRef h rfl
  · exact vx_isRef h rfl
/-- the same frame, seen from here: as if the method were called anew in this heap -/
theorem vx_rebase {T : State} (X : Stand p l e R s m args below meth c T locs cells slots) {R' : Room} (hf : R'.frames ≤ R.frames) (hl : R'.locals ≤ R.locals) (hc : cells + R'.cells ≤ R.cells) (hs : slots + R'.slots ≤ R.slots) :
    Stand p l e R' ((T.setVm s.vm).setFrames (.invoking m args :: below)) m args below meth c T [] 0 0 := by
  have htop : (T.setVm s.vm).topJava?.isSome := X.here.top
  have hF : ((T.setVm s.vm).setFrames (.invoking m args :: below)).frames = .invoking m args :: below := State.frames_setFrames _ (State.cur_lt_of_top htop)
  obtain ⟨g₀, hg0⟩ := Option.isSome_iff_exists.mp htop
  obtain ⟨r, hr⟩ := State.topJava?_eq_some.mp hg0
  have hl9 : e.platform.stackLimits (T.setVm s.vm).me = e.platform.stackLimits s.me := X.limits
  have hb9 : (T.setVm s.vm).me.stackBytes = s.me.stackBytes := X.bytes
  refine ⟨X.admits, X.cas, X.clock, hF, ?_, X.hears, X.method, X.code, X.here, X.tail, X.warmed, ?_, ?_, ?_⟩
  · have h := X.room
    have hU : ((T.setVm s.vm).setFrames (.invoking m args :: below)).localsInUse = s.localsInUse := by
      rw [State.localsInUse_invoking hF (meth := meth) (c := c) X.method X.code, State.localsInUse_invoking X.frames X.method X.code]
    simp only [State.hasRoom, Bool.and_eq_true, decide_eq_true_eq] at h ⊢
    obtain ⟨⟨⟨⟨h1, h2, h3, h4, h5, h6⟩, h7⟩, h8⟩, h9⟩ := h
    rw [X.frames, List.length_cons] at h2 h3
    have q1 := X.heapSize
    have q2 := X.used
    simp only [hF, hU, List.length_cons, State.stackLimits_setFrames, State.stackBytes_setFrames, hl9, hb9]
    refine ⟨⟨⟨⟨by omega, by omega, by omega, by omega, by omega, h6⟩, ?_⟩, ?_⟩, X.book⟩
    · show T.heap.size + R'.cells ≤ e.platform.maxCells
      omega
    · show T.slotsUsed + R'.slots ≤ e.platform.maxSlots
      omega
  · rw [State.stackLimits_setFrames]; rfl
  · rw [State.stackBytes_setFrames]; rfl
  · refine ⟨?_, Nat.le_refl _, Nat.le_refl _, ?_, ?_, fun a c9 h9 => ⟨c9, h9, rfl, rfl, fun _ _ => rfl⟩⟩
    · obtain ⟨t, ht, -⟩ := State.frames_cons hr
      show T.setVm s.vm = { ((T.setVm s.vm).setFrames (.invoking m args :: below)).setFrames (T.setVm s.vm).frames with heap := T.heap, slotsUsed := T.slotsUsed }
      rw [State.setFrames_setFrames, State.setFrames_self ht]
      rfl
    · show T.slotsUsed = T.slotsUsed + ((T.heap.toList.drop T.heap.size).map (·.slots.size)).sum
      rw [List.drop_eq_nil_of_le (Nat.le_of_eq Array.length_toList)]
      rfl
    · show ((T.heap.toList.drop T.heap.size).map (·.slots.size)).sum ≤ 0
      rw [List.drop_eq_nil_of_le (Nat.le_of_eq Array.length_toList)]
      exact Nat.le_refl _
/-- 'throw new E()': new; dup; invokespecial; athrow -/
theorem vx_throw0 {cc : ByteArray} {pc : Nat} (hexec : p.tables.exec = Jvm.exec) (hb : c.code = cc) (hl : l.stackTraces = false) {own cls : String} {names : List String} {ik ic mc ms : Nat} {A : Nat → Prop}
    (hown : s.vm.findClass own = some m.cls) (hcls : Bundle.fit cls = true) (hnames : ∀ n ∈ names, Bundle.fit n = true)
    (hk : (Cond.classLink own ik cls).before args s = true) (hini : (Cond.initialized cls).before args s = true) (hat : ∀ w ∈ vx_at0 own ic cls names, w.before args s = true)
    (hgood : ∀ w ∈ Cond.classLink own ik cls :: Cond.initialized cls :: vx_at0 own ic cls names, vx_ot w = true)
    (hU : vx_Zq Bundle.tN "UNASSIGNED_STACK" Bundle.steD A s s.heap) (hN : vx_Zq Bundle.tN "SUPPRESSED_SENTINEL" Bundle.listD A s s.heap) (hS : va_S A s.heap H locs) (hsize : ls.size = c.maxLocals)
    (d0 : decode cc pc = .ok (.new ik, 3)) (d3 : decode cc (pc + 3) = .ok (.dup, 1)) (d4 : decode cc (pc + 4) = .ok (.invokespecial ic, 3)) (d7 : decode cc (pc + 7) = .ok (.athrow, 1))
    (hout : ∀ x ∈ c.exceptionTable.toList, covers x (pc + 7) = false)
    (hRframes : names.length + 3 < R.frames) (hRlocals : (rest.map fun v => v.category).sum + (13 * (names.length + 1) + 42) ≤ R.locals) (hRcells : cells + 1 ≤ R.cells) (hRslots : slots + 6 ≤ R.slots) (hlocks : meth.locks = false)
    (hx : ∀ t : State, s.vm.Alike t.vm → H.size ≤ t.heap.size → (∀ q : Nat, q < H.size → t.heap[q]? = H[q]?) → XC cls s t)
    (hf : ∀ z ∈ locs, free z.base) (hc : cells + 1 ≤ mc) (hs : slots + 6 ≤ ms) :
    W p l e R s m args below meth c H locs cells slots (vx_MQ below Qc XC args s mc ms free) (F0 m pc ls rest) := by
  intro T hT X
  have htr : e.platform.stackTraces = false := (show e.platform.stackTraces = l.stackTraces by rw [X.admits.platform]).trans hl
  have Y := vx_rebase X (R' := { frames := R.frames, locals := R.locals, cells := 1, slots := 6 }) (Nat.le_refl _) (Nat.le_refl _) hRcells hRslots
  obtain ⟨s', hA⟩ : ∃ z, z = (T.setVm s.vm).setFrames (.invoking m args :: below) := ⟨_, rfl⟩
  rw [← hA] at Y
  have hvm : s'.vm = s.vm := by rw [hA]; rfl
  have hhp : s'.heap = H := by rw [hA]; exact hT
  have hW0 : s.WarmedH s'.vm := by rw [hvm]; exact State.WarmedH.refl s
  have hat' : ∀ w ∈ vx_at0 own ic cls names, w.before args s' = true := fun w hw => vx_ot_at hW0 hvm.symm (hgood w (List.mem_cons_of_mem _ (List.mem_cons_of_mem _ hw))) (hat w hw)
  have hk' : (Cond.classLink own ik cls).before args s' = true := vx_ot_at hW0 hvm.symm (hgood _ List.mem_cons_self) hk
  have hini' : (Cond.initialized cls).before args s' = true := vx_ot_at hW0 hvm.symm (hgood _ (List.mem_cons_of_mem _ List.mem_cons_self)) hini
  have hU' : vx_Zq Bundle.tN "UNASSIGNED_STACK" Bundle.steD A s' s'.heap := by rw [hhp]; exact vx_Zq.moved hW0.alike (hU.kept hS.2.1)
  have hN' : vx_Zq Bundle.tN "SUPPRESSED_SENTINEL" Bundle.listD A s' s'.heap := by rw [hhp]; exact vx_Zq.moved hW0.alike (hN.kept hS.2.1)
  have h : ∀ w ∈ Bundle.ownAtoms0 own ic cls names, w.before args s' = true := vx_own hat' (vx_isRefq hU'.1) (vx_isRefq hN'.1) hU'.2.word hN'.2.word
  have hown' : s'.vm.findClass own = some m.cls := by rw [hvm]; exact hown
  have hins : (Cond.instantiable cls 6).before args s' = true := h _ (by simp [Bundle.ownAtoms0])
  obtain ⟨vm₁, cX, kX, hfX, hkX, -, -, X₁, st1⟩ := Y.newCold hexec (own := own) (C := cls) (index := ik) (n := 6) hown' hk' hins hini'
    (g := F0 m pc ls rest) rfl (by rw [hb]; exact d0) (Nat.le_refl _) (Nat.le_refl _)
  generalize hT1 : (T.setVm vm₁).pushCell { cls := cX, slots := kX.instanceTypes.map defaultValue, vm := .none } = T1 at X₁ st1
  have hcat : (Value.ref T.heap.size).category = 1 := rfl
  have hcellA : T1.heap[T.heap.size]? = some (freshCell cX kX) := by rw [← hT1]; exact State.heap_pushCell_size _ _
  have d3' : decode c.code (pc + 3) = .ok (.dup, 1) := by rw [hb]; exact d3
  obtain ⟨U, hsteps, hrun, hend, hW, hsame, ce, hce, hO⟩ := X₁.ctorThrow0 hexec htr (own := own) (cls := cls) (names := names) (ic := ic) hown' hcls hnames h (fun x hx => nomatch hx) hfX hkX hcellA (by rw [hhp, hT]; exact Nat.le_refl _)
    (g := { method := m, pc := pc + 4, locals := ls, stack := .ref T.heap.size :: .ref T.heap.size :: rest, locked := none }) rfl hsize rfl rfl (rest := rest) rfl
    (by rw [hb]; exact d4) (by rw [hb]; exact d7) hout hRframes (by simp only [List.map_cons, List.sum_cons, hcat]; omega) hlocks
  obtain ⟨f1, f2⟩ := vx_frame hsame
  rw [hhp] at f1 f2
  have hWs : s.WarmedH U.vm := State.WarmedH.trans hW0 hW
  have hcl : s.vm.findClass cls = some ce.cls := by
    have h9 := hO.cls
    rw [hvm] at h9
    exact h9
  have hall : s.sameButNew ({ U with vm := s.vm } : State) locs mc ms := by
    subst hA
    obtain ⟨e1, e2⟩ := hsame
    rw [State.setFrames_setFrames] at e1
    have h2 : (T.setVm s.vm).sameButNew ({ U with vm := s.vm } : State) [] (0 + 1) (0 + 6) := ⟨e1, e2⟩
    have h3 := X.same.trans h2
    rw [List.append_nil] at h3
    exact h3.mono hc hs
  refine ⟨U, ?_, .threw T.heap.size, hrun, hend, Or.inr ⟨T.heap.size, rfl, cls, ce, locs, hx U hWs.alike f1 (fun q hq => f2 q hq (fun z hz => nomatch hz)), hce, hO.vm, hcl, hWs, hall, hf⟩⟩
  refine st1 _ ?_
  show Steps p.tables e below (T1.setTop { method := m, pc := pc + 3, locals := ls, stack := .ref T.heap.size :: rest, locked := none }) _
  jvm_step X₁.here [X₁.here.top, hexec, d3', Value.category]
  exact hsteps
/-- 'throw new E("text")': new; dup; ldc; invokespecial; athrow -/
theorem vx_throwS {cc : ByteArray} {pc : Nat} (hexec : p.tables.exec = Jvm.exec) (hb : c.code = cc) (hl : l.stackTraces = false) {own cls text : String} {names : List String} {ik is ic mc ms sa : Nat} {A : Nat → Prop}
    (hown : s.vm.findClass own = some m.cls) (hcls : Bundle.fit cls = true) (hnames : ∀ n ∈ names, Bundle.fit n = true)
    (hk : (Cond.classLink own ik cls).before args s = true) (hini : (Cond.initialized cls).before args s = true) (hstr : vk_R own is text sa s) (hat : ∀ w ∈ vx_atS own ic cls names, w.before args s = true)
    (hgood : ∀ w ∈ Cond.classLink own ik cls :: Cond.initialized cls :: vx_atS own ic cls names, vx_ot w = true)
    (hU : vx_Zq Bundle.tN "UNASSIGNED_STACK" Bundle.steD A s s.heap) (hN : vx_Zq Bundle.tN "SUPPRESSED_SENTINEL" Bundle.listD A s s.heap) (hS : va_S A s.heap H locs) (hsize : ls.size = c.maxLocals)
    (d0 : decode cc pc = .ok (.new ik, 3)) (d3 : decode cc (pc + 3) = .ok (.dup, 1)) (d4 : decode cc (pc + 4) = .ok (.ldc is, 2)) (d6 : decode cc (pc + 6) = .ok (.invokespecial ic, 3)) (d9 : decode cc (pc + 9) = .ok (.athrow, 1))
    (hout : ∀ x ∈ c.exceptionTable.toList, covers x (pc + 9) = false)
    (hRframes : names.length + 3 < R.frames) (hRlocals : (rest.map fun v => v.category).sum + (13 * (names.length + 1) + 43) ≤ R.locals) (hRcells : cells + 1 ≤ R.cells) (hRslots : slots + 6 ≤ R.slots) (hlocks : meth.locks = false)
    (hx : ∀ t : State, s.vm.Alike t.vm → H.size ≤ t.heap.size → (∀ q : Nat, q < H.size → t.heap[q]? = H[q]?) → XC cls s t)
    (hf : ∀ z ∈ locs, free z.base) (hc : cells + 1 ≤ mc) (hs : slots + 6 ≤ ms) :
    W p l e R s m args below meth c H locs cells slots (vx_MQ below Qc XC args s mc ms free) (F0 m pc ls rest) := by
  intro T hT X
  have htr : e.platform.stackTraces = false := (show e.platform.stackTraces = l.stackTraces by rw [X.admits.platform]).trans hl
  have Y := vx_rebase X (R' := { frames := R.frames, locals := R.locals, cells := 1, slots := 6 }) (Nat.le_refl _) (Nat.le_refl _) hRcells hRslots
  obtain ⟨s', hA⟩ : ∃ z, z = (T.setVm s.vm).setFrames (.invoking m args :: below) := ⟨_, rfl⟩
  rw [← hA] at Y
  have hvm : s'.vm = s.vm := by rw [hA]; rfl
  have hhp : s'.heap = H := by rw [hA]; exact hT
  have hW0 : s.WarmedH s'.vm := by rw [hvm]; exact State.WarmedH.refl s
  have hat' : ∀ w ∈ vx_atS own ic cls names, w.before args s' = true := fun w hw => vx_ot_at hW0 hvm.symm (hgood w (List.mem_cons_of_mem _ (List.mem_cons_of_mem _ hw))) (hat w hw)
  have hk' : (Cond.classLink own ik cls).before args s' = true := vx_ot_at hW0 hvm.symm (hgood _ List.mem_cons_self) hk
  have hini' : (Cond.initialized cls).before args s' = true := vx_ot_at hW0 hvm.symm (hgood _ (List.mem_cons_of_mem _ List.mem_cons_self)) hini
  have hU' : vx_Zq Bundle.tN "UNASSIGNED_STACK" Bundle.steD A s' s'.heap := by rw [hhp]; exact vx_Zq.moved hW0.alike (hU.kept hS.2.1)
  have hN' : vx_Zq Bundle.tN "SUPPRESSED_SENTINEL" Bundle.listD A s' s'.heap := by rw [hhp]; exact vx_Zq.moved hW0.alike (hN.kept hS.2.1)
  have h : ∀ w ∈ Bundle.ownAtoms own ic cls names, w.before args s' = true := vx_own hat' (vx_isRefq hU'.1) (vx_isRefq hN'.1) hU'.2.word hN'.2.word
  have hown' : s'.vm.findClass own = some m.cls := by rw [hvm]; exact hown
  have hins : (Cond.instantiable cls 6).before args s' = true := h _ (by simp [Bundle.ownAtoms])
  obtain ⟨vm₁, cX, kX, hfX, hkX, -, -, X₁, st1⟩ := Y.newCold hexec (own := own) (C := cls) (index := ik) (n := 6) hown' hk' hins hini'
    (g := F0 m pc ls rest) rfl (by rw [hb]; exact d0) (Nat.le_refl _) (Nat.le_refl _)
  generalize hT1 : (T.setVm vm₁).pushCell { cls := cX, slots := kX.instanceTypes.map defaultValue, vm := .none } = T1 at X₁ st1
  have hcat : (Value.ref T.heap.size).category = 1 := rfl
  have hcellA : T1.heap[T.heap.size]? = some (freshCell cX kX) := by rw [← hT1]; exact State.heap_pushCell_size _ _
  have d3' : decode c.code (pc + 3) = .ok (.dup, 1) := by rw [hb]; exact d3
  have d4' : decode c.code (pc + 4) = .ok (.ldc is, 2) := by rw [hb]; exact d4
  have hstr' : vk_R own is text sa s' := vk_R.warm hW0 hstr
  obtain ⟨U, hsteps, hrun, hend, hW, hsame, ce, hce, hO⟩ := X₁.ctorThrowS hexec htr (own := own) (cls := cls) (names := names) (ic := ic) hown' hcls hnames h (fun x hx => nomatch hx) hfX hkX hcellA (by rw [hhp, hT]; exact Nat.le_refl _) (msg := .ref sa) rfl
    (g := { method := m, pc := pc + 6, locals := ls, stack := .ref sa :: .ref T.heap.size :: .ref T.heap.size :: rest, locked := none }) rfl hsize rfl rfl (rest := rest) rfl
    (by rw [hb]; exact d6) (by rw [hb]; exact d9) hout hRframes (by simp only [List.map_cons, List.sum_cons, hcat]; omega) hlocks
  obtain ⟨f1, f2⟩ := vx_frame hsame
  rw [hhp] at f1 f2
  have hWs : s.WarmedH U.vm := State.WarmedH.trans hW0 hW
  have hcl : s.vm.findClass cls = some ce.cls := by
    have h9 := hO.cls
    rw [hvm] at h9
    exact h9
  have hall : s.sameButNew ({ U with vm := s.vm } : State) locs mc ms := by
    subst hA
    obtain ⟨e1, e2⟩ := hsame
    rw [State.setFrames_setFrames] at e1
    have h2 : (T.setVm s.vm).sameButNew ({ U with vm := s.vm } : State) [] (0 + 1) (0 + 6) := ⟨e1, e2⟩
    have h3 := X.same.trans h2
    rw [List.append_nil] at h3
    exact h3.mono hc hs
  refine ⟨U, ?_, .threw T.heap.size, hrun, hend, Or.inr ⟨T.heap.size, rfl, cls, ce, locs, hx U hWs.alike f1 (fun q hq => f2 q hq (fun z hz => nomatch hz)), hce, hO.vm, hcl, hWs, hall, hf⟩⟩
  refine st1 _ ?_
  show Steps p.tables e below (T1.setTop { method := m, pc := pc + 3, locals := ls, stack := .ref T.heap.size :: rest, locked := none }) _
  jvm_step X₁.here [X₁.here.top, hexec, d3', Value.category]
  exact X₁.ldcString hexec (own := own) (text := text) (index := is) (a := sa) hown' hstr'.1 hstr'.2
    (g := { method := m, pc := pc + 4, locals := ls, stack := .ref T.heap.size :: .ref T.heap.size :: rest, locked := none }) rfl d4' _ hsteps
/-- 'throw new E("text")', the text by a wide index -/
theorem vx_throwSW {cc : ByteArray} {pc : Nat} (hexec : p.tables.exec = Jvm.exec) (hb : c.code = cc) (hl : l.stackTraces = false) {own cls text : String} {names : List String} {ik is ic mc ms sa : Nat} {A : Nat → Prop}
    (hown : s.vm.findClass own = some m.cls) (hcls : Bundle.fit cls = true) (hnames : ∀ n ∈ names, Bundle.fit n = true)
    (hk : (Cond.classLink own ik cls).before args s = true) (hini : (Cond.initialized cls).before args s = true) (hstr : vk_R own is text sa s) (hat : ∀ w ∈ vx_atS own ic cls names, w.before args s = true)
    (hgood : ∀ w ∈ Cond.classLink own ik cls :: Cond.initialized cls :: vx_atS own ic cls names, vx_ot w = true)
    (hU : vx_Zq Bundle.tN "UNASSIGNED_STACK" Bundle.steD A s s.heap) (hN : vx_Zq Bundle.tN "SUPPRESSED_SENTINEL" Bundle.listD A s s.heap) (hS : va_S A s.heap H locs) (hsize : ls.size = c.maxLocals)
    (d0 : decode cc pc = .ok (.new ik, 3)) (d3 : decode cc (pc + 3) = .ok (.dup, 1)) (d4 : decode cc (pc + 4) = .ok (.ldc_w is, 3)) (d7 : decode cc (pc + 7) = .ok (.invokespecial ic, 3)) (d10 : decode cc (pc + 10) = .ok (.athrow, 1))
    (hout : ∀ x ∈ c.exceptionTable.toList, covers x (pc + 10) = false)
    (hRframes : names.length + 3 < R.frames) (hRlocals : (rest.map fun v => v.category).sum + (13 * (names.length + 1) + 43) ≤ R.locals) (hRcells : cells + 1 ≤ R.cells) (hRslots : slots + 6 ≤ R.slots) (hlocks : meth.locks = false)
    (hx : ∀ t : State, s.vm.Alike t.vm → H.size ≤ t.heap.size → (∀ q : Nat, q < H.size → t.heap[q]? = H[q]?) → XC cls s t)
    (hf : ∀ z ∈ locs, free z.base) (hc : cells + 1 ≤ mc) (hs : slots + 6 ≤ ms) :
    W p l e R s m args below meth c H locs cells slots (vx_MQ below Qc XC args s mc ms free) (F0 m pc ls rest) := by
  intro T hT X
  have htr : e.platform.stackTraces = false := (show e.platform.stackTraces = l.stackTraces by rw [X.admits.platform]).trans hl
  have Y := vx_rebase X (R' := { frames := R.frames, locals := R.locals, cells := 1, slots := 6 }) (Nat.le_refl _) (Nat.le_refl _) hRcells hRslots
  obtain ⟨s', hA⟩ : ∃ z, z = (T.setVm s.vm).setFrames (.invoking m args :: below) := ⟨_, rfl⟩
  rw [← hA] at Y
  have hvm : s'.vm = s.vm := by rw [hA]; rfl
  have hhp : s'.heap = H := by rw [hA]; exact hT
  have hW0 : s.WarmedH s'.vm := by rw [hvm]; exact State.WarmedH.refl s
  have hat' : ∀ w ∈ vx_atS own ic cls names, w.before args s' = true := fun w hw => vx_ot_at hW0 hvm.symm (hgood w (List.mem_cons_of_mem _ (List.mem_cons_of_mem _ hw))) (hat w hw)
  have hk' : (Cond.classLink own ik cls).before args s' = true := vx_ot_at hW0 hvm.symm (hgood _ List.mem_cons_self) hk
  have hini' : (Cond.initialized cls).before args s' = true := vx_ot_at hW0 hvm.symm (hgood _ (List.mem_cons_of_mem _ List.mem_cons_self)) hini
  have hU' : vx_Zq Bundle.tN "UNASSIGNED_STACK" Bundle.steD A s' s'.heap := by rw [hhp]; exact vx_Zq.moved hW0.alike (hU.kept hS.2.1)
  have hN' : vx_Zq Bundle.tN "SUPPRESSED_SENTINEL" Bundle.listD A s' s'.heap := by rw [hhp]; exact vx_Zq.moved hW0.alike (hN.kept hS.2.1)
  have h : ∀ w ∈ Bundle.ownAtoms own ic cls names, w.before args s' = true := vx_own hat' (vx_isRefq hU'.1) (vx_isRefq hN'.1) hU'.2.word hN'.2.word
  have hown' : s'.vm.findClass own = some m.cls := by rw [hvm]; exact hown
  have hins : (Cond.instantiable cls 6).before args s' = true := h _ (by simp [Bundle.ownAtoms])
  obtain ⟨vm₁, cX, kX, hfX, hkX, -, -, X₁, st1⟩ := Y.newCold hexec (own := own) (C := cls) (index := ik) (n := 6) hown' hk' hins hini'
    (g := F0 m pc ls rest) rfl (by rw [hb]; exact d0) (Nat.le_refl _) (Nat.le_refl _)
  generalize hT1 : (T.setVm vm₁).pushCell { cls := cX, slots := kX.instanceTypes.map defaultValue, vm := .none } = T1 at X₁ st1
  have hcat : (Value.ref T.heap.size).category = 1 := rfl
  have hcellA : T1.heap[T.heap.size]? = some (freshCell cX kX) := by rw [← hT1]; exact State.heap_pushCell_size _ _
  have d3' : decode c.code (pc + 3) = .ok (.dup, 1) := by rw [hb]; exact d3
  have d4' : decode c.code (pc + 4) = .ok (.ldc_w is, 3) := by rw [hb]; exact d4
  have hstr' : vk_R own is text sa s' := vk_R.warm hW0 hstr
  obtain ⟨U, hsteps, hrun, hend, hW, hsame, ce, hce, hO⟩ := X₁.ctorThrowS hexec htr (own := own) (cls := cls) (names := names) (ic := ic) hown' hcls hnames h (fun x hx => nomatch hx) hfX hkX hcellA (by rw [hhp, hT]; exact Nat.le_refl _) (msg := .ref sa) rfl
    (g := { method := m, pc := pc + 7, locals := ls, stack := .ref sa :: .ref T.heap.size :: .ref T.heap.size :: rest, locked := none }) rfl hsize rfl rfl (rest := rest) rfl
    (by rw [hb]; exact d7) (by rw [hb]; exact d10) hout hRframes (by simp only [List.map_cons, List.sum_cons, hcat]; omega) hlocks
  obtain ⟨f1, f2⟩ := vx_frame hsame
  rw [hhp] at f1 f2
  have hWs : s.WarmedH U.vm := State.WarmedH.trans hW0 hW
  have hcl : s.vm.findClass cls = some ce.cls := by
    have h9 := hO.cls
    rw [hvm] at h9
    exact h9
  have hall : s.sameButNew ({ U with vm := s.vm } : State) locs mc ms := by
    subst hA
    obtain ⟨e1, e2⟩ := hsame
    rw [State.setFrames_setFrames] at e1
    have h2 : (T.setVm s.vm).sameButNew ({ U with vm := s.vm } : State) [] (0 + 1) (0 + 6) := ⟨e1, e2⟩
    have h3 := X.same.trans h2
    rw [List.append_nil] at h3
    exact h3.mono hc hs
  refine ⟨U, ?_, .threw T.heap.size, hrun, hend, Or.inr ⟨T.heap.size, rfl, cls, ce, locs, hx U hWs.alike f1 (fun q hq => f2 q hq (fun z hz => nomatch hz)), hce, hO.vm, hcl, hWs, hall, hf⟩⟩
  refine st1 _ ?_
  show Steps p.tables e below (T1.setTop { method := m, pc := pc + 3, locals := ls, stack := .ref T.heap.size :: rest, locked := none }) _
  jvm_step X₁.here [X₁.here.top, hexec, d3', Value.category]
  exact X₁.ldcStringW hexec (own := own) (text := text) (index := is) (a := sa) hown' hstr'.1 hstr'.2
    (g := { method := m, pc := pc + 4, locals := ls, stack := .ref T.heap.size :: .ref T.heap.size :: rest, locked := none }) rfl d4' _ hsteps
end Ends
section Bodies
variable {l : Launch}
theorem vx_ofW {y : MethodName} {ws ws' : List Cond} {rm : Room} {Pc : Array Value → State → Prop} {Qc : Array Value → State → Outcome → State → Prop} {XC : String → State → State → Prop} {mc ms : Nat} {free : Addr → Prop} {cc : ByteArray} {maxL : Nat} {ret : Option FieldType}
    (hy : plainName y.cls = true) (hw : ws = Cond.code y cc maxL ret :: ws')
    (body : ∀ p e s m args below meth c s₁, BodyLoose p l y (headSpec ws rm) cc maxL ret e s m args below meth c s₁ → c.maxLocals = maxL → (∀ x ∈ c.exceptionTable.toList, False) → Pc args s →
      W p l e (headSpec ws rm).room s m args below meth c s.heap [] 0 0 (vx_MQ below Qc XC args s mc ms free) (entryFrame m args maxL)) : vx_Met l y ws rm Pc Qc XC mc ms free := by
  refine MetFree.of_bodyS (code := cc) (maxLocals := maxL) (ret := ret) hy ?_ ?_
  · intro args s m h hn
    obtain ⟨meth, c, h1, h2, h3, h4, h5, h6, -, -⟩ := Cond.code_spec hn (atoms_spec (ws := ws) h _ (by rw [hw]; exact List.mem_cons_self))
    exact ⟨meth, c, h1, h2, h3, h4, h5, h6⟩
  · intro p e s m args below meth c s₁ B hml hP _
    have hh0 : s₁.heap = s.heap := by rw [B.state]; rfl
    have ht : ∀ x ∈ c.exceptionTable.toList, False := by
      obtain ⟨meth9, c9, h1, h2, -, -, -, -, h7, -⟩ := Cond.code_spec B.named (atoms_spec (ws := ws) B.pre _ (by rw [hw]; exact List.mem_cons_self))
      cases Option.some.inj (h1.symm.trans B.method)
      cases Option.some.inj (h2.symm.trans (Stand.of_body B).code)
      intro x hx
      rw [Array.isEmpty_iff.mp h7] at hx
      cases hx
    obtain ⟨t, a1, o, b1, b2, b3⟩ := body p e s m args below meth c s₁ B hml ht hP s₁ hh0 (Stand.of_body B)
    exact ⟨t, o, a1, b1, b2, b3⟩
/-- the table of a body with handlers -/
theorem vx_table {p : Program} {x y : MethodName} {S : Spec} {cc bytes : ByteArray} {maxL maxL' : Nat} {ret ret' : Option FieldType} {e : Env} {s s₁ : State} {m : MethodId} {args : Array Value} {below : List Frame} {meth : Method} {c : Code} {hh : List (Nat × Nat × Nat × Nat)}
    (B : BodyLoose p l y S cc maxL ret e s m args below meth c s₁) (h : (Cond.codeWith y bytes maxL' ret' hh).before args s = true) : c.exceptionTable.toList = tableOf hh := by
  obtain ⟨m9, meth9, c9, hn9, h1, h2, -, -, h6, -⟩ := Cond.codeWith_spec h
  cases Option.some.inj (hn9.symm.trans B.named)
  cases Option.some.inj (h1.symm.trans B.method)
  cases Option.some.inj (h2.symm.trans (Stand.of_body B).code)
  rw [← h6, table_eq]
end Bodies
end VXA
/-! ===== END ===== -/
/-! ===== BEGIN a static call of a method with an exception table ===== -/
section VXS
variable {p : Program} {l : Launch} {e : Env} {R : Room} {s : State} {m : MethodId} {args : Array Value} {below : List Frame} {meth : Method} {c : Code} {T : State} {H : Heap} {locs : List Loc} {cells slots : Nat}
abbrev vx_CSW (R : Room) (s : State) (args : Array Value) (own : String) (index : Nat) (y : MethodName) (bytes : ByteArray) (maxL : Nat) (ret : Option FieldType) (hh : List (Nat × Nat × Nat × Nat)) (ws : List Cond) (rm : Room) (mc ms n : Nat) : Prop :=
  (rm.cells = mc ∧ rm.slots = ms ∧ rm.frames + 1 ≤ R.frames ∧ 8 + (maxL + 11) + rm.locals ≤ R.locals ∧ (∀ w ∈ ws, ∀ (a' : Array Value) (U : State), s.WarmedH U.vm → w.before a' U = true) ∧ Cond.codeWith y bytes maxL ret hh ∈ ws) ∧
  (Cond.codeWith y bytes maxL ret hh).before args s = true ∧ (Cond.initialized y.cls).before args s = true ∧ (y.cls ≠ "java/lang/invoke/MethodHandle" ∧ y.cls ≠ "java/lang/invoke/VarHandle") ∧
  (∀ sig, parseMethodDescriptor y.desc = some sig → n = sig.parameters.length) ∧ (Cond.methodLink own index y).before args s = true ∧ (Cond.static y).before args s = true
theorem vx_cwSW {own : String} {index maxL mc ms : Nat} {y : MethodName} {bytes : ByteArray} {ret : Option FieldType} {hh : List (Nat × Nat × Nat × Nat)} {Ts ws ws' : List Cond} {rm : Room} (n : Nat) (ht : ∀ w ∈ Ts, w.before args s = true) (hT : GoodIn Ts (va_wsS own index y ws)) (hw : ws = Cond.codeWith y bytes maxL ret hh :: ws') (hrc : rm.cells = mc) (hrs : rm.slots = ms)
    (hd : y.cls ≠ "java/lang/invoke/MethodHandle" ∧ y.cls ≠ "java/lang/invoke/VarHandle" ∧ (parseMethodDescriptor y.desc).map (fun d => d.parameters.length) = some n) (hR : rm.frames + 1 ≤ R.frames ∧ 8 + (maxL + 11) + rm.locals ≤ R.locals) :
    vx_CSW R s args own index y bytes maxL ret hh ws rm mc ms n := by
  have ok : ∀ w ∈ va_wsS own index y ws, w.before args s = true := fun w h => ht w (hT w h).1
  have hG : GoodIn Ts ws := fun w h => hT w (by unfold va_wsS; exact List.mem_append_right _ h)
  have hc : Cond.codeWith y bytes maxL ret hh ∈ ws := by rw [hw]; exact List.mem_cons_self
  refine ⟨⟨hrc, hrs, hR.1, hR.2, pay_in ht hG, hc⟩, ht _ (hG _ hc).1, ok _ (by simp [va_wsS]), ⟨hd.1, hd.2.1⟩, fun sig h => ?_, ok _ (by simp [va_wsS]), ok _ (by simp [va_wsS])⟩
  have h2 := hd.2.2
  rw [h] at h2
  exact (Option.some.inj h2).symm
theorem vx_callSW (X : Stand p l e R s m args below meth c T locs cells slots) (hexec : p.tables.exec = Jvm.exec) {own : String} {index : Nat} {y : MethodName} {bytes : ByteArray} {maxL : Nat} {ret : Option FieldType} {hh : List (Nat × Nat × Nat × Nat)}
    (hown : s.vm.findClass own = some m.cls) (hlink : (Cond.methodLink own index y).before args s = true) (hstat : (Cond.static y).before args s = true) (hinit : (Cond.initialized y.cls).before args s = true)
    (hcode : (Cond.codeWith y bytes maxL ret hh).before args s = true) (hy : y.cls ≠ "java/lang/invoke/MethodHandle" ∧ y.cls ≠ "java/lang/invoke/VarHandle")
    {W9 : Nat} {Pre : Pt → Array Value → Prop} {Post : Pt → Array Value → Option Value → Pt → Prop} (hK : Back l R p e below s args y 3 W9 Pre Post)
    {g : JFrame} (hg : g.method = m) (hsize : g.locals.size = c.maxLocals) {argsL rest : List Value} (hlen : ∀ sig, parseMethodDescriptor y.desc = some sig → argsL.length = sig.parameters.length)
    (hstack : g.stack = argsL.reverse ++ rest) (hW : 2 * g.monitorRoom + (rest.map fun v => v.category).sum ≤ W9) (hdg : decode c.code g.pc = .ok (.invokestatic index, 3))
    (hpre : ∀ vm₁, s.WarmedH vm₁ → Pre ⟨T.setVm vm₁, locs, cells, slots⟩ argsL.toArray) :
    ∃ (v : Option Value) (vm₁ : Vm) (B : Pt), s.WarmedH vm₁ ∧ Stand p l e R s m args below meth c B.U B.locs B.cells B.slots ∧ Post ⟨T.setVm vm₁, locs, cells, slots⟩ argsL.toArray v B ∧
      ∀ target, Steps p.tables e below (B.U.setTop { g with pc := g.pc + 3, stack := v.toList ++ rest }) target → Steps p.tables e below (T.setTop g) target := by
  obtain ⟨mk, methM, cM, hnamed, hmethM, -, -, -, -, -, -, hsigM⟩ := Cond.codeWith_spec hcode
  have hstatic : methM.isStatic = true := Cond.static_spec hnamed hmethM hstat
  obtain ⟨kP, hkP, -⟩ := className_of_methodNamed hnamed
  have hinitP : kP.init = .initialized := Cond.initialized_spec (findClass_of_methodNamed hnamed) hkP hinit
  obtain ⟨vm₁, X₁, hstep₁⟩ := X.invokestatic hexec hown hlink hnamed hmethM hstatic hkP hinitP hy (g := g) hg (argsL := argsL) (rest := rest) (hlen _ hsigM) hstack hdg
  obtain ⟨v, B, X', hpost, hsteps⟩ := hK m meth c ⟨T.setVm vm₁, locs, cells, slots⟩ { g with stack := rest } (.invokestatic index) mk argsL.toArray X₁ hg hsize hdg hW (X₁.named hnamed) (hpre vm₁ X₁.warmed)
  exact ⟨v, vm₁, B, X₁.warmed, X', hpost, fun target h => hstep₁ _ fun acts => by rw [doInvoke_state]; exact hsteps.trans h⟩
theorem vx_runSW {y : MethodName} {bytes cc : ByteArray} {maxL nL mc ms n index : Nat} {ret : Option FieldType} {hh : List (Nat × Nat × Nat × Nat)} {ws : List Cond} {rm : Room} {Pc : Array Value → State → Prop} {Qc : Array Value → State → Outcome → State → Prop} {free : Addr → Prop} {Ts : List Cond} {own : String} {As rest : List Value} {g : JFrame}
    (S : CallFix p m c cc nL s args Ts own) (hM : Met l y ws rm Pc Qc mc ms free) (cw : vx_CSW R s args own index y bytes maxL ret hh ws rm mc ms n) (hp : PreS s H Pc As)
    (hg : g.method = m) (hn : As.length = n) (hsize : g.locals.size = nL) (hstack : g.stack = As.reverse ++ rest) (hW : 2 * g.monitorRoom + (rest.map fun v => v.category).sum ≤ 8) (hdg : decode cc g.pc = .ok (.invokestatic index, 3)) (hf : cells + mc ≤ R.cells ∧ slots + ms ≤ R.slots) :
    va_Run p l e R s m args below meth c H locs cells slots mc ms g rest (Qc As.toArray) (free) := by
  obtain ⟨⟨hrc, hrs, hfr, hlo, hws, hcw⟩, hcode, hini, hy, hlen, hl, hstt⟩ := cw
  have hK : Back l R p e below s args y 3 8 (PreOf R mc ms Pc) (PostOf Qc mc ms free) := va_backW (hh := hh) (bytes := bytes) (maxL := maxL) (ret := ret) hM hp.1 hrc hrs hfr hlo hws hcw (fun a' U hW => word_at hW (Or.inl (by first | rfl | simp [Cond.onTables, Cond.keeps, Cond.steady])) hini)
  obtain ⟨hx, hb, hml, ho, -⟩ := S
  intro T hT X
  obtain ⟨v, vm₁, ⟨U', l2, c2, s2⟩, hW₁, X', ⟨g', mk, t, L, e1, e2, hq, h1, hL, h2, h3⟩, st⟩ := vx_callSW X hx (hh := hh) (bytes := bytes) (maxL := maxL) (ret := ret) ho hl hstt hini hcode hy hK hg (hsize.trans hml.symm) (argsL := As) (rest := rest) (fun sig h => hn.trans (hlen sig h)) hstack hW (by rw [hb]; exact hdg)
    (fun vm₁ hW₁ => ⟨hf.1, hf.2, hp.2 (T.setVm vm₁) hT hW₁⟩)
  dsimp only [Pt.U, Pt.locs, Pt.cells, Pt.slots] at X' e1 e2 h1 h2 h3 st
  subst h1; subst h2; subst h3
  exact ⟨v, (T.setVm vm₁).calling g' mk As.toArray, t, U', L, hT, X', hL, e1, e2, hq, st⟩
/-- a thing of a world lies in the heap -/
theorem vx_lt {D : va_G} {cl : List vw_C} {ws : va_W} {H1 : Heap} (h : va_P D cl ws H1) {k : Nat} {q : Nat × va_E} (hk : ws[k]? = some q) : q.1 < H1.size := (h k q hk).lt
end VXS
/-! ===== END ===== -/
/-! ===== BEGIN methods with a table of their own: called by a name, returning or throwing ===== -/
section VXH
/-! vx_backW, vx_callVX, vx_callSX, vx_callVW, vx_runVW, vx_runVX, vx_runSX, vx_ofWH follow the same proofs as their sisters above (Free/Laws.lean, Shelf42/LK1.lean); vx_outP calls Shelf42/NT130.lean (outThrough). -/
section
variable {l : Launch} {R : Room} {p : Program} {e : Env} {below : List Frame} {s : State} {sargs : Array Value} {y : MethodName} {len W9 : Nat}
theorem vx_backW {ws : List Cond} {rm : Room} {Pc : Array Value → State → Prop} {Qc : Array Value → State → Outcome → State → Prop} {XC : String → State → State → Prop} {mc ms : Nat} {free : Addr → Prop} {bytes : ByteArray} {maxL : Nat} {ret : Option FieldType} {hh : List (Nat × Nat × Nat × Nat)}
    (hM : vx_Met l y ws rm Pc Qc XC mc ms free) (hblind : FrameBlind Pc) (hrc : rm.cells = mc) (hrs : rm.slots = ms)
    (hframes : rm.frames + 1 ≤ R.frames) (hlocals : W9 + (maxL + 11) + rm.locals ≤ R.locals)
    (hws : ∀ w ∈ ws, ∀ a' U, s.WarmedH U.vm → w.before a' U = true) (hcode : Cond.codeWith y bytes maxL ret hh ∈ ws) (hinit : ∀ a' U, s.WarmedH U.vm → (Cond.initialized y.cls).before a' U = true) :
    vx_Back l R p e below s sargs y len W9 (PreOf R mc ms Pc) (PostOf Qc mc ms free) (vx_Post XC mc ms free) := by
  intro m meth c A g ig mk a X hg hsize hdg hW hn hp
  have h1 : (headSpec ws rm).pre.before a A.U = true := atoms_intro fun w hw => hws w hw _ _ X.warmed
  have h2 : (Cond.codeWith y bytes maxL ret hh).before a A.U = true := hws _ hcode _ _ X.warmed
  have h3 : (Cond.initialized y.cls).before a A.U = true := hinit _ _ X.warmed
  have h4 : A.cells + (headSpec ws rm).room.cells ≤ R.cells := by rw [show (headSpec ws rm).room.cells = mc from hrc]; exact hp.1
  have h5 : A.slots + (headSpec ws rm).room.slots ≤ R.slots := by rw [show (headSpec ws rm).room.slots = ms from hrs]; exact hp.2.1
  have hPc : Pc a (A.U.calling g mk a) := hblind _ _ _ _ hp.2.2
  obtain ⟨U, Ls, c0, s0⟩ := A
  dsimp only [Pt.U, Pt.locs, Pt.cells, Pt.slots] at h1 h2 h3 h4 h5 X hn hPc ⊢
  obtain ⟨m9, methY, cY, hn9, hmY, hcY, -, hlY, -⟩ := Cond.codeWith_spec h2
  cases Option.some.inj (hn9.symm.trans hn)
  obtain ⟨kY, hkY, -⟩ := className_of_methodNamed hn
  have hinitY : kY.init = .initialized := Cond.initialized_spec (findClass_of_methodNamed hn) hkY h3
  have h : At U g.method c below := by rw [hg]; exact X.here
  have hlocals9 : W9 + (maxL + 11) + (headSpec ws rm).room.locals ≤ R.locals := hlocals
  have happ : (headSpec ws rm).appliesLoose y e.platform (U.calling g mk a) = true :=
    Spec.appliesLoose_calling (g := g) h hdg hn hkY hinitY
      (X.room_calling (g := g) (R' := (headSpec ws rm).room) hsize hmY hcY hframes (by rw [hlY]; omega) h4 h5) h1
  obtain ⟨mid, hmid⟩ := h.above
  have hfr : (U.setTop g).frames = (.java g :: mid) ++ below := by rw [State.frames_setTop' g h.top, hmid]; rfl
  obtain ⟨o, s₂, hsteps, -, hend, hq⟩ := Steps.callFree hM p X.admits X.cas X.clock (acts := []) hfr happ hPc trivial
  have hq' : vx_Q Qc XC mc ms free a (U.calling g mk a) o s₂ := hq
  rw [State.frames_setTop' g h.top] at hend
  obtain ⟨g₀, hg0⟩ := Option.isSome_iff_exists.mp h.top
  obtain ⟨r, hr⟩ := State.topJava?_eq_some.mp hg0
  have hr' : (({ U with heap := s₂.heap, slotsUsed := s₂.slotsUsed } : State).setVm s₂.vm).frames = .java g₀ :: r := hr
  rcases hq' with ⟨hqc, L, hfe, hL⟩ | ⟨q, rfl, E, ce, L, hx, hce, hcv, hcl, hW₂, hsm, hL⟩
  · obtain ⟨⟨v, rfl⟩, hW₂, e2, q2, q3, q4, q5, q6⟩ := id hfe
    have e3 : s₂ = ({ (U.calling g mk a).setFrames s₂.frames with heap := s₂.heap, slotsUsed := s₂.slotsUsed } : State).setVm s₂.vm := by
      have : s₂ = ({ s₂ with vm := (U.calling g mk a).vm } : State).setVm s₂.vm := rfl
      rw [e2] at this
      exact this
    obtain ⟨c₂, i₂, len₂, hc₂, hd₂, hf₂⟩ := hend
    have hW' : U.WarmedH s₂.vm := hW₂
    have hcc : c₂ = c := by
      have h1 : s₂.code? g.method = U.code? g.method := by
        rw [State.code?_eq, State.code?_eq, hW'.alike.method?]
      exact Option.some.inj (hc₂.symm.trans (h1.trans h.code))
    subst hcc
    have hlen : len₂ = len := by rw [hdg] at hd₂; cases hd₂; rfl
    subst hlen
    have hs₂ : s₂ = (({ U with heap := s₂.heap, slotsUsed := s₂.slotsUsed } : State).setVm s₂.vm).setTop { g with pc := g.pc + len₂, stack := v.toList ++ g.stack } := by
      refine e3.trans ?_
      rw [hf₂, State.calling_eq h.top, State.setFrames_setFrames, State.setTop_of_frames _ hr', hr]
      rfl
    have hsame : U.sameButNew ({ U with heap := s₂.heap, slotsUsed := s₂.slotsUsed } : State) L mc ms := by
      refine ⟨?_, q2, q3, q4, q5, q6⟩
      obtain ⟨t, ht, -⟩ := State.frames_cons hr
      show ({ U with heap := s₂.heap, slotsUsed := s₂.slotsUsed } : State) = { U.setFrames U.frames with heap := s₂.heap, slotsUsed := s₂.slotsUsed }
      rw [State.setFrames_self ht]
    subst hg
    refine Or.inl ⟨v, ⟨(({ U with heap := s₂.heap, slotsUsed := s₂.slotsUsed } : State).setVm s₂.vm), Ls ++ L, c0 + mc, s0 + ms⟩,
      ⟨X.admits, X.cas, X.clock, X.frames, X.room, X.hears, X.method, X.code, (X.here.setHeapUsed s₂.heap s₂.slotsUsed).setVm hW'.alike, X.tail, State.WarmedH.trans X.warmed hW', X.limits, X.bytes, X.same.trans (hsame.setVm s.vm)⟩,
      ⟨g, mk, s₂, L, rfl, rfl, hqc, rfl, hL, rfl, rfl⟩, ?_⟩
    show Steps p.tables e below _ ((({ U with heap := s₂.heap, slotsUsed := s₂.slotsUsed } : State).setVm s₂.vm).setTop { g with pc := g.pc + len₂, stack := v.toList ++ g.stack })
    rw [← hs₂]
    exact hsteps
  · obtain ⟨e2, q2, q3, q4, q5, q6⟩ := id hsm
    have e3 : s₂ = ({ (U.calling g mk a).setFrames s₂.frames with heap := s₂.heap, slotsUsed := s₂.slotsUsed } : State).setVm s₂.vm := by
      have : s₂ = ({ s₂ with vm := (U.calling g mk a).vm } : State).setVm s₂.vm := rfl
      rw [e2] at this
      exact this
    have hf₂ : s₂.frames = .throwing q :: .java g :: U.frames.tail := hend
    have hW' : U.WarmedH s₂.vm := hW₂
    have hs₂ : s₂ = ((({ U with heap := s₂.heap, slotsUsed := s₂.slotsUsed } : State).setVm s₂.vm).setTop g).pushFrame (.throwing q) := by
      refine e3.trans ?_
      rw [hf₂, State.calling_eq h.top, State.setFrames_setFrames, State.pushFrame, State.frames_setTop _ hr', State.setTop_of_frames _ hr', State.setFrames_setFrames, hr]
      rfl
    have hsame : U.sameButNew ({ U with heap := s₂.heap, slotsUsed := s₂.slotsUsed } : State) L mc ms := by
      refine ⟨?_, q2, q3, q4, q5, q6⟩
      obtain ⟨t, ht, -⟩ := State.frames_cons hr
      show ({ U with heap := s₂.heap, slotsUsed := s₂.slotsUsed } : State) = { U.setFrames U.frames with heap := s₂.heap, slotsUsed := s₂.slotsUsed }
      rw [State.setFrames_self ht]
    subst hg
    refine Or.inr ⟨q, ⟨(({ U with heap := s₂.heap, slotsUsed := s₂.slotsUsed } : State).setVm s₂.vm), Ls ++ L, c0 + mc, s0 + ms⟩,
      ⟨X.admits, X.cas, X.clock, X.frames, X.room, X.hears, X.method, X.code, (X.here.setHeapUsed s₂.heap s₂.slotsUsed).setVm hW'.alike, X.tail, State.WarmedH.trans X.warmed hW', X.limits, X.bytes, X.same.trans (hsame.setVm s.vm)⟩,
      ⟨g, mk, s₂, L, E, ce, rfl, rfl, hx, hce, hcv, hcl, rfl, hL, rfl, rfl⟩, ?_⟩
    show Steps p.tables e below _ (((({ U with heap := s₂.heap, slotsUsed := s₂.slotsUsed } : State).setVm s₂.vm).setTop g).pushFrame (.throwing q))
    rw [← hs₂]
    exact hsteps
end
variable {p : Program} {l : Launch} {e : Env} {R : Room} {s : State} {m : MethodId} {args : Array Value} {below : List Frame} {meth : Method} {c : Code} {T : State} {H : Heap} {locs : List Loc} {cells slots : Nat}
theorem vx_callVX (X : Stand p l e R s m args below meth c T locs cells slots) (hexec : p.tables.exec = Jvm.exec) {own C : String} {index : Nat} {y : MethodName} {bytes : ByteArray} {maxL : Nat} {ret : Option FieldType} {hh : List (Nat × Nat × Nat × Nat)}
    (hown : s.vm.findClass own = some m.cls) (hlink : (Cond.methodLink own index y).before args s = true) (hinst : (Cond.instanceMethod y).before args s = true) (hsel : (Cond.selects C y y).before args s = true)
    (hcode : (Cond.codeWith y bytes maxL ret hh).before args s = true) (hy : y.cls ≠ "java/lang/invoke/MethodHandle" ∧ y.cls ≠ "java/lang/invoke/VarHandle")
    {W9 : Nat} {Pre : Pt → Array Value → Prop} {Post : Pt → Array Value → Option Value → Pt → Prop} {PostX : Pt → Array Value → Addr → Pt → Prop} (hK : vx_Back l R p e below s args y 3 W9 Pre Post PostX)
    {b : Addr} {cellB : Cell} (hcell : T.heap[b]? = some cellB) (hobj : cellB.vm.isStatics = false) (hcls : s.vm.findClass C = some cellB.cls)
    {g : JFrame} (hg : g.method = m) (hsize : g.locals.size = c.maxLocals) {argsL rest : List Value} (hlen : ∀ sig, parseMethodDescriptor y.desc = some sig → argsL.length = sig.parameters.length)
    (hstack : g.stack = argsL.reverse ++ .ref b :: rest) (hW : 2 * g.monitorRoom + (rest.map fun v => v.category).sum ≤ W9) (hdg : decode c.code g.pc = .ok (.invokevirtual index, 3))
    (hpre : ∀ vm₁, s.WarmedH vm₁ → Pre ⟨T.setVm vm₁, locs, cells, slots⟩ (Value.ref b :: argsL).toArray) :
    (∃ (v : Option Value) (vm₁ : Vm) (B : Pt), s.WarmedH vm₁ ∧ Stand p l e R s m args below meth c B.U B.locs B.cells B.slots ∧ Post ⟨T.setVm vm₁, locs, cells, slots⟩ (Value.ref b :: argsL).toArray v B ∧
      ∀ target, Steps p.tables e below (B.U.setTop { g with pc := g.pc + 3, stack := v.toList ++ rest }) target → Steps p.tables e below (T.setTop g) target) ∨
    (∃ (q : Addr) (vm₁ : Vm) (B : Pt), s.WarmedH vm₁ ∧ Stand p l e R s m args below meth c B.U B.locs B.cells B.slots ∧ PostX ⟨T.setVm vm₁, locs, cells, slots⟩ (Value.ref b :: argsL).toArray q B ∧
      Steps p.tables e below (T.setTop g) ((B.U.setTop { g with stack := rest }).pushFrame (.throwing q))) := by
  obtain ⟨mk, methM, hnamed, hmethM, hstM, habM⟩ := Cond.instanceMethod_spec hinst
  obtain ⟨m8, methM', cM, hn8, hmethM', -, -, -, -, -, -, hsigM⟩ := Cond.codeWith_spec hcode
  cases Option.some.inj (hn8.symm.trans hnamed)
  cases hmethM.symm.trans hmethM'
  obtain ⟨c2, r2, m2, q1, q2, q3, q4, kP, hkP, hkPi⟩ := Cond.selects_spec hsel
  cases hcls.symm.trans q1
  cases (State.methodFound?_of_named hnamed hy).symm.trans q2
  cases hnamed.symm.trans q3
  have hselP : selectMethod e.platform s.vm cellB.cls mk = .method mk := by rw [Launch.admits_selectMethod X.admits]; exact q4
  obtain ⟨vm₁, X₁, hstep₁⟩ := X.invokevirtual hexec hown hlink hnamed hmethM hstM hkP hkPi hy (a := b) (cell := cellB) hcell
    (fun z h => by rw [h] at hobj; cases hobj) hselP hmethM habM hkP hkPi (g := g) hg (argsL := argsL) (rest := rest) (hlen _ hsigM) hstack hdg
  rcases hK m meth c ⟨T.setVm vm₁, locs, cells, slots⟩ { g with stack := rest } (.invokevirtual index) mk (Value.ref b :: argsL).toArray X₁ hg hsize hdg hW (X₁.named hnamed) (hpre vm₁ X₁.warmed) with ⟨v, B, X', hpost, hsteps⟩ | ⟨q, B, X', hpost, hsteps⟩
  · exact Or.inl ⟨v, vm₁, B, X₁.warmed, X', hpost, fun target h => hstep₁ _ fun acts => by rw [doInvoke_state]; exact hsteps.trans h⟩
  · exact Or.inr ⟨q, vm₁, B, X₁.warmed, X', hpost, hstep₁ _ fun acts => by rw [doInvoke_state]; exact hsteps⟩
theorem vx_callSX (X : Stand p l e R s m args below meth c T locs cells slots) (hexec : p.tables.exec = Jvm.exec) {own : String} {index : Nat} {y : MethodName} {bytes : ByteArray} {maxL : Nat} {ret : Option FieldType} {hh : List (Nat × Nat × Nat × Nat)}
    (hown : s.vm.findClass own = some m.cls) (hlink : (Cond.methodLink own index y).before args s = true) (hstat : (Cond.static y).before args s = true) (hinit : (Cond.initialized y.cls).before args s = true)
    (hcode : (Cond.codeWith y bytes maxL ret hh).before args s = true) (hy : y.cls ≠ "java/lang/invoke/MethodHandle" ∧ y.cls ≠ "java/lang/invoke/VarHandle")
    {W9 : Nat} {Pre : Pt → Array Value → Prop} {Post : Pt → Array Value → Option Value → Pt → Prop} {PostX : Pt → Array Value → Addr → Pt → Prop} (hK : vx_Back l R p e below s args y 3 W9 Pre Post PostX)
    {g : JFrame} (hg : g.method = m) (hsize : g.locals.size = c.maxLocals) {argsL rest : List Value} (hlen : ∀ sig, parseMethodDescriptor y.desc = some sig → argsL.length = sig.parameters.length)
    (hstack : g.stack = argsL.reverse ++ rest) (hW : 2 * g.monitorRoom + (rest.map fun v => v.category).sum ≤ W9) (hdg : decode c.code g.pc = .ok (.invokestatic index, 3))
    (hpre : ∀ vm₁, s.WarmedH vm₁ → Pre ⟨T.setVm vm₁, locs, cells, slots⟩ argsL.toArray) :
    (∃ (v : Option Value) (vm₁ : Vm) (B : Pt), s.WarmedH vm₁ ∧ Stand p l e R s m args below meth c B.U B.locs B.cells B.slots ∧ Post ⟨T.setVm vm₁, locs, cells, slots⟩ argsL.toArray v B ∧
      ∀ target, Steps p.tables e below (B.U.setTop { g with pc := g.pc + 3, stack := v.toList ++ rest }) target → Steps p.tables e below (T.setTop g) target) ∨
    (∃ (q : Addr) (vm₁ : Vm) (B : Pt), s.WarmedH vm₁ ∧ Stand p l e R s m args below meth c B.U B.locs B.cells B.slots ∧ PostX ⟨T.setVm vm₁, locs, cells, slots⟩ argsL.toArray q B ∧
      Steps p.tables e below (T.setTop g) ((B.U.setTop { g with stack := rest }).pushFrame (.throwing q))) := by
  obtain ⟨mk, methM, cM, hnamed, hmethM, -, -, -, -, -, -, hsigM⟩ := Cond.codeWith_spec hcode
  have hstatic : methM.isStatic = true := Cond.static_spec hnamed hmethM hstat
  obtain ⟨kP, hkP, -⟩ := className_of_methodNamed hnamed
  have hinitP : kP.init = .initialized := Cond.initialized_spec (findClass_of_methodNamed hnamed) hkP hinit
  obtain ⟨vm₁, X₁, hstep₁⟩ := X.invokestatic hexec hown hlink hnamed hmethM hstatic hkP hinitP hy (g := g) hg (argsL := argsL) (rest := rest) (hlen _ hsigM) hstack hdg
  rcases hK m meth c ⟨T.setVm vm₁, locs, cells, slots⟩ { g with stack := rest } (.invokestatic index) mk argsL.toArray X₁ hg hsize hdg hW (X₁.named hnamed) (hpre vm₁ X₁.warmed) with ⟨v, B, X', hpost, hsteps⟩ | ⟨q, B, X', hpost, hsteps⟩
  · exact Or.inl ⟨v, vm₁, B, X₁.warmed, X', hpost, fun target h => hstep₁ _ fun acts => by rw [doInvoke_state]; exact hsteps.trans h⟩
  · exact Or.inr ⟨q, vm₁, B, X₁.warmed, X', hpost, hstep₁ _ fun acts => by rw [doInvoke_state]; exact hsteps⟩
theorem vx_callVW (X : Stand p l e R s m args below meth c T locs cells slots) (hexec : p.tables.exec = Jvm.exec) {own C : String} {index : Nat} {y : MethodName} {bytes : ByteArray} {maxL : Nat} {ret : Option FieldType} {hh : List (Nat × Nat × Nat × Nat)}
    (hown : s.vm.findClass own = some m.cls) (hlink : (Cond.methodLink own index y).before args s = true) (hinst : (Cond.instanceMethod y).before args s = true) (hsel : (Cond.selects C y y).before args s = true)
    (hcode : (Cond.codeWith y bytes maxL ret hh).before args s = true) (hy : y.cls ≠ "java/lang/invoke/MethodHandle" ∧ y.cls ≠ "java/lang/invoke/VarHandle")
    {W9 : Nat} {Pre : Pt → Array Value → Prop} {Post : Pt → Array Value → Option Value → Pt → Prop} (hK : Back l R p e below s args y 3 W9 Pre Post)
    {b : Addr} {cellB : Cell} (hcell : T.heap[b]? = some cellB) (hobj : cellB.vm.isStatics = false) (hcls : s.vm.findClass C = some cellB.cls)
    {g : JFrame} (hg : g.method = m) (hsize : g.locals.size = c.maxLocals) {argsL rest : List Value} (hlen : ∀ sig, parseMethodDescriptor y.desc = some sig → argsL.length = sig.parameters.length)
    (hstack : g.stack = argsL.reverse ++ .ref b :: rest) (hW : 2 * g.monitorRoom + (rest.map fun v => v.category).sum ≤ W9) (hdg : decode c.code g.pc = .ok (.invokevirtual index, 3))
    (hpre : ∀ vm₁, s.WarmedH vm₁ → Pre ⟨T.setVm vm₁, locs, cells, slots⟩ (Value.ref b :: argsL).toArray) :
    ∃ (v : Option Value) (vm₁ : Vm) (B : Pt), s.WarmedH vm₁ ∧ Stand p l e R s m args below meth c B.U B.locs B.cells B.slots ∧ Post ⟨T.setVm vm₁, locs, cells, slots⟩ (Value.ref b :: argsL).toArray v B ∧
      ∀ target, Steps p.tables e below (B.U.setTop { g with pc := g.pc + 3, stack := v.toList ++ rest }) target → Steps p.tables e below (T.setTop g) target := by
  obtain ⟨mk, methM, hnamed, hmethM, hstM, habM⟩ := Cond.instanceMethod_spec hinst
  obtain ⟨m8, methM', cM, hn8, hmethM', -, -, -, -, -, -, hsigM⟩ := Cond.codeWith_spec hcode
  cases Option.some.inj (hn8.symm.trans hnamed)
  cases hmethM.symm.trans hmethM'
  obtain ⟨c2, r2, m2, q1, q2, q3, q4, kP, hkP, hkPi⟩ := Cond.selects_spec hsel
  cases hcls.symm.trans q1
  cases (State.methodFound?_of_named hnamed hy).symm.trans q2
  cases hnamed.symm.trans q3
  have hselP : selectMethod e.platform s.vm cellB.cls mk = .method mk := by rw [Launch.admits_selectMethod X.admits]; exact q4
  obtain ⟨vm₁, X₁, hstep₁⟩ := X.invokevirtual hexec hown hlink hnamed hmethM hstM hkP hkPi hy (a := b) (cell := cellB) hcell
    (fun z h => by rw [h] at hobj; cases hobj) hselP hmethM habM hkP hkPi (g := g) hg (argsL := argsL) (rest := rest) (hlen _ hsigM) hstack hdg
  obtain ⟨v, B, X', hpost, hsteps⟩ := hK m meth c ⟨T.setVm vm₁, locs, cells, slots⟩ { g with stack := rest } (.invokevirtual index) mk (Value.ref b :: argsL).toArray X₁ hg hsize hdg hW (X₁.named hnamed) (hpre vm₁ X₁.warmed)
  exact ⟨v, vm₁, B, X₁.warmed, X', hpost, fun target h => hstep₁ _ fun acts => by rw [doInvoke_state]; exact hsteps.trans h⟩
abbrev vx_CVW (R : Room) (s : State) (args : Array Value) (own C : String) (index : Nat) (y : MethodName) (bytes : ByteArray) (maxL : Nat) (ret : Option FieldType) (hh : List (Nat × Nat × Nat × Nat)) (ws : List Cond) (rm : Room) (mc ms n : Nat) : Prop :=
  (rm.cells = mc ∧ rm.slots = ms ∧ rm.frames + 1 ≤ R.frames ∧ 8 + (maxL + 11) + rm.locals ≤ R.locals ∧ (∀ w ∈ ws, ∀ (a' : Array Value) (U : State), s.WarmedH U.vm → w.before a' U = true) ∧ Cond.codeWith y bytes maxL ret hh ∈ ws) ∧
  (Cond.codeWith y bytes maxL ret hh).before args s = true ∧ (Cond.initialized y.cls).before args s = true ∧ (y.cls ≠ "java/lang/invoke/MethodHandle" ∧ y.cls ≠ "java/lang/invoke/VarHandle") ∧
  (∀ sig, parseMethodDescriptor y.desc = some sig → n = sig.parameters.length) ∧ (Cond.methodLink own index y).before args s = true ∧ (Cond.instanceMethod y).before args s = true ∧ (Cond.selects C y y).before args s = true
theorem vx_cwVW {own C : String} {index maxL mc ms : Nat} {y : MethodName} {bytes : ByteArray} {ret : Option FieldType} {hh : List (Nat × Nat × Nat × Nat)} {Ts ws ws' : List Cond} {rm : Room} (n : Nat) (ht : ∀ w ∈ Ts, w.before args s = true) (hT : GoodIn Ts (wsV own index C y ws)) (hw : ws = Cond.codeWith y bytes maxL ret hh :: ws') (hrc : rm.cells = mc) (hrs : rm.slots = ms)
    (hd : y.cls = C ∧ y.cls ≠ "java/lang/invoke/MethodHandle" ∧ y.cls ≠ "java/lang/invoke/VarHandle" ∧ (parseMethodDescriptor y.desc).map (fun d => d.parameters.length) = some n) (hR : rm.frames + 1 ≤ R.frames ∧ 8 + (maxL + 11) + rm.locals ≤ R.locals) :
    vx_CVW R s args own C index y bytes maxL ret hh ws rm mc ms n := by
  obtain ⟨hC, hd⟩ := hd
  subst hC
  have ok : ∀ w ∈ wsV own index y.cls y ws, w.before args s = true := fun w h => ht w (hT w h).1
  have hG : GoodIn Ts ws := fun w h => hT w (by unfold wsV; exact List.mem_append_right _ h)
  have hc : Cond.codeWith y bytes maxL ret hh ∈ ws := by rw [hw]; exact List.mem_cons_self
  refine ⟨⟨hrc, hrs, hR.1, hR.2, pay_in ht hG, hc⟩, ht _ (hG _ hc).1, ok _ (by simp [wsV]), ⟨hd.1, hd.2.1⟩, fun sig h => ?_, ok _ (by simp [wsV]), ok _ (by simp [wsV]), ok _ (by simp [wsV])⟩
  have h2 := hd.2.2
  rw [h] at h2
  exact (Option.some.inj h2).symm
theorem vx_runVW {y : MethodName} {bytes cc : ByteArray} {maxL nL mc ms n index : Nat} {ret : Option FieldType} {hh : List (Nat × Nat × Nat × Nat)} {ws : List Cond} {rm : Room} {Pc : Array Value → State → Prop} {Qc : Array Value → State → Outcome → State → Prop} {free : Addr → Prop} {Ts : List Cond} {own C : String} {b : Addr} {As rest : List Value} {g : JFrame}
    (S : CallFix p m c cc nL s args Ts own) (hM : Met l y ws rm Pc Qc mc ms free) (cw : vx_CVW R s args own C index y bytes maxL ret hh ws rm mc ms n) (hp : PreV s H C b Pc As)
    (hg : g.method = m) (hn : As.length = n) (hsize : g.locals.size = nL) (hstack : g.stack = As.reverse ++ .ref b :: rest) (hW : 2 * g.monitorRoom + (rest.map fun v => v.category).sum ≤ 8) (hdg : decode cc g.pc = .ok (.invokevirtual index, 3)) (hf : cells + mc ≤ R.cells ∧ slots + ms ≤ R.slots) :
    va_Run p l e R s m args below meth c H locs cells slots mc ms g rest (Qc (Value.ref b :: As).toArray) free := by
  obtain ⟨⟨hrc, hrs, hfr, hlo, hws, hcw⟩, hcode, hini, hy, hlen, hl, hin, hse⟩ := cw
  have hK : Back l R p e below s args y 3 8 (PreOf R mc ms Pc) (PostOf Qc mc ms free) := va_backW (hh := hh) (bytes := bytes) (maxL := maxL) (ret := ret) hM hp.1 hrc hrs hfr hlo hws hcw (fun a' U hW => word_at hW (Or.inl (by first | rfl | simp [Cond.onTables, Cond.keeps, Cond.steady])) hini)
  obtain ⟨hx, hb, hml, ho, -⟩ := S
  obtain ⟨-, ⟨cellB, hcB, hoB, hclB⟩, hPc⟩ := hp
  intro T hT X
  obtain ⟨v, vm₁, ⟨U', l2, c2, s2⟩, hW₁, X', ⟨g', mk, t, L, e1, e2, hq, h1, hL, h2, h3⟩, st⟩ := vx_callVW X hx (C := C) (hh := hh) (bytes := bytes) (maxL := maxL) (ret := ret) ho hl hin hse hcode hy hK (by rw [hT]; exact hcB) hoB hclB hg (hsize.trans hml.symm) (argsL := As) (rest := rest) (fun sig h => hn.trans (hlen sig h)) hstack hW (by rw [hb]; exact hdg)
    (fun vm₁ hW₁ => ⟨hf.1, hf.2, hPc (T.setVm vm₁) hT hW₁⟩)
  dsimp only [Pt.U, Pt.locs, Pt.cells, Pt.slots] at X' e1 e2 h1 h2 h3 st
  subst h1; subst h2; subst h3
  exact ⟨v, (T.setVm vm₁).calling g' mk (Value.ref b :: As).toArray, t, U', L, hT, X', hL, e1, e2, hq, st⟩
section
variable {y : MethodName} {bytes cc : ByteArray} {maxL nL mc ms n index : Nat} {ret : Option FieldType} {ws : List Cond} {rm : Room} {Pc : Array Value → State → Prop} {Qc : Array Value → State → Outcome → State → Prop} {XC : String → State → State → Prop} {free : Addr → Prop} {Ts : List Cond} {own C : String} {b : Addr} {As rest : List Value} {g : JFrame}
theorem vx_runVX {hh : List (Nat × Nat × Nat × Nat)} (S : CallFix p m c cc nL s args Ts own) (hM : vx_Met l y ws rm Pc Qc XC mc ms free) (cw : vx_CVW R s args own C index y bytes maxL ret hh ws rm mc ms n) (hp : PreV s H C b Pc As)
    (hg : g.method = m) (hn : As.length = n) (hsize : g.locals.size = nL) (hstack : g.stack = As.reverse ++ .ref b :: rest) (hW : 2 * g.monitorRoom + (rest.map fun v => v.category).sum ≤ 8) (hdg : decode cc g.pc = .ok (.invokevirtual index, 3)) (hf : cells + mc ≤ R.cells ∧ slots + ms ≤ R.slots) :
    vx_Run p l e R s m args below meth c H locs cells slots mc ms g rest (Qc (Value.ref b :: As).toArray) XC free := by
  obtain ⟨⟨hrc, hrs, hfr, hlo, hws, hcw⟩, hcode, hini, hy, hlen, hl, hin, hse⟩ := cw
  have hK : vx_Back l R p e below s args y 3 8 (PreOf R mc ms Pc) (PostOf Qc mc ms free) (vx_Post XC mc ms free) := vx_backW (hh := hh) (bytes := bytes) (maxL := maxL) (ret := ret) hM hp.1 hrc hrs hfr hlo hws hcw (fun a' U hW => word_at hW (Or.inl (by first | rfl | simp [Cond.onTables, Cond.keeps, Cond.steady])) hini)
  obtain ⟨hx, hb, hml, ho, -⟩ := S
  obtain ⟨-, ⟨cellB, hcB, hoB, hclB⟩, hPc⟩ := hp
  intro T hT X
  rcases vx_callVX X hx (C := C) (hh := hh) (bytes := bytes) (maxL := maxL) (ret := ret) ho hl hin hse hcode hy hK (by rw [hT]; exact hcB) hoB hclB hg (hsize.trans hml.symm) (argsL := As) (rest := rest) (fun sig h => hn.trans (hlen sig h)) hstack hW (by rw [hb]; exact hdg)
    (fun vm₁ hW₁ => ⟨hf.1, hf.2, hPc (T.setVm vm₁) hT hW₁⟩) with ⟨v, vm₁, ⟨U', l2, c2, s2⟩, hW₁, X', ⟨g', mk, t, L, e1, e2, hq, h1, hL, h2, h3⟩, st⟩ | ⟨q, vm₁, ⟨U', l2, c2, s2⟩, hW₁, X', ⟨g', mk, t, L, E, ce, e1, e2, hq, hce, hcv, hcl, h1, hL, h2, h3⟩, st⟩
  · dsimp only [Pt.U, Pt.locs, Pt.cells, Pt.slots] at X' e1 e2 h1 h2 h3 st
    subst h1; subst h2; subst h3
    exact Or.inl ⟨v, (T.setVm vm₁).calling g' mk (Value.ref b :: As).toArray, t, U', L, hT, X', hL, e1, e2, hq, st⟩
  · dsimp only [Pt.U, Pt.locs, Pt.cells, Pt.slots] at X' e1 e2 h1 h2 h3 st hcl
    subst h1; subst h2; subst h3
    exact Or.inr ⟨q, (T.setVm vm₁).calling g' mk (Value.ref b :: As).toArray, t, U', L, E, ce, hT, X', hL, e1, e2, hq, hce, hcv, vx_cls hW₁ hcl, st⟩
theorem vx_runSX {hh : List (Nat × Nat × Nat × Nat)} (S : CallFix p m c cc nL s args Ts own) (hM : vx_Met l y ws rm Pc Qc XC mc ms free) (cw : vx_CSW R s args own index y bytes maxL ret hh ws rm mc ms n) (hp : PreS s H Pc As)
    (hg : g.method = m) (hn : As.length = n) (hsize : g.locals.size = nL) (hstack : g.stack = As.reverse ++ rest) (hW : 2 * g.monitorRoom + (rest.map fun v => v.category).sum ≤ 8) (hdg : decode cc g.pc = .ok (.invokestatic index, 3)) (hf : cells + mc ≤ R.cells ∧ slots + ms ≤ R.slots) :
    vx_Run p l e R s m args below meth c H locs cells slots mc ms g rest (Qc As.toArray) XC free := by
  obtain ⟨⟨hrc, hrs, hfr, hlo, hws, hcw⟩, hcode, hini, hy, hlen, hl, hstt⟩ := cw
  have hK : vx_Back l R p e below s args y 3 8 (PreOf R mc ms Pc) (PostOf Qc mc ms free) (vx_Post XC mc ms free) := vx_backW (hh := hh) (bytes := bytes) (maxL := maxL) (ret := ret) hM hp.1 hrc hrs hfr hlo hws hcw (fun a' U hW => word_at hW (Or.inl (by first | rfl | simp [Cond.onTables, Cond.keeps, Cond.steady])) hini)
  obtain ⟨hx, hb, hml, ho, -⟩ := S
  intro T hT X
  rcases vx_callSX X hx (hh := hh) (bytes := bytes) (maxL := maxL) (ret := ret) ho hl hstt hini hcode hy hK hg (hsize.trans hml.symm) (argsL := As) (rest := rest) (fun sig h => hn.trans (hlen sig h)) hstack hW (by rw [hb]; exact hdg)
    (fun vm₁ hW₁ => ⟨hf.1, hf.2, hp.2 (T.setVm vm₁) hT hW₁⟩) with ⟨v, vm₁, ⟨U', l2, c2, s2⟩, hW₁, X', ⟨g', mk, t, L, e1, e2, hq, h1, hL, h2, h3⟩, st⟩ | ⟨q, vm₁, ⟨U', l2, c2, s2⟩, hW₁, X', ⟨g', mk, t, L, E, ce, e1, e2, hq, hce, hcv, hcl, h1, hL, h2, h3⟩, st⟩
  · dsimp only [Pt.U, Pt.locs, Pt.cells, Pt.slots] at X' e1 e2 h1 h2 h3 st
    subst h1; subst h2; subst h3
    exact Or.inl ⟨v, (T.setVm vm₁).calling g' mk As.toArray, t, U', L, hT, X', hL, e1, e2, hq, st⟩
  · dsimp only [Pt.U, Pt.locs, Pt.cells, Pt.slots] at X' e1 e2 h1 h2 h3 st hcl
    subst h1; subst h2; subst h3
    exact Or.inr ⟨q, (T.setVm vm₁).calling g' mk As.toArray, t, U', L, E, ce, hT, X', hL, e1, e2, hq, hce, hcv, vx_cls hW₁ hcl, st⟩
end
end VXH
theorem vx_ofWH {l : Launch} {y : MethodName} {ws ws' : List Cond} {rm : Room} {Pc : Array Value → State → Prop} {Qc : Array Value → State → Outcome → State → Prop} {XC : String → State → State → Prop} {mc ms : Nat} {free : Addr → Prop} {cc : ByteArray} {maxL : Nat} {ret : Option FieldType} {hh : List (Nat × Nat × Nat × Nat)}
    (hy : plainName y.cls = true) (hw : ws = Cond.codeWith y cc maxL ret hh :: ws')
    (body : ∀ p e s m args below meth c s₁, BodyLoose p l y (headSpec ws rm) cc maxL ret e s m args below meth c s₁ → c.maxLocals = maxL → Pc args s →
      W p l e (headSpec ws rm).room s m args below meth c s.heap [] 0 0 (vx_MQ below Qc XC args s mc ms free) (entryFrame m args maxL)) : vx_Met l y ws rm Pc Qc XC mc ms free := by
  refine MetFree.of_bodyS (code := cc) (maxLocals := maxL) (ret := ret) hy ?_ ?_
  · intro args s m h hn
    obtain ⟨m9, meth, c, hn9, h1, h2, h3, h4, -, h5, h6, -⟩ := Cond.codeWith_spec (atoms_spec (ws := ws) h _ (by rw [hw]; exact List.mem_cons_self))
    cases hn.symm.trans hn9
    exact ⟨meth, c, h1, h2, h3, h4, h5, h6⟩
  · intro p e s m args below meth c s₁ B hml hP _
    have hh0 : s₁.heap = s.heap := by rw [B.state]; rfl
    obtain ⟨t, a1, o, b1, b2, b3⟩ := body p e s m args below meth c s₁ B hml hP s₁ hh0 (Stand.of_body B)
    exact ⟨t, o, a1, b1, b2, b3⟩
/-! ===== END ===== -/
end
section
/-! A thing thrown over this method's frame is caught by a row of its table, past rows that name other classes. -/
section MCA
variable {Q : Handler → Pre} {E : CtlPost} {e : Env} {d : Bool} {acts : List Action} {s : State} {f : JFrame} {a : Addr}
/-- a row whose name links to a class takes the thing, or the search goes on behind it; the name is noted either way -/
theorem mc_row {x : ExceptionTableEntry} {t : List ExceptionTableEntry} {c : ClassId} {cell : Cell} (hx : covers x f.pc = true) (h0 : x.catchType ≠ 0)
    (hl : s.vm.ClassLinks e.platform f.method.cls x.catchType c) (hcell : s.heap[a]? = some cell) (hobj : ∀ k, cell.vm ≠ .statics k)
    (hk : ∃ k, s.vm.classes[cell.cls]? = some k) (hc : ∃ k, s.vm.classes[c]? = some k) {b : Bool} (hb : s.vm.assignable cell.cls c = b) :
    wp (findHandler.go f a (x :: t)) Q E e d acts s ↔
      match b with
      | true => Q (.found x.handlerPc) d acts (s.setVm (s.vm.noted f.method.cls x.catchType (.cls c)))
      | false => wp (findHandler.go f a t) Q E e d acts (s.setVm (s.vm.noted f.method.cls x.catchType (.cls c))) := by
  simp only [covers] at hx
  have hal : s.vm.Alike (s.vm.noted f.method.cls x.catchType (.cls c)) := (Vm.Alike.refl s.vm).noted _ _ _
  obtain ⟨k1, hk1⟩ := hk
  obtain ⟨k2, hk2⟩ := hc
  obtain ⟨j1, hj1, -⟩ := hal.2.2 _ _ hk1
  obtain ⟨j2, hj2, -⟩ := hal.2.2 _ _ hk2
  have hf : (s.vm.noted f.method.cls x.catchType (.cls c)).assignable cell.cls c = b := by rw [hal.assignable]; exact hb
  obtain ⟨ha, ht⟩ := (resolveClass_links e.toSetting hl).op (op := VmOp.resolveClass f.method.cls x.catchType) rfl
  cases b <;> simp [findHandler.go, hx, h0, ha, ht, hcell, hobj, hj1, hj2, hf, VmOp.dirties, VmOp.acts]
end MCA
section MCB
/-- the search through the rows: those ahead are passed, x takes it; the tables are warmer, no more -/
theorem mc_search {e : Env} {s0 : State} {f : JFrame} {a : Addr} {cell : Cell} (hobj : ∀ k, cell.vm ≠ .statics k) (hk0 : ∃ k, s0.vm.classes[cell.cls]? = some k)
    (x : ExceptionTableEntry) (rest : List ExceptionTableEntry) (hx : covers x f.pc = true) (h0 : x.catchType ≠ 0) {cT : ClassId} (hl : s0.vm.ClassLinks e.platform f.method.cls x.catchType cT) (hfit : s0.vm.assignable cell.cls cT = true) :
    ∀ (pre : List ExceptionTableEntry) (S : State), s0.WarmedH S.vm → S.heap[a]? = some cell → (∀ y ∈ pre, covers y f.pc = false ∨ (y.catchType ≠ 0 ∧ ∃ c, s0.vm.ClassLinks e.platform f.method.cls y.catchType c ∧ s0.vm.assignable cell.cls c = false)) →
      ∃ vm', s0.WarmedH vm' ∧ ∀ (Q : Handler → Pre) (E : CtlPost) (d : Bool) (acts : List Action), wp (findHandler.go f a (pre ++ x :: rest)) Q E e d acts S ↔ Q (.found x.handlerPc) d acts (S.setVm vm') := by
  obtain ⟨k0, hk0⟩ := hk0
  intro pre
  induction pre with
  | nil =>
    intro S hW hcell _
    obtain ⟨j0, hj0, -⟩ := hW.alike.2.2 _ _ hk0
    obtain ⟨dk, _, _, kt, hd, _, _, _, _, hkt, _, hopen⟩ := hl.here
    obtain ⟨jt, hjt, -⟩ := hW.alike.2.2 _ _ hkt
    refine ⟨_, hW.noted hd hopen (State.rightAt_cls hl), fun Q E d acts => ?_⟩
    exact mc_row (t := rest) hx h0 (hW.classLinks hl) hcell hobj ⟨j0, hj0⟩ ⟨jt, hjt⟩ (b := true) (by rw [hW.alike.assignable]; exact hfit)
  | cons y ys ih =>
    intro S hW hcell hp
    have hr : ∀ z ∈ ys, covers z f.pc = false ∨ (z.catchType ≠ 0 ∧ ∃ c, s0.vm.ClassLinks e.platform f.method.cls z.catchType c ∧ s0.vm.assignable cell.cls c = false) := fun z hz => hp z (List.mem_cons_of_mem _ hz)
    rcases hp y (List.mem_cons_self ..) with h | ⟨hy0, c, hyl, hno⟩
    · obtain ⟨vm', h1, h2⟩ := ih S hW hcell hr
      refine ⟨vm', h1, fun Q E d acts => ?_⟩
      rw [List.cons_append, W.findHandler_go_skip h]
      exact h2 Q E d acts
    · cases hcov : covers y f.pc with
      | false =>
        obtain ⟨vm', h1, h2⟩ := ih S hW hcell hr
        refine ⟨vm', h1, fun Q E d acts => ?_⟩
        rw [List.cons_append, W.findHandler_go_skip hcov]
        exact h2 Q E d acts
      | true =>
        obtain ⟨j0, hj0, -⟩ := hW.alike.2.2 _ _ hk0
        obtain ⟨dk, _, _, kt, hd, _, _, _, _, hkt, _, hopen⟩ := hyl.here
        obtain ⟨jt, hjt, -⟩ := hW.alike.2.2 _ _ hkt
        obtain ⟨vm', h1, h2⟩ := ih (S.setVm (S.vm.noted f.method.cls y.catchType (.cls c))) (hW.noted hd hopen (State.rightAt_cls hyl)) hcell hr
        refine ⟨vm', h1, fun Q E d acts => ?_⟩
        rw [List.cons_append]
        exact (mc_row (t := ys ++ x :: rest) hcov hy0 (hW.classLinks hyl) hcell hobj ⟨j0, hj0⟩ ⟨jt, hjt⟩ (b := false) (by rw [hW.alike.assignable]; exact hno)).trans (h2 Q E d acts)
/-- one step of the machine: from the note that a is thrown over g to the handler -/
theorem mc_step {tb : Tables} {e : Env} {s target : State} {g : JFrame} {c : Code} {below : List Frame} {a : Addr} (h : At s g.method c below) {pc : Nat} {vm' : Vm}
    (hf : ∀ (Q : Handler → Pre) (E : CtlPost) (d : Bool) (acts : List Action), wp (findHandler g a) Q E e d acts ((s.setTop g).pushFrame (.throwing a)) ↔ Q (.found pc) d acts (((s.setTop g).pushFrame (.throwing a)).setVm vm'))
    (hrest : Steps tb e below ((s.setVm vm').setTop { g with pc := pc, stack := [.ref a] }) target) : Steps tb e below ((s.setTop g).pushFrame (.throwing a)) target := by
  obtain ⟨hgo, hw⟩ := h.throwing a
  refine Steps.head hgo hw ?_
  have key : ∀ (S : State) (r : List Frame), (∀ (Q : Handler → Pre) (E : CtlPost) (d : Bool) (acts : List Action), wp (findHandler g a) Q E e d acts S ↔ Q (.found pc) d acts (S.setVm vm')) → (stepThrowing e S a (.java g :: r)).1 = (S.setVm vm').setFrames (.java { g with pc := pc, stack := [.ref a] } :: r) := by
    intro S r hS
    simp only [stepThrowing, searchFrame, vmDo]
    generalize hr : Sem.go _ e false [] S = res
    obtain ⟨as, rfl, ha⟩ := Sem.eq_ok_of hr (a := Handler.found pc) (s' := S.setVm vm') (acts' := []) (by simp [hS _ _ _ _])
    rfl
  rw [stepThread_throwing (frames_entered h.top _), key _ _ hf]
  obtain ⟨g₀, hg⟩ := Option.isSome_iff_exists.mp h.top
  obtain ⟨r, hr⟩ := State.topJava?_eq_some.mp hg
  have hr' : (s.setVm vm').frames = .java g₀ :: r := hr
  rw [State.setTop_of_frames _ hr'] at hrest
  have e1 : ∀ (u : State) (F G : List Frame), ((u.setFrames F).setVm vm').setFrames G = (u.setVm vm').setFrames G := fun u F G => by
    rw [show (u.setFrames F).setVm vm' = (u.setVm vm').setFrames F from rfl, State.setFrames_setFrames]
  rw [hr, List.tail_cons, State.pushFrame, e1, State.setTop_of_frames _ hr, e1]
  exact hrest
variable {p : Program} {l : Launch} {e : Env} {R : Room} {s : State} {m : MethodId} {args : Array Value} {below : List Frame} {meth : Method} {c : Code} {H : Heap} {locs : List Loc} {cells slots : Nat} {Q : State → Prop} {pc : Nat} {ls : Array Slot} {rest : List Value}
/-- caught by the row x of this method's table; the rows ahead don't take it -/
theorem mc_catch {own name : String} {E : String} {ce : Cell} {q : Addr} (hown : s.vm.findClass own = some m.cls) (pre : List ExceptionTableEntry) (x : ExceptionTableEntry) (suf : List ExceptionTableEntry) (hsplit : c.exceptionTable.toList = pre ++ x :: suf)
    (hpass : ∀ z ∈ pre, covers z pc = false ∨ (z.catchType ≠ 0 ∧ ∃ nm : String, (Cond.classLink own z.catchType nm).before args s = true ∧ va_Nc E nm s)) (hx : covers x pc = true) (h0 : x.catchType ≠ 0)
    (hlink : (Cond.classLink own x.catchType name).before args s = true) (hcast : (Cond.castable E name).before args s = true) (hcell : H[q]? = some ce) (hv : ce.vm = .none) (hcl : s.vm.findClass E = some ce.cls)
    (kk : W p l e R s m args below meth c H locs cells slots Q (F0 m x.handlerPc ls [.ref q])) : vx_W p l e R s m args below meth c H locs cells slots Q (F0 m pc ls rest) q := by
  intro T hT X
  have hpl : e.platform.magicAccessors = ({} : Platform).magicAccessors := by rw [X.admits.platform]
  obtain ⟨c3, c4, hc3, hc4, hasg⟩ := Cond.castable_spec hcast
  cases Option.some.inj (hc3.symm.trans hcl)
  obtain ⟨c5, hc5, hcl5⟩ := Cond.classLink_spec hown hlink e.platform hpl
  cases Option.some.inj (hc4.symm.trans hc5)
  obtain ⟨k9, h9, -⟩ := Vm.findClass_spec hcl
  obtain ⟨vm', hW', hq⟩ := mc_search (e := e) (s0 := s) (f := F0 m pc ls rest) (a := q) (cell := ce) (fun k hk => by rw [hv] at hk; cases hk) ⟨k9, h9⟩ x suf hx h0 hcl5 hasg pre ((T.setTop (F0 m pc ls rest)).pushFrame (.throwing q)) X.warmed (by rw [← hT] at hcell; exact hcell)
    (fun z hz => by
      rcases hpass z hz with h | ⟨hz0, nm, hl1, hn1⟩
      · exact Or.inl h
      · obtain ⟨c6, hc6, hcl6⟩ := Cond.classLink_spec hown hl1 e.platform hpl
        obtain ⟨a8, b8, h1, h2, h3⟩ := hn1
        cases Option.some.inj (h1.symm.trans hcl)
        cases Option.some.inj (h2.symm.trans hc6)
        exact Or.inr ⟨hz0, _, hcl6, h3⟩)
  obtain ⟨t, a1, b1⟩ := kk (T.setVm vm') hT (X.noted hW')
  refine ⟨t, ?_, b1⟩
  refine mc_step (c := c) (pc := x.handlerPc) (vm' := vm') X.here (fun Q' E' d acts => ?_) a1
  rw [W.findHandler_eq (s := (T.setTop (F0 m pc ls rest)).pushFrame (.throwing q)) (f := F0 m pc ls rest) (meth := meth) (code := c) X.method' X.code, hsplit]
  exact hq Q' E' d acts
end MCB
end
section
/-! ===== BEGIN printed: names, fields, word lists, decode rows ===== -/
def RX0 : String := "MachineTree$Machine"
def TX0 : u_T := fun k => match k with
  | 0 => ("MachineTree$Machine", "states", "I", true)
  | _ => ("MachineTree$Machine", "codes", "[I", true)
def tyX0 : Nat → FieldType := fun k => match k with
  | 0 => .int
  | _ => .array .int
abbrev wsX00 : List Cond := u_ws RX0 TX0 2
theorem nmX0 : ∀ a, a < 2 → ∀ b, b < 2 → a ≠ b → (TX0 a).2.1 ≠ (TX0 b).2.1 := by decide +kernel
theorem tyX0_ok : ∀ k, k < 2 → parseFieldDescriptor (TX0 k).2.2.1 = some (tyX0 k) := by decide +kernel
abbrev cX0_init : ByteArray := prog_2_method_1_code
def yX0_init : MethodName := ⟨RX0, "<init>", "(I)V"⟩
abbrev cX0_hasPlace : ByteArray := prog_2_method_2_code
def yX0_hasPlace : MethodName := ⟨RX0, "hasPlace", "(II)Z"⟩
abbrev cX0_allows : ByteArray := prog_2_method_3_code
def yX0_allows : MethodName := ⟨RX0, "allows", "(I)Z"⟩
abbrev cX0_codeAt : ByteArray := prog_2_method_4_code
def yX0_codeAt : MethodName := ⟨RX0, "codeAt", "(II)I"⟩
abbrev cX0_put : ByteArray := prog_2_method_5_code
def yX0_put : MethodName := ⟨RX0, "put", "(III)V"⟩
abbrev cX0_greatestNext : ByteArray := prog_2_method_6_code
def yX0_greatestNext : MethodName := ⟨RX0, "greatestNext", "()I"⟩
abbrev cX0_copyFrom : ByteArray := prog_2_method_7_code
def yX0_copyFrom : MethodName := ⟨RX0, "copyFrom", "(LMachineTree$Machine;)V"⟩
def RX1 : String := "MachineTree$Tree"
def TX1 : u_T := fun k => match k with
  | 0 => ("MachineTree$Tree", "states", "I", true)
  | 1 => ("MachineTree$Tree", "current", "LMachineTree$Machine;", true)
  | 2 => ("MachineTree$Tree", "way", "LMachineTree$Walk;", true)
  | 3 => ("MachineTree$Tree", "placeStates", "[I", true)
  | 4 => ("MachineTree$Tree", "placeSymbols", "[I", true)
  | 5 => ("MachineTree$Tree", "lastCodes", "[I", true)
  | 6 => ("MachineTree$Tree", "depth", "I", false)
  | 7 => ("MachineTree$Tree", "begun", "Z", false)
  | 8 => ("MachineTree$Tree", "ended", "Z", false)
  | 9 => ("MachineTree$Tree", "best", "LMachineTree$Machine;", true)
  | 10 => ("MachineTree$Tree", "bestSteps", "I", false)
  | 11 => ("MachineTree$Tree", "bestOnes", "I", false)
  | 12 => ("MachineTree$Tree", "mostOnes", "I", false)
  | 13 => ("MachineTree$Tree", "open", "I", false)
  | 14 => ("MachineTree$Tree", "halted", "I", false)
  | 15 => ("MachineTree$Tree", "cycling", "I", false)
  | 16 => ("MachineTree$Tree", "drifting", "I", false)
  | _ => ("MachineTree$Tree", "haltedSteps", "I", false)
def tyX1 : Nat → FieldType := fun k => match k with
  | 0 => .int
  | 1 => .object "MachineTree$Machine"
  | 2 => .object "MachineTree$Walk"
  | 3 => .array .int
  | 4 => .array .int
  | 5 => .array .int
  | 6 => .int
  | 7 => .boolean
  | 8 => .boolean
  | 9 => .object "MachineTree$Machine"
  | 10 => .int
  | 11 => .int
  | 12 => .int
  | 13 => .int
  | 14 => .int
  | 15 => .int
  | 16 => .int
  | _ => .int
abbrev wsX10 : List Cond := u_ws RX1 TX1 18
theorem nmX1 : ∀ a, a < 18 → ∀ b, b < 18 → a ≠ b → (TX1 a).2.1 ≠ (TX1 b).2.1 := by decide +kernel
theorem tyX1_ok : ∀ k, k < 18 → parseFieldDescriptor (TX1 k).2.2.1 = some (tyX1 k) := by decide +kernel
abbrev cX1_init : ByteArray := prog_3_method_1_code
def yX1_init : MethodName := ⟨RX1, "<init>", "(I)V"⟩
abbrev cX1_takeNext : ByteArray := prog_3_method_2_code
def yX1_takeNext : MethodName := ⟨RX1, "takeNext", "()Z"⟩
abbrev cX1_countHalted : ByteArray := prog_3_method_3_code
def yX1_countHalted : MethodName := ⟨RX1, "countHalted", "()V"⟩
abbrev cX1_moveOn : ByteArray := prog_3_method_4_code
def yX1_moveOn : MethodName := ⟨RX1, "moveOn", "()Z"⟩
abbrev cX1_hasChildren : ByteArray := prog_3_method_5_code
def yX1_hasChildren : MethodName := ⟨RX1, "hasChildren", "()Z"⟩
abbrev cX1_toFirstChild : ByteArray := prog_3_method_6_code
def yX1_toFirstChild : MethodName := ⟨RX1, "toFirstChild", "()V"⟩
abbrev cX1_toNextBranch : ByteArray := prog_3_method_7_code
def yX1_toNextBranch : MethodName := ⟨RX1, "toNextBranch", "()Z"⟩
def RX2 : String := "MachineTree$Walk"
def TX2 : u_T := fun k => match k with
  | 0 => ("MachineTree$Walk", "reach", "I", true)
  | 1 => ("MachineTree$Walk", "words", "I", true)
  | 2 => ("MachineTree$Walk", "tape", "[J", true)
  | 3 => ("MachineTree$Walk", "tapes", "[J", true)
  | 4 => ("MachineTree$Walk", "heads", "[I", true)
  | 5 => ("MachineTree$Walk", "states", "[I", true)
  | 6 => ("MachineTree$Walk", "sides", "[I", true)
  | 7 => ("MachineTree$Walk", "outcome", "I", false)
  | 8 => ("MachineTree$Walk", "steps", "I", false)
  | 9 => ("MachineTree$Walk", "period", "I", false)
  | 10 => ("MachineTree$Walk", "drift", "I", false)
  | 11 => ("MachineTree$Walk", "state", "I", false)
  | 12 => ("MachineTree$Walk", "head", "I", false)
  | 13 => ("MachineTree$Walk", "ones", "I", false)
  | 14 => ("MachineTree$Walk", "left", "I", false)
  | _ => ("MachineTree$Walk", "right", "I", false)
def tyX2 : Nat → FieldType := fun k => match k with
  | 0 => .int
  | 1 => .int
  | 2 => .array .long
  | 3 => .array .long
  | 4 => .array .int
  | 5 => .array .int
  | 6 => .array .int
  | 7 => .int
  | 8 => .int
  | 9 => .int
  | 10 => .int
  | 11 => .int
  | 12 => .int
  | 13 => .int
  | 14 => .int
  | _ => .int
abbrev wsX20 : List Cond := u_ws RX2 TX2 16
theorem nmX2 : ∀ a, a < 16 → ∀ b, b < 16 → a ≠ b → (TX2 a).2.1 ≠ (TX2 b).2.1 := by decide +kernel
theorem tyX2_ok : ∀ k, k < 16 → parseFieldDescriptor (TX2 k).2.2.1 = some (tyX2 k) := by decide +kernel
abbrev cX2_init : ByteArray := prog_4_method_1_code
def yX2_init : MethodName := ⟨RX2, "<init>", "(I)V"⟩
abbrev cX2_follow : ByteArray := prog_4_method_2_code
def yX2_follow : MethodName := ⟨RX2, "follow", "(LMachineTree$Machine;I)V"⟩
abbrev cX2_symbolNow : ByteArray := prog_4_method_3_code
def yX2_symbolNow : MethodName := ⟨RX2, "symbolNow", "(I)I"⟩
abbrev cX2_begin : ByteArray := prog_4_method_4_code
def yX2_begin : MethodName := ⟨RX2, "begin", "()V"⟩
abbrev cX2_act : ByteArray := prog_4_method_5_code
def yX2_act : MethodName := ⟨RX2, "act", "(I)V"⟩
abbrev cX2_write : ByteArray := prog_4_method_6_code
def yX2_write : MethodName := ⟨RX2, "write", "(I)V"⟩
abbrev cX2_note : ByteArray := prog_4_method_7_code
def yX2_note : MethodName := ⟨RX2, "note", "(I)V"⟩
abbrev cX2_look : ByteArray := prog_4_method_8_code
def yX2_look : MethodName := ⟨RX2, "look", "()V"⟩
abbrev cX2_latestSame : ByteArray := prog_4_method_9_code
def yX2_latestSame : MethodName := ⟨RX2, "latestSame", "()I"⟩
abbrev cX2_sameTape : ByteArray := prog_4_method_10_code
def yX2_sameTape : MethodName := ⟨RX2, "sameTape", "(I)Z"⟩
abbrev cX2_latestDrift : ByteArray := prog_4_method_11_code
def yX2_latestDrift : MethodName := ⟨RX2, "latestDrift", "()I"⟩
abbrev cX2_sameBehind : ByteArray := prog_4_method_12_code
def yX2_sameBehind : MethodName := ⟨RX2, "sameBehind", "(III)Z"⟩
abbrev cX2_symbolIn : ByteArray := prog_4_method_13_code
def yX2_symbolIn : MethodName := ⟨RX2, "symbolIn", "([JII)I"⟩
def RX3 : String := "MachineTree"
def TX3 : u_T := fun k => match k with
  | 0 => ("MachineTree", "machine", "LMachineTree$Machine;", true)
  | 1 => ("MachineTree", "walk", "LMachineTree$Walk;", true)
  | 2 => ("MachineTree", "tree", "LMachineTree$Tree;", true)
  | _ => ("MachineTree", "walked", "Z", false)
def tyX3 : Nat → FieldType := fun k => match k with
  | 0 => .object "MachineTree$Machine"
  | 1 => .object "MachineTree$Walk"
  | 2 => .object "MachineTree$Tree"
  | _ => .boolean
abbrev wsX30 : List Cond := u_ws RX3 TX3 4
theorem nmX3 : ∀ a, a < 4 → ∀ b, b < 4 → a ≠ b → (TX3 a).2.1 ≠ (TX3 b).2.1 := by decide +kernel
theorem tyX3_ok : ∀ k, k < 4 → parseFieldDescriptor (TX3 k).2.2.1 = some (tyX3 k) := by decide +kernel
abbrev cX3_init : ByteArray := prog_1_method_1_code
def yX3_init : MethodName := ⟨RX3, "<init>", "(I)V"⟩
abbrev cX3_set : ByteArray := prog_1_method_2_code
def yX3_set : MethodName := ⟨RX3, "set", "(III)I"⟩
abbrev cX3_run : ByteArray := prog_1_method_3_code
def yX3_run : MethodName := ⟨RX3, "run", "(I)I"⟩
abbrev cX3_figure : ByteArray := prog_1_method_4_code
def yX3_figure : MethodName := ⟨RX3, "figure", "(I)I"⟩
abbrev cX3_cell : ByteArray := prog_1_method_5_code
def yX3_cell : MethodName := ⟨RX3, "cell", "(I)I"⟩
abbrev cX3_share : ByteArray := prog_1_method_6_code
def yX3_share : MethodName := ⟨RX3, "share", "()F"⟩
abbrev cX3_grow : ByteArray := prog_1_method_7_code
def yX3_grow : MethodName := ⟨RX3, "grow", "(I)I"⟩
abbrev cX3_taken : ByteArray := prog_1_method_8_code
def yX3_taken : MethodName := ⟨RX3, "taken", "(I)I"⟩
abbrev cX3_champion : ByteArray := prog_1_method_9_code
def yX3_champion : MethodName := ⟨RX3, "champion", "(II)I"⟩
abbrev cX3_mean : ByteArray := prog_1_method_10_code
def yX3_mean : MethodName := ⟨RX3, "mean", "()F"⟩
abbrev cX3_needWalk : ByteArray := prog_1_method_11_code
def yX3_needWalk : MethodName := ⟨RX3, "needWalk", "()V"⟩
def RX4 : String := "MachineTreeModel"
def TX4 : u_T := fun k => match k with
  | 0 => ("MachineTreeModel", "thrown", "I", false)
  | 1 => ("MachineTreeModel", "n", "I", true)
  | 2 => ("MachineTreeModel", "machine", "[I", true)
  | 3 => ("MachineTreeModel", "tree", "[I", true)
  | 4 => ("MachineTreeModel", "best", "[I", true)
  | 5 => ("MachineTreeModel", "tape", "[I", true)
  | 6 => ("MachineTreeModel", "back", "[I", true)
  | 7 => ("MachineTreeModel", "states", "[I", true)
  | 8 => ("MachineTreeModel", "heads", "[I", true)
  | 9 => ("MachineTreeModel", "records", "[I", true)
  | 10 => ("MachineTreeModel", "changed", "[I", true)
  | 11 => ("MachineTreeModel", "steps", "I", false)
  | 12 => ("MachineTreeModel", "period", "I", false)
  | 13 => ("MachineTreeModel", "drift", "I", false)
  | 14 => ("MachineTreeModel", "left", "I", false)
  | 15 => ("MachineTreeModel", "right", "I", false)
  | 16 => ("MachineTreeModel", "ran", "Z", false)
  | 17 => ("MachineTreeModel", "figures", "[I", true)
  | 18 => ("MachineTreeModel", "kept", "[I", true)
  | 19 => ("MachineTreeModel", "depth", "I", false)
  | 20 => ("MachineTreeModel", "place", "[I", true)
  | 21 => ("MachineTreeModel", "last", "[I", true)
  | 22 => ("MachineTreeModel", "over", "Z", false)
  | 23 => ("MachineTreeModel", "counts", "[I", true)
  | 24 => ("MachineTreeModel", "championSteps", "I", false)
  | 25 => ("MachineTreeModel", "championOnes", "I", false)
  | 26 => ("MachineTreeModel", "mostOnes", "I", false)
  | _ => ("MachineTreeModel", "sum", "I", false)
def tyX4 : Nat → FieldType := fun k => match k with
  | 0 => .int
  | 1 => .int
  | 2 => .array .int
  | 3 => .array .int
  | 4 => .array .int
  | 5 => .array .int
  | 6 => .array .int
  | 7 => .array .int
  | 8 => .array .int
  | 9 => .array .int
  | 10 => .array .int
  | 11 => .int
  | 12 => .int
  | 13 => .int
  | 14 => .int
  | 15 => .int
  | 16 => .boolean
  | 17 => .array .int
  | 18 => .array .int
  | 19 => .int
  | 20 => .array .int
  | 21 => .array .int
  | 22 => .boolean
  | 23 => .array .int
  | 24 => .int
  | 25 => .int
  | 26 => .int
  | _ => .int
abbrev wsX40 : List Cond := u_ws RX4 TX4 28
theorem nmX4 : ∀ a, a < 28 → ∀ b, b < 28 → a ≠ b → (TX4 a).2.1 ≠ (TX4 b).2.1 := by decide +kernel
theorem tyX4_ok : ∀ k, k < 28 → parseFieldDescriptor (TX4 k).2.2.1 = some (tyX4 k) := by decide +kernel
abbrev cX4_init : ByteArray := prog_6_method_1_code
def yX4_init : MethodName := ⟨RX4, "<init>", "(I)V"⟩
abbrev cX4_thrown : ByteArray := prog_6_method_2_code
def yX4_thrown : MethodName := ⟨RX4, "thrown", "()I"⟩
abbrev cX4_refuse : ByteArray := prog_6_method_3_code
def yX4_refuse : MethodName := ⟨RX4, "refuse", "(I)I"⟩
abbrev cX4_set : ByteArray := prog_6_method_4_code
def yX4_set : MethodName := ⟨RX4, "set", "(III)I"⟩
abbrev cX4_begin : ByteArray := prog_6_method_5_code
def yX4_begin : MethodName := ⟨RX4, "begin", "()V"⟩
abbrev cX4_step : ByteArray := prog_6_method_6_code
def yX4_step : MethodName := ⟨RX4, "step", "([I)Z"⟩
abbrev cX4_cycles : ByteArray := prog_6_method_7_code
def yX4_cycles : MethodName := ⟨RX4, "cycles", "()Z"⟩
abbrev cX4_drifts : ByteArray := prog_6_method_8_code
def yX4_drifts : MethodName := ⟨RX4, "drifts", "()Z"⟩
abbrev cX4_alike : ByteArray := prog_6_method_9_code
def yX4_alike : MethodName := ⟨RX4, "alike", "(III)Z"⟩
abbrev cX4_outcome : ByteArray := prog_6_method_10_code
def yX4_outcome : MethodName := ⟨RX4, "outcome", "([II)I"⟩
abbrev cX4_ones : ByteArray := prog_6_method_11_code
def yX4_ones : MethodName := ⟨RX4, "ones", "()I"⟩
abbrev cX4_run : ByteArray := prog_6_method_12_code
def yX4_run : MethodName := ⟨RX4, "run", "(I)I"⟩
abbrev cX4_figure : ByteArray := prog_6_method_13_code
def yX4_figure : MethodName := ⟨RX4, "figure", "(I)I"⟩
abbrev cX4_cell : ByteArray := prog_6_method_14_code
def yX4_cell : MethodName := ⟨RX4, "cell", "(I)I"⟩
abbrev cX4_share : ByteArray := prog_6_method_15_code
def yX4_share : MethodName := ⟨RX4, "share", "()F"⟩
abbrev cX4_actions : ByteArray := prog_6_method_16_code
def yX4_actions : MethodName := ⟨RX4, "actions", "()I"⟩
abbrev cX4_greatest : ByteArray := prog_6_method_17_code
def yX4_greatest : MethodName := ⟨RX4, "greatest", "()I"⟩
abbrev cX4_take : ByteArray := prog_6_method_18_code
def yX4_take : MethodName := ⟨RX4, "take", "()V"⟩
abbrev cX4_goOn : ByteArray := prog_6_method_19_code
def yX4_goOn : MethodName := ⟨RX4, "goOn", "()V"⟩
abbrev cX4_grow : ByteArray := prog_6_method_20_code
def yX4_grow : MethodName := ⟨RX4, "grow", "(I)I"⟩
abbrev cX4_taken : ByteArray := prog_6_method_21_code
def yX4_taken : MethodName := ⟨RX4, "taken", "(I)I"⟩
abbrev cX4_champion : ByteArray := prog_6_method_22_code
def yX4_champion : MethodName := ⟨RX4, "champion", "(II)I"⟩
abbrev cX4_mean : ByteArray := prog_6_method_23_code
def yX4_mean : MethodName := ⟨RX4, "mean", "()F"⟩
def RJ9 : String := "java/lang/Math"
def TJ9 : u_T := fun k => match k with
  | _ => ("", "", "", false)
def tyJ9 : Nat → FieldType := fun k => match k with
  | _ => .int
abbrev wsJ90 : List Cond := u_ws RJ9 TJ9 0
theorem nmJ9 : ∀ a, a < 0 → ∀ b, b < 0 → a ≠ b → (TJ9 a).2.1 ≠ (TJ9 b).2.1 := by decide +kernel
theorem tyJ9_ok : ∀ k, k < 0 → parseFieldDescriptor (TJ9 k).2.2.1 = some (tyJ9 k) := by decide +kernel
abbrev cJ9_max_7cf53 : ByteArray := prog_10_method_65_code
def yJ9_max_7cf53 : MethodName := ⟨RJ9, "max", "(II)I"⟩
abbrev cJ9_min_7cf53 : ByteArray := prog_10_method_69_code
def yJ9_min_7cf53 : MethodName := ⟨RJ9, "min", "(II)I"⟩
def RJ0 : String := "java/lang/String"
def TJ0 : u_T := fun k => match k with
  | _ => ("", "", "", false)
def tyJ0 : Nat → FieldType := fun k => match k with
  | _ => .int
abbrev wsJ00 : List Cond := u_ws RJ0 TJ0 0
theorem nmJ0 : ∀ a, a < 0 → ∀ b, b < 0 → a ≠ b → (TJ0 a).2.1 ≠ (TJ0 b).2.1 := by decide +kernel
theorem tyJ0_ok : ∀ k, k < 0 → parseFieldDescriptor (TJ0 k).2.2.1 = some (tyJ0 k) := by decide +kernel
def RJ10 : String := "java/lang/System"
def TJ10 : u_T := fun k => match k with
  | _ => ("", "", "", false)
def tyJ10 : Nat → FieldType := fun k => match k with
  | _ => .int
abbrev wsJ100 : List Cond := u_ws RJ10 TJ10 0
theorem nmJ10 : ∀ a, a < 0 → ∀ b, b < 0 → a ≠ b → (TJ10 a).2.1 ≠ (TJ10 b).2.1 := by decide +kernel
theorem tyJ10_ok : ∀ k, k < 0 → parseFieldDescriptor (TJ10 k).2.2.1 = some (tyJ10 k) := by decide +kernel
def RJ7 : String := "java/util/Arrays"
def TJ7 : u_T := fun k => match k with
  | _ => ("", "", "", false)
def tyJ7 : Nat → FieldType := fun k => match k with
  | _ => .int
abbrev wsJ70 : List Cond := u_ws RJ7 TJ7 0
theorem nmJ7 : ∀ a, a < 0 → ∀ b, b < 0 → a ≠ b → (TJ7 a).2.1 ≠ (TJ7 b).2.1 := by decide +kernel
theorem tyJ7_ok : ∀ k, k < 0 → parseFieldDescriptor (TJ7 k).2.2.1 = some (tyJ7 k) := by decide +kernel
abbrev cJ7_fill_d0a16 : ByteArray := prog_15_method_101_code
def yJ7_fill_d0a16 : MethodName := ⟨RJ7, "fill", "([JJ)V"⟩
abbrev cJ7_fill_53178 : ByteArray := prog_15_method_103_code
def yJ7_fill_53178 : MethodName := ⟨RJ7, "fill", "([II)V"⟩
def RL : String := "MachineTreeLaw"
abbrev cL_cell : ByteArray := method_2_code
def yL_cell : MethodName := ⟨RL, "cell", "([II)I"⟩
abbrev cL_set : ByteArray := method_3_code
def yL_set : MethodName := ⟨RL, "set", "(LMachineTree;III[J)I"⟩
abbrev cL_run : ByteArray := method_4_code
def yL_run : MethodName := ⟨RL, "run", "(LMachineTree;I[J)I"⟩
abbrev cL_figure : ByteArray := method_5_code
def yL_figure : MethodName := ⟨RL, "figure", "(LMachineTree;I[J)I"⟩
abbrev cL_cell_ : ByteArray := method_6_code
def yL_cell_ : MethodName := ⟨RL, "cell", "(LMachineTree;I[J)I"⟩
abbrev cL_share : ByteArray := method_7_code
def yL_share : MethodName := ⟨RL, "share", "(LMachineTree;[D)I"⟩
abbrev cL_grow : ByteArray := method_8_code
def yL_grow : MethodName := ⟨RL, "grow", "(LMachineTree;I[J)I"⟩
abbrev cL_taken : ByteArray := method_9_code
def yL_taken : MethodName := ⟨RL, "taken", "(LMachineTree;I[J)I"⟩
abbrev cL_champion : ByteArray := method_10_code
def yL_champion : MethodName := ⟨RL, "champion", "(LMachineTree;II[J)I"⟩
abbrev cL_mean : ByteArray := method_11_code
def yL_mean : MethodName := ⟨RL, "mean", "(LMachineTree;[D)I"⟩
abbrev cL_law : ByteArray := code
def yL_law : MethodName := ⟨RL, "law", "([I)Z"⟩
def wsJ7_fill_53178 : List Cond := .code yJ7_fill_53178 cJ7_fill_53178 4 none :: ([])
def wsX0_init : List Cond := .code yX0_init cX0_init 2 none :: ([.methodLink RX0 3 objectInit, .instanceMethod objectInit, .code objectInit ⟨#[0xb1]⟩ 1 none, .fieldLink RX0 9 "MachineTree$Machine" "states" "I", .arrayClass .int, .fieldLink RX0 15 "MachineTree$Machine" "codes" "[I", .methodLink RX0 19 yJ7_fill_53178, .static yJ7_fill_53178, .initialized RJ7, .code yJ7_fill_53178 cJ7_fill_53178 4 none] ++ wsX00)
def wsX0_hasPlace : List Cond := .code yX0_hasPlace cX0_hasPlace 3 (some .boolean) :: ([.fieldLink RX0 9 "MachineTree$Machine" "states" "I"] ++ wsX00)
def wsX0_allows : List Cond := .code yX0_allows cX0_allows 2 (some .boolean) :: ([.fieldLink RX0 9 "MachineTree$Machine" "states" "I"] ++ wsX00)
def wsX0_codeAt : List Cond := .code yX0_codeAt cX0_codeAt 4 (some .int) :: ([.fieldLink RX0 15 "MachineTree$Machine" "codes" "[I"] ++ wsX00)
def wsX0_put : List Cond := .code yX0_put cX0_put 5 none :: ([.fieldLink RX0 15 "MachineTree$Machine" "codes" "[I"] ++ wsX00)
def wsX0_greatestNext : List Cond := .code yX0_greatestNext cX0_greatestNext 6 (some .int) :: ([.fieldLink RX0 15 "MachineTree$Machine" "codes" "[I", .methodLink RX0 25 Lib.Math.max.name, .static Lib.Math.max.name, .initialized "java/lang/Math", .code Lib.Math.max.name Lib.Math.max.code 2 (some .int)] ++ wsX00)
def wsX0_copyFrom : List Cond := .code yX0_copyFrom cX0_copyFrom 2 none :: ([.fieldLink RX0 15 "MachineTree$Machine" "codes" "[I", .methodLink RX0 31 Lib.Math.min.name, .static Lib.Math.min.name, .initialized "java/lang/Math", .code Lib.Math.min.name Lib.Math.min.code 2 (some .int), .methodLink RX0 34 arraycopyName, .native arraycopyName, .static arraycopyName, .initialized "java/lang/System"] ++ wsX00)
def wsX2_init : List Cond := .code yX2_init cX2_init 2 none :: ([.methodLink RX2 3 objectInit, .instanceMethod objectInit, .code objectInit ⟨#[0xb1]⟩ 1 none, .methodLink RX2 9 Lib.Math.min.name, .static Lib.Math.min.name, .initialized "java/lang/Math", .code Lib.Math.min.name Lib.Math.min.code 2 (some .int), .methodLink RX2 15 Lib.Math.max.name, .static Lib.Math.max.name, .code Lib.Math.max.name Lib.Math.max.code 2 (some .int), .fieldLink RX2 18 "MachineTree$Walk" "reach" "I", .fieldLink RX2 24 "MachineTree$Walk" "words" "I", .arrayClass .long, .fieldLink RX2 27 "MachineTree$Walk" "tape" "[J", .fieldLink RX2 31 "MachineTree$Walk" "tapes" "[J", .arrayClass .int, .fieldLink RX2 34 "MachineTree$Walk" "heads" "[I", .fieldLink RX2 38 "MachineTree$Walk" "states" "[I", .fieldLink RX2 41 "MachineTree$Walk" "sides" "[I"] ++ wsX20)
def wsX1_init_r1 : List Cond := [Cond.methodLink RX1 3 objectInit, Cond.instanceMethod objectInit, Cond.code objectInit ⟨#[0xb1]⟩ 1 none, Cond.fieldLink RX1 9 "MachineTree$Tree" "states" "I", Cond.classLink RX1 15 RX0, Cond.instantiable RX0 2, Cond.initialized RX0, Cond.fieldLink RX1 20 "MachineTree$Tree" "current" "LMachineTree$Machine;", Cond.fieldLink RX1 24 "MachineTree$Tree" "best" "LMachineTree$Machine;", Cond.classLink RX1 27 RX2, Cond.instantiable RX2 16, Cond.initialized RX2, Cond.fieldLink RX1 30 "MachineTree$Tree" "way" "LMachineTree$Walk;", Cond.arrayClass .int, Cond.fieldLink RX1 34 "MachineTree$Tree" "placeStates" "[I", Cond.fieldLink RX1 38 "MachineTree$Tree" "placeSymbols" "[I", Cond.fieldLink RX1 41 "MachineTree$Tree" "lastCodes" "[I", Cond.methodLink RX1 17 yX0_init, Cond.instanceMethod yX0_init, Cond.code yX0_init cX0_init 2 none, Cond.methodLink RX0 3 objectInit, Cond.fieldLink RX0 9 "MachineTree$Machine" "states" "I", Cond.fieldLink RX0 15 "MachineTree$Machine" "codes" "[I", Cond.methodLink RX0 19 yJ7_fill_53178]
def wsX1_init_r2 : List Cond := [Cond.static yJ7_fill_53178, Cond.initialized RJ7, Cond.code yJ7_fill_53178 cJ7_fill_53178 4 none, Cond.methodLink RX1 29 yX2_init, Cond.instanceMethod yX2_init, Cond.code yX2_init cX2_init 2 none, Cond.methodLink RX2 3 objectInit, Cond.methodLink RX2 9 Lib.Math.min.name, Cond.static Lib.Math.min.name, Cond.initialized "java/lang/Math", Cond.code Lib.Math.min.name Lib.Math.min.code 2 (some .int), Cond.methodLink RX2 15 Lib.Math.max.name, Cond.static Lib.Math.max.name, Cond.code Lib.Math.max.name Lib.Math.max.code 2 (some .int), Cond.fieldLink RX2 18 "MachineTree$Walk" "reach" "I", Cond.fieldLink RX2 24 "MachineTree$Walk" "words" "I", Cond.arrayClass .long, Cond.fieldLink RX2 27 "MachineTree$Walk" "tape" "[J", Cond.fieldLink RX2 31 "MachineTree$Walk" "tapes" "[J", Cond.fieldLink RX2 34 "MachineTree$Walk" "heads" "[I", Cond.fieldLink RX2 38 "MachineTree$Walk" "states" "[I", Cond.fieldLink RX2 41 "MachineTree$Walk" "sides" "[I"]
def wsX1_init : List Cond := .code yX1_init cX1_init 2 none :: ((wsX1_init_r1 ++ wsX1_init_r2) ++ wsX10 ++ wsX00 ++ wsX20)
def wsX1_hasChildren : List Cond := .code yX1_hasChildren cX1_hasChildren 1 (some .boolean) :: ([.fieldLink RX1 30 "MachineTree$Tree" "way" "LMachineTree$Walk;", .fieldLink RX1 118 "MachineTree$Tree" "depth" "I", .fieldLink RX1 9 "MachineTree$Tree" "states" "I", .fieldLink RX1 41 "MachineTree$Tree" "lastCodes" "[I"] ++ wsX10 ++ wsX20)
def wsX2_symbolIn : List Cond := .code yX2_symbolIn cX2_symbolIn 6 (some .int) :: ([.fieldLink RX2 18 "MachineTree$Walk" "reach" "I"] ++ wsX20)
def wsX2_symbolNow : List Cond := .code yX2_symbolNow cX2_symbolNow 2 (some .int) :: ([.fieldLink RX2 27 "MachineTree$Walk" "tape" "[J", .methodLink RX2 75 yX2_symbolIn, .instanceMethod yX2_symbolIn, .selects RX2 yX2_symbolIn yX2_symbolIn, .initialized RX2, .code yX2_symbolIn cX2_symbolIn 6 (some .int), .fieldLink RX2 18 "MachineTree$Walk" "reach" "I"] ++ wsX20)
def wsX1_toFirstChild_r1 : List Cond := [Cond.fieldLink RX1 118 "MachineTree$Tree" "depth" "I", Cond.fieldLink RX1 41 "MachineTree$Tree" "lastCodes" "[I", Cond.fieldLink RX1 30 "MachineTree$Tree" "way" "LMachineTree$Walk;", Cond.fieldLink RX1 34 "MachineTree$Tree" "placeStates" "[I", Cond.fieldLink RX1 38 "MachineTree$Tree" "placeSymbols" "[I", Cond.fieldLink RX1 20 "MachineTree$Tree" "current" "LMachineTree$Machine;", Cond.fieldLink RX1 9 "MachineTree$Tree" "states" "I", Cond.methodLink RX1 135 Lib.Math.min.name, Cond.static Lib.Math.min.name, Cond.initialized "java/lang/Math", Cond.code Lib.Math.min.name Lib.Math.min.code 2 (some .int), Cond.methodLink RX1 124 yX2_symbolNow, Cond.instanceMethod yX2_symbolNow, Cond.selects RX2 yX2_symbolNow yX2_symbolNow, Cond.initialized RX2, Cond.code yX2_symbolNow cX2_symbolNow 2 (some .int), Cond.fieldLink RX2 27 "MachineTree$Walk" "tape" "[J", Cond.methodLink RX2 75 yX2_symbolIn, Cond.instanceMethod yX2_symbolIn, Cond.selects RX2 yX2_symbolIn yX2_symbolIn, Cond.code yX2_symbolIn cX2_symbolIn 6 (some .int), Cond.fieldLink RX2 18 "MachineTree$Walk" "reach" "I", Cond.methodLink RX1 131 yX0_greatestNext, Cond.instanceMethod yX0_greatestNext]
def wsX1_toFirstChild_r2 : List Cond := [Cond.selects RX0 yX0_greatestNext yX0_greatestNext, Cond.initialized RX0, Cond.code yX0_greatestNext cX0_greatestNext 6 (some .int), Cond.fieldLink RX0 15 "MachineTree$Machine" "codes" "[I", Cond.methodLink RX0 25 Lib.Math.max.name, Cond.static Lib.Math.max.name, Cond.code Lib.Math.max.name Lib.Math.max.code 2 (some .int), Cond.methodLink RX1 105 yX0_put, Cond.instanceMethod yX0_put, Cond.selects RX0 yX0_put yX0_put, Cond.code yX0_put cX0_put 5 none]
def wsX1_toFirstChild : List Cond := .code yX1_toFirstChild cX1_toFirstChild 2 none :: ((wsX1_toFirstChild_r1 ++ wsX1_toFirstChild_r2) ++ wsX10 ++ wsX20 ++ wsX00)
def wsX1_toNextBranch : List Cond := .code yX1_toNextBranch cX1_toNextBranch 5 (some .boolean) :: ([.fieldLink RX1 118 "MachineTree$Tree" "depth" "I", .fieldLink RX1 41 "MachineTree$Tree" "lastCodes" "[I", .methodLink RX1 135 Lib.Math.min.name, .static Lib.Math.min.name, .initialized "java/lang/Math", .code Lib.Math.min.name Lib.Math.min.code 2 (some .int), .fieldLink RX1 34 "MachineTree$Tree" "placeStates" "[I", .fieldLink RX1 38 "MachineTree$Tree" "placeSymbols" "[I", .fieldLink RX1 20 "MachineTree$Tree" "current" "LMachineTree$Machine;", .methodLink RX1 138 yX0_codeAt, .instanceMethod yX0_codeAt, .selects RX0 yX0_codeAt yX0_codeAt, .initialized RX0, .code yX0_codeAt cX0_codeAt 4 (some .int), .fieldLink RX0 15 "MachineTree$Machine" "codes" "[I", .methodLink RX1 105 yX0_put, .instanceMethod yX0_put, .selects RX0 yX0_put yX0_put, .code yX0_put cX0_put 5 none] ++ wsX10 ++ wsX00)
def wsX1_moveOn_r1 : List Cond := [Cond.fieldLink RX1 98 "MachineTree$Tree" "ended" "Z", Cond.fieldLink RX1 102 "MachineTree$Tree" "begun" "Z", Cond.fieldLink RX1 20 "MachineTree$Tree" "current" "LMachineTree$Machine;", Cond.methodLink RX1 105 yX0_put, Cond.instanceMethod yX0_put, Cond.selects RX0 yX0_put yX0_put, Cond.initialized RX0, Cond.code yX0_put cX0_put 5 none, Cond.fieldLink RX0 15 "MachineTree$Machine" "codes" "[I", Cond.methodLink RX1 109 yX1_hasChildren, Cond.instanceMethod yX1_hasChildren, Cond.selects RX1 yX1_hasChildren yX1_hasChildren, Cond.initialized RX1, Cond.code yX1_hasChildren cX1_hasChildren 1 (some .boolean), Cond.fieldLink RX1 30 "MachineTree$Tree" "way" "LMachineTree$Walk;", Cond.fieldLink RX1 118 "MachineTree$Tree" "depth" "I", Cond.fieldLink RX1 9 "MachineTree$Tree" "states" "I", Cond.fieldLink RX1 41 "MachineTree$Tree" "lastCodes" "[I", Cond.methodLink RX1 112 yX1_toFirstChild, Cond.instanceMethod yX1_toFirstChild, Cond.selects RX1 yX1_toFirstChild yX1_toFirstChild, Cond.code yX1_toFirstChild cX1_toFirstChild 2 none, Cond.fieldLink RX1 34 "MachineTree$Tree" "placeStates" "[I", Cond.fieldLink RX1 38 "MachineTree$Tree" "placeSymbols" "[I"]
def wsX1_moveOn_r2 : List Cond := [Cond.methodLink RX1 135 Lib.Math.min.name, Cond.static Lib.Math.min.name, Cond.initialized "java/lang/Math", Cond.code Lib.Math.min.name Lib.Math.min.code 2 (some .int), Cond.methodLink RX1 124 yX2_symbolNow, Cond.instanceMethod yX2_symbolNow, Cond.selects RX2 yX2_symbolNow yX2_symbolNow, Cond.initialized RX2, Cond.code yX2_symbolNow cX2_symbolNow 2 (some .int), Cond.fieldLink RX2 27 "MachineTree$Walk" "tape" "[J", Cond.methodLink RX2 75 yX2_symbolIn, Cond.instanceMethod yX2_symbolIn, Cond.selects RX2 yX2_symbolIn yX2_symbolIn, Cond.code yX2_symbolIn cX2_symbolIn 6 (some .int), Cond.fieldLink RX2 18 "MachineTree$Walk" "reach" "I", Cond.methodLink RX1 131 yX0_greatestNext, Cond.instanceMethod yX0_greatestNext, Cond.selects RX0 yX0_greatestNext yX0_greatestNext, Cond.code yX0_greatestNext cX0_greatestNext 6 (some .int), Cond.methodLink RX0 25 Lib.Math.max.name, Cond.static Lib.Math.max.name, Cond.code Lib.Math.max.name Lib.Math.max.code 2 (some .int), Cond.methodLink RX1 115 yX1_toNextBranch, Cond.instanceMethod yX1_toNextBranch]
def wsX1_moveOn_r3 : List Cond := [Cond.selects RX1 yX1_toNextBranch yX1_toNextBranch, Cond.code yX1_toNextBranch cX1_toNextBranch 5 (some .boolean), Cond.methodLink RX1 138 yX0_codeAt, Cond.instanceMethod yX0_codeAt, Cond.selects RX0 yX0_codeAt yX0_codeAt, Cond.code yX0_codeAt cX0_codeAt 4 (some .int)]
def wsX1_moveOn : List Cond := .code yX1_moveOn cX1_moveOn 1 (some .boolean) :: ((wsX1_moveOn_r1 ++ (wsX1_moveOn_r2 ++ wsX1_moveOn_r3)) ++ wsX10 ++ wsX00 ++ wsX20)
def wsJ7_fill_d0a16 : List Cond := .code yJ7_fill_d0a16 cJ7_fill_d0a16 5 none :: ([])
def wsX2_note : List Cond := .code yX2_note cX2_note 2 none :: ([.fieldLink RX2 47 "MachineTree$Walk" "steps" "I", .fieldLink RX2 18 "MachineTree$Walk" "reach" "I", .fieldLink RX2 34 "MachineTree$Walk" "heads" "[I", .fieldLink RX2 56 "MachineTree$Walk" "head" "I", .fieldLink RX2 38 "MachineTree$Walk" "states" "[I", .fieldLink RX2 53 "MachineTree$Walk" "state" "I", .fieldLink RX2 41 "MachineTree$Walk" "sides" "[I", .fieldLink RX2 27 "MachineTree$Walk" "tape" "[J", .fieldLink RX2 31 "MachineTree$Walk" "tapes" "[J", .fieldLink RX2 24 "MachineTree$Walk" "words" "I", .methodLink RX2 106 arraycopyName, .native arraycopyName, .static arraycopyName, .initialized "java/lang/System"] ++ wsX20)
def wsX2_begin_r1 : List Cond := [Cond.fieldLink RX2 27 "MachineTree$Walk" "tape" "[J", Cond.fieldLink RX2 50 "MachineTree$Walk" "outcome" "I", Cond.fieldLink RX2 47 "MachineTree$Walk" "steps" "I", Cond.fieldLink RX2 85 "MachineTree$Walk" "period" "I", Cond.fieldLink RX2 88 "MachineTree$Walk" "drift" "I", Cond.fieldLink RX2 53 "MachineTree$Walk" "state" "I", Cond.fieldLink RX2 56 "MachineTree$Walk" "head" "I", Cond.fieldLink RX2 91 "MachineTree$Walk" "ones" "I", Cond.fieldLink RX2 94 "MachineTree$Walk" "left" "I", Cond.fieldLink RX2 97 "MachineTree$Walk" "right" "I", Cond.methodLink RX2 79 yJ7_fill_d0a16, Cond.static yJ7_fill_d0a16, Cond.initialized RJ7, Cond.code yJ7_fill_d0a16 cJ7_fill_d0a16 5 none, Cond.methodLink RX2 100 yX2_note, Cond.instanceMethod yX2_note, Cond.selects RX2 yX2_note yX2_note, Cond.initialized RX2, Cond.code yX2_note cX2_note 2 none, Cond.fieldLink RX2 18 "MachineTree$Walk" "reach" "I", Cond.fieldLink RX2 34 "MachineTree$Walk" "heads" "[I", Cond.fieldLink RX2 38 "MachineTree$Walk" "states" "[I", Cond.fieldLink RX2 41 "MachineTree$Walk" "sides" "[I", Cond.fieldLink RX2 31 "MachineTree$Walk" "tapes" "[J"]
def wsX2_begin_r2 : List Cond := [Cond.fieldLink RX2 24 "MachineTree$Walk" "words" "I", Cond.methodLink RX2 106 arraycopyName, Cond.native arraycopyName, Cond.static arraycopyName, Cond.initialized "java/lang/System"]
def wsX2_begin : List Cond := .code yX2_begin cX2_begin 1 none :: ((wsX2_begin_r1 ++ wsX2_begin_r2) ++ wsX20)
def wsX2_write : List Cond := .code yX2_write cX2_write 5 none :: ([.fieldLink RX2 56 "MachineTree$Walk" "head" "I", .fieldLink RX2 18 "MachineTree$Walk" "reach" "I", .fieldLink RX2 27 "MachineTree$Walk" "tape" "[J", .fieldLink RX2 91 "MachineTree$Walk" "ones" "I", .methodLink RX2 59 yX2_symbolNow, .instanceMethod yX2_symbolNow, .selects RX2 yX2_symbolNow yX2_symbolNow, .initialized RX2, .code yX2_symbolNow cX2_symbolNow 2 (some .int), .methodLink RX2 75 yX2_symbolIn, .instanceMethod yX2_symbolIn, .selects RX2 yX2_symbolIn yX2_symbolIn, .code yX2_symbolIn cX2_symbolIn 6 (some .int)] ++ wsX20)
def wsX2_act_r1 : List Cond := [Cond.fieldLink RX2 56 "MachineTree$Walk" "head" "I", Cond.fieldLink RX2 53 "MachineTree$Walk" "state" "I", Cond.fieldLink RX2 97 "MachineTree$Walk" "right" "I", Cond.fieldLink RX2 94 "MachineTree$Walk" "left" "I", Cond.methodLink RX2 9 Lib.Math.min.name, Cond.static Lib.Math.min.name, Cond.initialized "java/lang/Math", Cond.code Lib.Math.min.name Lib.Math.min.code 2 (some .int), Cond.methodLink RX2 15 Lib.Math.max.name, Cond.static Lib.Math.max.name, Cond.code Lib.Math.max.name Lib.Math.max.code 2 (some .int), Cond.methodLink RX2 103 yX2_write, Cond.instanceMethod yX2_write, Cond.selects RX2 yX2_write yX2_write, Cond.initialized RX2, Cond.code yX2_write cX2_write 5 none, Cond.fieldLink RX2 18 "MachineTree$Walk" "reach" "I", Cond.fieldLink RX2 27 "MachineTree$Walk" "tape" "[J", Cond.fieldLink RX2 91 "MachineTree$Walk" "ones" "I", Cond.methodLink RX2 59 yX2_symbolNow, Cond.instanceMethod yX2_symbolNow, Cond.selects RX2 yX2_symbolNow yX2_symbolNow, Cond.code yX2_symbolNow cX2_symbolNow 2 (some .int), Cond.methodLink RX2 75 yX2_symbolIn]
def wsX2_act_r2 : List Cond := [Cond.instanceMethod yX2_symbolIn, Cond.selects RX2 yX2_symbolIn yX2_symbolIn, Cond.code yX2_symbolIn cX2_symbolIn 6 (some .int), Cond.methodLink RX2 100 yX2_note, Cond.instanceMethod yX2_note, Cond.selects RX2 yX2_note yX2_note, Cond.code yX2_note cX2_note 2 none, Cond.fieldLink RX2 47 "MachineTree$Walk" "steps" "I", Cond.fieldLink RX2 34 "MachineTree$Walk" "heads" "[I", Cond.fieldLink RX2 38 "MachineTree$Walk" "states" "[I", Cond.fieldLink RX2 41 "MachineTree$Walk" "sides" "[I", Cond.fieldLink RX2 31 "MachineTree$Walk" "tapes" "[J", Cond.fieldLink RX2 24 "MachineTree$Walk" "words" "I", Cond.methodLink RX2 106 arraycopyName, Cond.native arraycopyName, Cond.static arraycopyName, Cond.initialized "java/lang/System"]
def wsX2_act : List Cond := .code yX2_act cX2_act 3 none :: ((wsX2_act_r1 ++ wsX2_act_r2) ++ wsX20)
def wsX2_sameTape : List Cond := .code yX2_sameTape cX2_sameTape 4 (some .boolean) :: ([.fieldLink RX2 24 "MachineTree$Walk" "words" "I", .fieldLink RX2 31 "MachineTree$Walk" "tapes" "[J", .fieldLink RX2 27 "MachineTree$Walk" "tape" "[J"] ++ wsX20)
def wsX2_latestSame : List Cond := .code yX2_latestSame cX2_latestSame 2 (some .int) :: ([.fieldLink RX2 47 "MachineTree$Walk" "steps" "I", .fieldLink RX2 18 "MachineTree$Walk" "reach" "I", .methodLink RX2 9 Lib.Math.min.name, .static Lib.Math.min.name, .initialized "java/lang/Math", .code Lib.Math.min.name Lib.Math.min.code 2 (some .int), .fieldLink RX2 34 "MachineTree$Walk" "heads" "[I", .fieldLink RX2 56 "MachineTree$Walk" "head" "I", .fieldLink RX2 38 "MachineTree$Walk" "states" "[I", .fieldLink RX2 53 "MachineTree$Walk" "state" "I", .methodLink RX2 119 yX2_sameTape, .instanceMethod yX2_sameTape, .selects RX2 yX2_sameTape yX2_sameTape, .initialized RX2, .code yX2_sameTape cX2_sameTape 4 (some .boolean), .fieldLink RX2 24 "MachineTree$Walk" "words" "I", .fieldLink RX2 31 "MachineTree$Walk" "tapes" "[J", .fieldLink RX2 27 "MachineTree$Walk" "tape" "[J"] ++ wsX20)
def wsX2_sameBehind : List Cond := .code yX2_sameBehind cX2_sameBehind 6 (some .boolean) :: ([.fieldLink RX2 34 "MachineTree$Walk" "heads" "[I", .fieldLink RX2 31 "MachineTree$Walk" "tapes" "[J", .fieldLink RX2 24 "MachineTree$Walk" "words" "I", .fieldLink RX2 27 "MachineTree$Walk" "tape" "[J", .fieldLink RX2 56 "MachineTree$Walk" "head" "I", .methodLink RX2 75 yX2_symbolIn, .instanceMethod yX2_symbolIn, .selects RX2 yX2_symbolIn yX2_symbolIn, .initialized RX2, .code yX2_symbolIn cX2_symbolIn 6 (some .int), .fieldLink RX2 18 "MachineTree$Walk" "reach" "I"] ++ wsX20)
def wsX2_latestDrift : List Cond := .code yX2_latestDrift cX2_latestDrift 6 (some .int) :: ([.fieldLink RX2 47 "MachineTree$Walk" "steps" "I", .fieldLink RX2 18 "MachineTree$Walk" "reach" "I", .methodLink RX2 9 Lib.Math.min.name, .static Lib.Math.min.name, .initialized "java/lang/Math", .code Lib.Math.min.name Lib.Math.min.code 2 (some .int), .fieldLink RX2 41 "MachineTree$Walk" "sides" "[I", .fieldLink RX2 56 "MachineTree$Walk" "head" "I", .fieldLink RX2 34 "MachineTree$Walk" "heads" "[I", .fieldLink RX2 38 "MachineTree$Walk" "states" "[I", .fieldLink RX2 53 "MachineTree$Walk" "state" "I", .methodLink RX2 123 yX2_sameBehind, .instanceMethod yX2_sameBehind, .selects RX2 yX2_sameBehind yX2_sameBehind, .initialized RX2, .code yX2_sameBehind cX2_sameBehind 6 (some .boolean), .fieldLink RX2 31 "MachineTree$Walk" "tapes" "[J", .fieldLink RX2 24 "MachineTree$Walk" "words" "I", .fieldLink RX2 27 "MachineTree$Walk" "tape" "[J", .methodLink RX2 75 yX2_symbolIn, .instanceMethod yX2_symbolIn, .selects RX2 yX2_symbolIn yX2_symbolIn, .code yX2_symbolIn cX2_symbolIn 6 (some .int)] ++ wsX20)
def wsX2_look_r1 : List Cond := [Cond.fieldLink RX2 50 "MachineTree$Walk" "outcome" "I", Cond.fieldLink RX2 47 "MachineTree$Walk" "steps" "I", Cond.fieldLink RX2 85 "MachineTree$Walk" "period" "I", Cond.fieldLink RX2 34 "MachineTree$Walk" "heads" "[I", Cond.fieldLink RX2 56 "MachineTree$Walk" "head" "I", Cond.fieldLink RX2 88 "MachineTree$Walk" "drift" "I", Cond.methodLink RX2 112 yX2_latestSame, Cond.instanceMethod yX2_latestSame, Cond.selects RX2 yX2_latestSame yX2_latestSame, Cond.initialized RX2, Cond.code yX2_latestSame cX2_latestSame 2 (some .int), Cond.fieldLink RX2 18 "MachineTree$Walk" "reach" "I", Cond.methodLink RX2 9 Lib.Math.min.name, Cond.static Lib.Math.min.name, Cond.initialized "java/lang/Math", Cond.code Lib.Math.min.name Lib.Math.min.code 2 (some .int), Cond.fieldLink RX2 38 "MachineTree$Walk" "states" "[I", Cond.fieldLink RX2 53 "MachineTree$Walk" "state" "I", Cond.methodLink RX2 119 yX2_sameTape, Cond.instanceMethod yX2_sameTape, Cond.selects RX2 yX2_sameTape yX2_sameTape, Cond.code yX2_sameTape cX2_sameTape 4 (some .boolean), Cond.fieldLink RX2 24 "MachineTree$Walk" "words" "I", Cond.fieldLink RX2 31 "MachineTree$Walk" "tapes" "[J"]
def wsX2_look_r2 : List Cond := [Cond.fieldLink RX2 27 "MachineTree$Walk" "tape" "[J", Cond.methodLink RX2 116 yX2_latestDrift, Cond.instanceMethod yX2_latestDrift, Cond.selects RX2 yX2_latestDrift yX2_latestDrift, Cond.code yX2_latestDrift cX2_latestDrift 6 (some .int), Cond.fieldLink RX2 41 "MachineTree$Walk" "sides" "[I", Cond.methodLink RX2 123 yX2_sameBehind, Cond.instanceMethod yX2_sameBehind, Cond.selects RX2 yX2_sameBehind yX2_sameBehind, Cond.code yX2_sameBehind cX2_sameBehind 6 (some .boolean), Cond.methodLink RX2 75 yX2_symbolIn, Cond.instanceMethod yX2_symbolIn, Cond.selects RX2 yX2_symbolIn yX2_symbolIn, Cond.code yX2_symbolIn cX2_symbolIn 6 (some .int)]
def wsX2_look : List Cond := .code yX2_look cX2_look 3 none :: ((wsX2_look_r1 ++ wsX2_look_r2) ++ wsX20)
def wsX2_follow_r1 : List Cond := [Cond.fieldLink RX2 18 "MachineTree$Walk" "reach" "I", Cond.methodLink RX2 9 Lib.Math.min.name, Cond.static Lib.Math.min.name, Cond.initialized "java/lang/Math", Cond.code Lib.Math.min.name Lib.Math.min.code 2 (some .int), Cond.fieldLink RX2 47 "MachineTree$Walk" "steps" "I", Cond.fieldLink RX2 50 "MachineTree$Walk" "outcome" "I", Cond.fieldLink RX2 53 "MachineTree$Walk" "state" "I", Cond.fieldLink RX2 56 "MachineTree$Walk" "head" "I", Cond.methodLink RX2 44 yX2_begin, Cond.instanceMethod yX2_begin, Cond.selects RX2 yX2_begin yX2_begin, Cond.initialized RX2, Cond.code yX2_begin cX2_begin 1 none, Cond.fieldLink RX2 27 "MachineTree$Walk" "tape" "[J", Cond.fieldLink RX2 85 "MachineTree$Walk" "period" "I", Cond.fieldLink RX2 88 "MachineTree$Walk" "drift" "I", Cond.fieldLink RX2 91 "MachineTree$Walk" "ones" "I", Cond.fieldLink RX2 94 "MachineTree$Walk" "left" "I", Cond.fieldLink RX2 97 "MachineTree$Walk" "right" "I", Cond.methodLink RX2 79 yJ7_fill_d0a16, Cond.static yJ7_fill_d0a16, Cond.initialized RJ7, Cond.code yJ7_fill_d0a16 cJ7_fill_d0a16 5 none]
def wsX2_follow_r2 : List Cond := [Cond.methodLink RX2 100 yX2_note, Cond.instanceMethod yX2_note, Cond.selects RX2 yX2_note yX2_note, Cond.code yX2_note cX2_note 2 none, Cond.fieldLink RX2 34 "MachineTree$Walk" "heads" "[I", Cond.fieldLink RX2 38 "MachineTree$Walk" "states" "[I", Cond.fieldLink RX2 41 "MachineTree$Walk" "sides" "[I", Cond.fieldLink RX2 31 "MachineTree$Walk" "tapes" "[J", Cond.fieldLink RX2 24 "MachineTree$Walk" "words" "I", Cond.methodLink RX2 106 arraycopyName, Cond.native arraycopyName, Cond.static arraycopyName, Cond.initialized "java/lang/System", Cond.methodLink RX2 59 yX2_symbolNow, Cond.instanceMethod yX2_symbolNow, Cond.selects RX2 yX2_symbolNow yX2_symbolNow, Cond.code yX2_symbolNow cX2_symbolNow 2 (some .int), Cond.methodLink RX2 75 yX2_symbolIn, Cond.instanceMethod yX2_symbolIn, Cond.selects RX2 yX2_symbolIn yX2_symbolIn, Cond.code yX2_symbolIn cX2_symbolIn 6 (some .int), Cond.methodLink RX2 63 yX0_codeAt, Cond.instanceMethod yX0_codeAt, Cond.selects RX0 yX0_codeAt yX0_codeAt]
def wsX2_follow_r3 : List Cond := [Cond.initialized RX0, Cond.code yX0_codeAt cX0_codeAt 4 (some .int), Cond.fieldLink RX0 15 "MachineTree$Machine" "codes" "[I", Cond.methodLink RX2 68 yX2_act, Cond.instanceMethod yX2_act, Cond.selects RX2 yX2_act yX2_act, Cond.code yX2_act cX2_act 3 none, Cond.methodLink RX2 15 Lib.Math.max.name, Cond.static Lib.Math.max.name, Cond.code Lib.Math.max.name Lib.Math.max.code 2 (some .int), Cond.methodLink RX2 103 yX2_write, Cond.instanceMethod yX2_write, Cond.selects RX2 yX2_write yX2_write, Cond.code yX2_write cX2_write 5 none, Cond.methodLink RX2 72 yX2_look, Cond.instanceMethod yX2_look, Cond.selects RX2 yX2_look yX2_look, Cond.code yX2_look cX2_look 3 none, Cond.methodLink RX2 112 yX2_latestSame, Cond.instanceMethod yX2_latestSame, Cond.selects RX2 yX2_latestSame yX2_latestSame, Cond.code yX2_latestSame cX2_latestSame 2 (some .int), Cond.methodLink RX2 119 yX2_sameTape, Cond.instanceMethod yX2_sameTape]
def wsX2_follow_r4 : List Cond := [Cond.selects RX2 yX2_sameTape yX2_sameTape, Cond.code yX2_sameTape cX2_sameTape 4 (some .boolean), Cond.methodLink RX2 116 yX2_latestDrift, Cond.instanceMethod yX2_latestDrift, Cond.selects RX2 yX2_latestDrift yX2_latestDrift, Cond.code yX2_latestDrift cX2_latestDrift 6 (some .int), Cond.methodLink RX2 123 yX2_sameBehind, Cond.instanceMethod yX2_sameBehind, Cond.selects RX2 yX2_sameBehind yX2_sameBehind, Cond.code yX2_sameBehind cX2_sameBehind 6 (some .boolean)]
def wsX2_follow : List Cond := .code yX2_follow cX2_follow 5 none :: ((wsX2_follow_r1 ++ (wsX2_follow_r2 ++ (wsX2_follow_r3 ++ wsX2_follow_r4))) ++ wsX20 ++ wsX00)
def wsX1_countHalted_r1 : List Cond := [Cond.fieldLink RX1 67 "MachineTree$Tree" "halted" "I", Cond.fieldLink RX1 70 "MachineTree$Tree" "haltedSteps" "I", Cond.fieldLink RX1 30 "MachineTree$Tree" "way" "LMachineTree$Walk;", Cond.fieldLink RX1 76 "MachineTree$Tree" "mostOnes" "I", Cond.methodLink RX1 82 Lib.Math.max.name, Cond.static Lib.Math.max.name, Cond.initialized "java/lang/Math", Cond.code Lib.Math.max.name Lib.Math.max.code 2 (some .int), Cond.fieldLink RX1 88 "MachineTree$Tree" "bestSteps" "I", Cond.fieldLink RX1 91 "MachineTree$Tree" "bestOnes" "I", Cond.fieldLink RX1 24 "MachineTree$Tree" "best" "LMachineTree$Machine;", Cond.fieldLink RX1 20 "MachineTree$Tree" "current" "LMachineTree$Machine;", Cond.methodLink RX1 94 yX0_copyFrom, Cond.instanceMethod yX0_copyFrom, Cond.selects RX0 yX0_copyFrom yX0_copyFrom, Cond.initialized RX0, Cond.code yX0_copyFrom cX0_copyFrom 2 none, Cond.fieldLink RX0 15 "MachineTree$Machine" "codes" "[I", Cond.methodLink RX0 31 Lib.Math.min.name, Cond.static Lib.Math.min.name, Cond.code Lib.Math.min.name Lib.Math.min.code 2 (some .int), Cond.methodLink RX0 34 arraycopyName, Cond.native arraycopyName, Cond.static arraycopyName]
def wsX1_countHalted_r2 : List Cond := [Cond.initialized "java/lang/System"]
def wsX1_countHalted : List Cond := .code yX1_countHalted cX1_countHalted 1 none :: ((wsX1_countHalted_r1 ++ wsX1_countHalted_r2) ++ wsX10 ++ wsX20 ++ wsX00)
def wsX1_takeNext_r1 : List Cond := [Cond.fieldLink RX1 30 "MachineTree$Tree" "way" "LMachineTree$Walk;", Cond.fieldLink RX1 20 "MachineTree$Tree" "current" "LMachineTree$Machine;", Cond.fieldLink RX1 58 "MachineTree$Tree" "cycling" "I", Cond.fieldLink RX1 61 "MachineTree$Tree" "drifting" "I", Cond.fieldLink RX1 64 "MachineTree$Tree" "open" "I", Cond.methodLink RX1 44 yX1_moveOn, Cond.instanceMethod yX1_moveOn, Cond.selects RX1 yX1_moveOn yX1_moveOn, Cond.initialized RX1, Cond.code yX1_moveOn cX1_moveOn 1 (some .boolean), Cond.fieldLink RX1 98 "MachineTree$Tree" "ended" "Z", Cond.fieldLink RX1 102 "MachineTree$Tree" "begun" "Z", Cond.methodLink RX1 105 yX0_put, Cond.instanceMethod yX0_put, Cond.selects RX0 yX0_put yX0_put, Cond.initialized RX0, Cond.code yX0_put cX0_put 5 none, Cond.fieldLink RX0 15 "MachineTree$Machine" "codes" "[I", Cond.methodLink RX1 109 yX1_hasChildren, Cond.instanceMethod yX1_hasChildren, Cond.selects RX1 yX1_hasChildren yX1_hasChildren, Cond.code yX1_hasChildren cX1_hasChildren 1 (some .boolean), Cond.fieldLink RX1 118 "MachineTree$Tree" "depth" "I", Cond.fieldLink RX1 9 "MachineTree$Tree" "states" "I"]
def wsX1_takeNext_r2 : List Cond := [Cond.fieldLink RX1 41 "MachineTree$Tree" "lastCodes" "[I", Cond.methodLink RX1 112 yX1_toFirstChild, Cond.instanceMethod yX1_toFirstChild, Cond.selects RX1 yX1_toFirstChild yX1_toFirstChild, Cond.code yX1_toFirstChild cX1_toFirstChild 2 none, Cond.fieldLink RX1 34 "MachineTree$Tree" "placeStates" "[I", Cond.fieldLink RX1 38 "MachineTree$Tree" "placeSymbols" "[I", Cond.methodLink RX1 135 Lib.Math.min.name, Cond.static Lib.Math.min.name, Cond.initialized "java/lang/Math", Cond.code Lib.Math.min.name Lib.Math.min.code 2 (some .int), Cond.methodLink RX1 124 yX2_symbolNow, Cond.instanceMethod yX2_symbolNow, Cond.selects RX2 yX2_symbolNow yX2_symbolNow, Cond.initialized RX2, Cond.code yX2_symbolNow cX2_symbolNow 2 (some .int), Cond.fieldLink RX2 27 "MachineTree$Walk" "tape" "[J", Cond.methodLink RX2 75 yX2_symbolIn, Cond.instanceMethod yX2_symbolIn, Cond.selects RX2 yX2_symbolIn yX2_symbolIn, Cond.code yX2_symbolIn cX2_symbolIn 6 (some .int), Cond.fieldLink RX2 18 "MachineTree$Walk" "reach" "I", Cond.methodLink RX1 131 yX0_greatestNext, Cond.instanceMethod yX0_greatestNext]
def wsX1_takeNext_r3 : List Cond := [Cond.selects RX0 yX0_greatestNext yX0_greatestNext, Cond.code yX0_greatestNext cX0_greatestNext 6 (some .int), Cond.methodLink RX0 25 Lib.Math.max.name, Cond.static Lib.Math.max.name, Cond.code Lib.Math.max.name Lib.Math.max.code 2 (some .int), Cond.methodLink RX1 115 yX1_toNextBranch, Cond.instanceMethod yX1_toNextBranch, Cond.selects RX1 yX1_toNextBranch yX1_toNextBranch, Cond.code yX1_toNextBranch cX1_toNextBranch 5 (some .boolean), Cond.methodLink RX1 138 yX0_codeAt, Cond.instanceMethod yX0_codeAt, Cond.selects RX0 yX0_codeAt yX0_codeAt, Cond.code yX0_codeAt cX0_codeAt 4 (some .int), Cond.methodLink RX1 48 yX2_follow, Cond.instanceMethod yX2_follow, Cond.selects RX2 yX2_follow yX2_follow, Cond.code yX2_follow cX2_follow 5 none, Cond.methodLink RX2 9 Lib.Math.min.name, Cond.fieldLink RX2 47 "MachineTree$Walk" "steps" "I", Cond.fieldLink RX2 50 "MachineTree$Walk" "outcome" "I", Cond.fieldLink RX2 53 "MachineTree$Walk" "state" "I", Cond.fieldLink RX2 56 "MachineTree$Walk" "head" "I", Cond.methodLink RX2 44 yX2_begin, Cond.instanceMethod yX2_begin]
def wsX1_takeNext_r4 : List Cond := [Cond.selects RX2 yX2_begin yX2_begin, Cond.code yX2_begin cX2_begin 1 none, Cond.fieldLink RX2 85 "MachineTree$Walk" "period" "I", Cond.fieldLink RX2 88 "MachineTree$Walk" "drift" "I", Cond.fieldLink RX2 91 "MachineTree$Walk" "ones" "I", Cond.fieldLink RX2 94 "MachineTree$Walk" "left" "I", Cond.fieldLink RX2 97 "MachineTree$Walk" "right" "I", Cond.methodLink RX2 79 yJ7_fill_d0a16, Cond.static yJ7_fill_d0a16, Cond.initialized RJ7, Cond.code yJ7_fill_d0a16 cJ7_fill_d0a16 5 none, Cond.methodLink RX2 100 yX2_note, Cond.instanceMethod yX2_note, Cond.selects RX2 yX2_note yX2_note, Cond.code yX2_note cX2_note 2 none, Cond.fieldLink RX2 34 "MachineTree$Walk" "heads" "[I", Cond.fieldLink RX2 38 "MachineTree$Walk" "states" "[I", Cond.fieldLink RX2 41 "MachineTree$Walk" "sides" "[I", Cond.fieldLink RX2 31 "MachineTree$Walk" "tapes" "[J", Cond.fieldLink RX2 24 "MachineTree$Walk" "words" "I", Cond.methodLink RX2 106 arraycopyName, Cond.native arraycopyName, Cond.static arraycopyName, Cond.initialized "java/lang/System"]
def wsX1_takeNext_r5 : List Cond := [Cond.methodLink RX2 59 yX2_symbolNow, Cond.methodLink RX2 63 yX0_codeAt, Cond.methodLink RX2 68 yX2_act, Cond.instanceMethod yX2_act, Cond.selects RX2 yX2_act yX2_act, Cond.code yX2_act cX2_act 3 none, Cond.methodLink RX2 15 Lib.Math.max.name, Cond.methodLink RX2 103 yX2_write, Cond.instanceMethod yX2_write, Cond.selects RX2 yX2_write yX2_write, Cond.code yX2_write cX2_write 5 none, Cond.methodLink RX2 72 yX2_look, Cond.instanceMethod yX2_look, Cond.selects RX2 yX2_look yX2_look, Cond.code yX2_look cX2_look 3 none, Cond.methodLink RX2 112 yX2_latestSame, Cond.instanceMethod yX2_latestSame, Cond.selects RX2 yX2_latestSame yX2_latestSame, Cond.code yX2_latestSame cX2_latestSame 2 (some .int), Cond.methodLink RX2 119 yX2_sameTape, Cond.instanceMethod yX2_sameTape, Cond.selects RX2 yX2_sameTape yX2_sameTape, Cond.code yX2_sameTape cX2_sameTape 4 (some .boolean), Cond.methodLink RX2 116 yX2_latestDrift]
def wsX1_takeNext_r6 : List Cond := [Cond.instanceMethod yX2_latestDrift, Cond.selects RX2 yX2_latestDrift yX2_latestDrift, Cond.code yX2_latestDrift cX2_latestDrift 6 (some .int), Cond.methodLink RX2 123 yX2_sameBehind, Cond.instanceMethod yX2_sameBehind, Cond.selects RX2 yX2_sameBehind yX2_sameBehind, Cond.code yX2_sameBehind cX2_sameBehind 6 (some .boolean), Cond.methodLink RX1 55 yX1_countHalted, Cond.instanceMethod yX1_countHalted, Cond.selects RX1 yX1_countHalted yX1_countHalted, Cond.code yX1_countHalted cX1_countHalted 1 none, Cond.fieldLink RX1 67 "MachineTree$Tree" "halted" "I", Cond.fieldLink RX1 70 "MachineTree$Tree" "haltedSteps" "I", Cond.fieldLink RX1 76 "MachineTree$Tree" "mostOnes" "I", Cond.methodLink RX1 82 Lib.Math.max.name, Cond.fieldLink RX1 88 "MachineTree$Tree" "bestSteps" "I", Cond.fieldLink RX1 91 "MachineTree$Tree" "bestOnes" "I", Cond.fieldLink RX1 24 "MachineTree$Tree" "best" "LMachineTree$Machine;", Cond.methodLink RX1 94 yX0_copyFrom, Cond.instanceMethod yX0_copyFrom, Cond.selects RX0 yX0_copyFrom yX0_copyFrom, Cond.code yX0_copyFrom cX0_copyFrom 2 none, Cond.methodLink RX0 31 Lib.Math.min.name, Cond.methodLink RX0 34 arraycopyName]
def wsX1_takeNext : List Cond := .code yX1_takeNext cX1_takeNext 1 (some .boolean) :: ((wsX1_takeNext_r1 ++ (wsX1_takeNext_r2 ++ (wsX1_takeNext_r3 ++ (wsX1_takeNext_r4 ++ (wsX1_takeNext_r5 ++ wsX1_takeNext_r6))))) ++ wsX10 ++ wsX20 ++ wsX00)
def wsX3_init_r1 : List Cond := [Cond.methodLink RX3 1 objectInit, Cond.instanceMethod objectInit, Cond.code objectInit ⟨#[0xb1]⟩ 1 none, Cond.methodLink RX3 9 Lib.Math.min.name, Cond.static Lib.Math.min.name, Cond.initialized "java/lang/Math", Cond.code Lib.Math.min.name Lib.Math.min.code 2 (some .int), Cond.methodLink RX3 15 Lib.Math.max.name, Cond.static Lib.Math.max.name, Cond.code Lib.Math.max.name Lib.Math.max.code 2 (some .int), Cond.classLink RX3 18 RX0, Cond.instantiable RX0 2, Cond.initialized RX0, Cond.fieldLink RX3 23 "MachineTree" "machine" "LMachineTree$Machine;", Cond.classLink RX3 27 RX2, Cond.instantiable RX2 16, Cond.initialized RX2, Cond.fieldLink RX3 30 "MachineTree" "walk" "LMachineTree$Walk;", Cond.classLink RX3 34 RX1, Cond.instantiable RX1 18, Cond.initialized RX1, Cond.fieldLink RX3 37 "MachineTree" "tree" "LMachineTree$Tree;", Cond.fieldLink RX3 41 "MachineTree" "walked" "Z", Cond.methodLink RX3 20 yX0_init]
def wsX3_init_r2 : List Cond := [Cond.instanceMethod yX0_init, Cond.code yX0_init cX0_init 2 none, Cond.methodLink RX0 3 objectInit, Cond.fieldLink RX0 9 "MachineTree$Machine" "states" "I", Cond.arrayClass .int, Cond.fieldLink RX0 15 "MachineTree$Machine" "codes" "[I", Cond.methodLink RX0 19 yJ7_fill_53178, Cond.static yJ7_fill_53178, Cond.initialized RJ7, Cond.code yJ7_fill_53178 cJ7_fill_53178 4 none, Cond.methodLink RX3 29 yX2_init, Cond.instanceMethod yX2_init, Cond.code yX2_init cX2_init 2 none, Cond.methodLink RX2 3 objectInit, Cond.methodLink RX2 9 Lib.Math.min.name, Cond.methodLink RX2 15 Lib.Math.max.name, Cond.fieldLink RX2 18 "MachineTree$Walk" "reach" "I", Cond.fieldLink RX2 24 "MachineTree$Walk" "words" "I", Cond.arrayClass .long, Cond.fieldLink RX2 27 "MachineTree$Walk" "tape" "[J", Cond.fieldLink RX2 31 "MachineTree$Walk" "tapes" "[J", Cond.fieldLink RX2 34 "MachineTree$Walk" "heads" "[I", Cond.fieldLink RX2 38 "MachineTree$Walk" "states" "[I", Cond.fieldLink RX2 41 "MachineTree$Walk" "sides" "[I"]
def wsX3_init_r3 : List Cond := [Cond.methodLink RX3 36 yX1_init, Cond.instanceMethod yX1_init, Cond.code yX1_init cX1_init 2 none, Cond.methodLink RX1 3 objectInit, Cond.fieldLink RX1 9 "MachineTree$Tree" "states" "I", Cond.classLink RX1 15 RX0, Cond.fieldLink RX1 20 "MachineTree$Tree" "current" "LMachineTree$Machine;", Cond.fieldLink RX1 24 "MachineTree$Tree" "best" "LMachineTree$Machine;", Cond.classLink RX1 27 RX2, Cond.fieldLink RX1 30 "MachineTree$Tree" "way" "LMachineTree$Walk;", Cond.fieldLink RX1 34 "MachineTree$Tree" "placeStates" "[I", Cond.fieldLink RX1 38 "MachineTree$Tree" "placeSymbols" "[I", Cond.fieldLink RX1 41 "MachineTree$Tree" "lastCodes" "[I", Cond.methodLink RX1 17 yX0_init, Cond.methodLink RX1 29 yX2_init]
def wsX3_init : List Cond := .code yX3_init cX3_init 3 none :: ((wsX3_init_r1 ++ (wsX3_init_r2 ++ wsX3_init_r3)) ++ wsX00 ++ wsX30 ++ wsX20 ++ wsX10)
def wsX3_set : List Cond := .code yX3_set cX3_set 5 (some .int) :: ([.classLink RX3 49 "java/lang/IllegalArgumentException", .initialized "java/lang/IllegalArgumentException", .fieldLink RX3 23 "MachineTree" "machine" "LMachineTree$Machine;", .fieldLink RX3 41 "MachineTree" "walked" "Z", .methodLink RX3 45 yX0_hasPlace, .instanceMethod yX0_hasPlace, .selects RX0 yX0_hasPlace yX0_hasPlace, .initialized RX0, .code yX0_hasPlace cX0_hasPlace 3 (some .boolean), .fieldLink RX0 9 "MachineTree$Machine" "states" "I", .methodLink RX3 56 yX0_allows, .instanceMethod yX0_allows, .selects RX0 yX0_allows yX0_allows, .code yX0_allows cX0_allows 2 (some .boolean), .methodLink RX3 62 yX0_codeAt, .instanceMethod yX0_codeAt, .selects RX0 yX0_codeAt yX0_codeAt, .code yX0_codeAt cX0_codeAt 4 (some .int), .fieldLink RX0 15 "MachineTree$Machine" "codes" "[I", .methodLink RX3 65 yX0_put, .instanceMethod yX0_put, .selects RX0 yX0_put yX0_put, .code yX0_put cX0_put 5 none] ++ wsX30 ++ wsX00 ++ (vx_atS RX3 53 "java/lang/IllegalArgumentException" ["java/lang/RuntimeException", "java/lang/Exception"]).filter goodWord)
def wsX3_run_r1 : List Cond := [Cond.classLink RX3 49 "java/lang/IllegalArgumentException", Cond.initialized "java/lang/IllegalArgumentException", Cond.fieldLink RX3 30 "MachineTree" "walk" "LMachineTree$Walk;", Cond.fieldLink RX3 23 "MachineTree" "machine" "LMachineTree$Machine;", Cond.fieldLink RX3 41 "MachineTree" "walked" "Z", Cond.methodLink RX3 71 yX2_follow, Cond.instanceMethod yX2_follow, Cond.selects RX2 yX2_follow yX2_follow, Cond.initialized RX2, Cond.code yX2_follow cX2_follow 5 none, Cond.fieldLink RX2 18 "MachineTree$Walk" "reach" "I", Cond.methodLink RX2 9 Lib.Math.min.name, Cond.static Lib.Math.min.name, Cond.initialized "java/lang/Math", Cond.code Lib.Math.min.name Lib.Math.min.code 2 (some .int), Cond.fieldLink RX2 47 "MachineTree$Walk" "steps" "I", Cond.fieldLink RX2 50 "MachineTree$Walk" "outcome" "I", Cond.fieldLink RX2 53 "MachineTree$Walk" "state" "I", Cond.fieldLink RX2 56 "MachineTree$Walk" "head" "I", Cond.methodLink RX2 44 yX2_begin, Cond.instanceMethod yX2_begin, Cond.selects RX2 yX2_begin yX2_begin, Cond.code yX2_begin cX2_begin 1 none, Cond.fieldLink RX2 27 "MachineTree$Walk" "tape" "[J"]
def wsX3_run_r2 : List Cond := [Cond.fieldLink RX2 85 "MachineTree$Walk" "period" "I", Cond.fieldLink RX2 88 "MachineTree$Walk" "drift" "I", Cond.fieldLink RX2 91 "MachineTree$Walk" "ones" "I", Cond.fieldLink RX2 94 "MachineTree$Walk" "left" "I", Cond.fieldLink RX2 97 "MachineTree$Walk" "right" "I", Cond.methodLink RX2 79 yJ7_fill_d0a16, Cond.static yJ7_fill_d0a16, Cond.initialized RJ7, Cond.code yJ7_fill_d0a16 cJ7_fill_d0a16 5 none, Cond.methodLink RX2 100 yX2_note, Cond.instanceMethod yX2_note, Cond.selects RX2 yX2_note yX2_note, Cond.code yX2_note cX2_note 2 none, Cond.fieldLink RX2 34 "MachineTree$Walk" "heads" "[I", Cond.fieldLink RX2 38 "MachineTree$Walk" "states" "[I", Cond.fieldLink RX2 41 "MachineTree$Walk" "sides" "[I", Cond.fieldLink RX2 31 "MachineTree$Walk" "tapes" "[J", Cond.fieldLink RX2 24 "MachineTree$Walk" "words" "I", Cond.methodLink RX2 106 arraycopyName, Cond.native arraycopyName, Cond.static arraycopyName, Cond.initialized "java/lang/System", Cond.methodLink RX2 59 yX2_symbolNow, Cond.instanceMethod yX2_symbolNow]
def wsX3_run_r3 : List Cond := [Cond.selects RX2 yX2_symbolNow yX2_symbolNow, Cond.code yX2_symbolNow cX2_symbolNow 2 (some .int), Cond.methodLink RX2 75 yX2_symbolIn, Cond.instanceMethod yX2_symbolIn, Cond.selects RX2 yX2_symbolIn yX2_symbolIn, Cond.code yX2_symbolIn cX2_symbolIn 6 (some .int), Cond.methodLink RX2 63 yX0_codeAt, Cond.instanceMethod yX0_codeAt, Cond.selects RX0 yX0_codeAt yX0_codeAt, Cond.initialized RX0, Cond.code yX0_codeAt cX0_codeAt 4 (some .int), Cond.fieldLink RX0 15 "MachineTree$Machine" "codes" "[I", Cond.methodLink RX2 68 yX2_act, Cond.instanceMethod yX2_act, Cond.selects RX2 yX2_act yX2_act, Cond.code yX2_act cX2_act 3 none, Cond.methodLink RX2 15 Lib.Math.max.name, Cond.static Lib.Math.max.name, Cond.code Lib.Math.max.name Lib.Math.max.code 2 (some .int), Cond.methodLink RX2 103 yX2_write, Cond.instanceMethod yX2_write, Cond.selects RX2 yX2_write yX2_write, Cond.code yX2_write cX2_write 5 none, Cond.methodLink RX2 72 yX2_look]
def wsX3_run_r4 : List Cond := [Cond.instanceMethod yX2_look, Cond.selects RX2 yX2_look yX2_look, Cond.code yX2_look cX2_look 3 none, Cond.methodLink RX2 112 yX2_latestSame, Cond.instanceMethod yX2_latestSame, Cond.selects RX2 yX2_latestSame yX2_latestSame, Cond.code yX2_latestSame cX2_latestSame 2 (some .int), Cond.methodLink RX2 119 yX2_sameTape, Cond.instanceMethod yX2_sameTape, Cond.selects RX2 yX2_sameTape yX2_sameTape, Cond.code yX2_sameTape cX2_sameTape 4 (some .boolean), Cond.methodLink RX2 116 yX2_latestDrift, Cond.instanceMethod yX2_latestDrift, Cond.selects RX2 yX2_latestDrift yX2_latestDrift, Cond.code yX2_latestDrift cX2_latestDrift 6 (some .int), Cond.methodLink RX2 123 yX2_sameBehind, Cond.instanceMethod yX2_sameBehind, Cond.selects RX2 yX2_sameBehind yX2_sameBehind, Cond.code yX2_sameBehind cX2_sameBehind 6 (some .boolean)]
def wsX3_run : List Cond := .code yX3_run cX3_run 2 (some .int) :: ((wsX3_run_r1 ++ (wsX3_run_r2 ++ (wsX3_run_r3 ++ wsX3_run_r4))) ++ wsX30 ++ wsX20 ++ wsX00 ++ (vx_atS RX3 53 "java/lang/IllegalArgumentException" ["java/lang/RuntimeException", "java/lang/Exception"]).filter goodWord)
def wsX3_needWalk : List Cond := .code yX3_needWalk cX3_needWalk 1 none :: ([.classLink RX3 144 "java/lang/IllegalStateException", .initialized "java/lang/IllegalStateException", .fieldLink RX3 41 "MachineTree" "walked" "Z"] ++ wsX30 ++ (vx_atS RX3 148 "java/lang/IllegalStateException" ["java/lang/RuntimeException", "java/lang/Exception"]).filter goodWord)
def wsX3_figure : List Cond := .code yX3_figure cX3_figure 2 (some .int) :: ([.classLink RX3 49 "java/lang/IllegalArgumentException", .initialized "java/lang/IllegalArgumentException", .fieldLink RX3 30 "MachineTree" "walk" "LMachineTree$Walk;", .methodLink RX3 81 yX3_needWalk, .instanceMethod yX3_needWalk, .selects RX3 yX3_needWalk yX3_needWalk, .initialized RX3, .code yX3_needWalk cX3_needWalk 1 none, .classLink RX3 144 "java/lang/IllegalStateException", .initialized "java/lang/IllegalStateException", .fieldLink RX3 41 "MachineTree" "walked" "Z"] ++ wsX30 ++ wsX20 ++ (vx_atS RX3 53 "java/lang/IllegalArgumentException" ["java/lang/RuntimeException", "java/lang/Exception"]).filter goodWord ++ (vx_atS RX3 148 "java/lang/IllegalStateException" ["java/lang/RuntimeException", "java/lang/Exception"]).filter goodWord)
def wsX3_cell : List Cond := .code yX3_cell cX3_cell 2 (some .int) :: ([.fieldLink RX3 30 "MachineTree" "walk" "LMachineTree$Walk;", .methodLink RX3 81 yX3_needWalk, .instanceMethod yX3_needWalk, .selects RX3 yX3_needWalk yX3_needWalk, .initialized RX3, .code yX3_needWalk cX3_needWalk 1 none, .classLink RX3 144 "java/lang/IllegalStateException", .initialized "java/lang/IllegalStateException", .fieldLink RX3 41 "MachineTree" "walked" "Z", .methodLink RX3 108 yX2_symbolNow, .instanceMethod yX2_symbolNow, .selects RX2 yX2_symbolNow yX2_symbolNow, .initialized RX2, .code yX2_symbolNow cX2_symbolNow 2 (some .int), .fieldLink RX2 27 "MachineTree$Walk" "tape" "[J", .methodLink RX2 75 yX2_symbolIn, .instanceMethod yX2_symbolIn, .selects RX2 yX2_symbolIn yX2_symbolIn, .code yX2_symbolIn cX2_symbolIn 6 (some .int), .fieldLink RX2 18 "MachineTree$Walk" "reach" "I"] ++ wsX30 ++ wsX20 ++ (vx_atS RX3 148 "java/lang/IllegalStateException" ["java/lang/RuntimeException", "java/lang/Exception"]).filter goodWord)
def wsX3_share : List Cond := .code yX3_share cX3_share 2 (some .float) :: ([.fieldLink RX3 30 "MachineTree" "walk" "LMachineTree$Walk;", .methodLink RX3 81 yX3_needWalk, .instanceMethod yX3_needWalk, .selects RX3 yX3_needWalk yX3_needWalk, .initialized RX3, .code yX3_needWalk cX3_needWalk 1 none, .classLink RX3 144 "java/lang/IllegalStateException", .initialized "java/lang/IllegalStateException", .fieldLink RX3 41 "MachineTree" "walked" "Z"] ++ wsX30 ++ wsX20 ++ (vx_atS RX3 148 "java/lang/IllegalStateException" ["java/lang/RuntimeException", "java/lang/Exception"]).filter goodWord)
def wsX3_grow_r1 : List Cond := [Cond.classLink RX3 49 "java/lang/IllegalArgumentException", Cond.initialized "java/lang/IllegalArgumentException", Cond.fieldLink RX3 37 "MachineTree" "tree" "LMachineTree$Tree;", Cond.methodLink RX3 114 yX1_takeNext, Cond.instanceMethod yX1_takeNext, Cond.selects RX1 yX1_takeNext yX1_takeNext, Cond.initialized RX1, Cond.code yX1_takeNext cX1_takeNext 1 (some .boolean), Cond.fieldLink RX1 30 "MachineTree$Tree" "way" "LMachineTree$Walk;", Cond.fieldLink RX1 20 "MachineTree$Tree" "current" "LMachineTree$Machine;", Cond.fieldLink RX1 58 "MachineTree$Tree" "cycling" "I", Cond.fieldLink RX1 61 "MachineTree$Tree" "drifting" "I", Cond.fieldLink RX1 64 "MachineTree$Tree" "open" "I", Cond.methodLink RX1 44 yX1_moveOn, Cond.instanceMethod yX1_moveOn, Cond.selects RX1 yX1_moveOn yX1_moveOn, Cond.code yX1_moveOn cX1_moveOn 1 (some .boolean), Cond.fieldLink RX1 98 "MachineTree$Tree" "ended" "Z", Cond.fieldLink RX1 102 "MachineTree$Tree" "begun" "Z", Cond.methodLink RX1 105 yX0_put, Cond.instanceMethod yX0_put, Cond.selects RX0 yX0_put yX0_put, Cond.initialized RX0, Cond.code yX0_put cX0_put 5 none]
def wsX3_grow_r2 : List Cond := [Cond.fieldLink RX0 15 "MachineTree$Machine" "codes" "[I", Cond.methodLink RX1 109 yX1_hasChildren, Cond.instanceMethod yX1_hasChildren, Cond.selects RX1 yX1_hasChildren yX1_hasChildren, Cond.code yX1_hasChildren cX1_hasChildren 1 (some .boolean), Cond.fieldLink RX1 118 "MachineTree$Tree" "depth" "I", Cond.fieldLink RX1 9 "MachineTree$Tree" "states" "I", Cond.fieldLink RX1 41 "MachineTree$Tree" "lastCodes" "[I", Cond.methodLink RX1 112 yX1_toFirstChild, Cond.instanceMethod yX1_toFirstChild, Cond.selects RX1 yX1_toFirstChild yX1_toFirstChild, Cond.code yX1_toFirstChild cX1_toFirstChild 2 none, Cond.fieldLink RX1 34 "MachineTree$Tree" "placeStates" "[I", Cond.fieldLink RX1 38 "MachineTree$Tree" "placeSymbols" "[I", Cond.methodLink RX1 135 Lib.Math.min.name, Cond.static Lib.Math.min.name, Cond.initialized "java/lang/Math", Cond.code Lib.Math.min.name Lib.Math.min.code 2 (some .int), Cond.methodLink RX1 124 yX2_symbolNow, Cond.instanceMethod yX2_symbolNow, Cond.selects RX2 yX2_symbolNow yX2_symbolNow, Cond.initialized RX2, Cond.code yX2_symbolNow cX2_symbolNow 2 (some .int), Cond.fieldLink RX2 27 "MachineTree$Walk" "tape" "[J"]
def wsX3_grow_r3 : List Cond := [Cond.methodLink RX2 75 yX2_symbolIn, Cond.instanceMethod yX2_symbolIn, Cond.selects RX2 yX2_symbolIn yX2_symbolIn, Cond.code yX2_symbolIn cX2_symbolIn 6 (some .int), Cond.fieldLink RX2 18 "MachineTree$Walk" "reach" "I", Cond.methodLink RX1 131 yX0_greatestNext, Cond.instanceMethod yX0_greatestNext, Cond.selects RX0 yX0_greatestNext yX0_greatestNext, Cond.code yX0_greatestNext cX0_greatestNext 6 (some .int), Cond.methodLink RX0 25 Lib.Math.max.name, Cond.static Lib.Math.max.name, Cond.code Lib.Math.max.name Lib.Math.max.code 2 (some .int), Cond.methodLink RX1 115 yX1_toNextBranch, Cond.instanceMethod yX1_toNextBranch, Cond.selects RX1 yX1_toNextBranch yX1_toNextBranch, Cond.code yX1_toNextBranch cX1_toNextBranch 5 (some .boolean), Cond.methodLink RX1 138 yX0_codeAt, Cond.instanceMethod yX0_codeAt, Cond.selects RX0 yX0_codeAt yX0_codeAt, Cond.code yX0_codeAt cX0_codeAt 4 (some .int), Cond.methodLink RX1 48 yX2_follow, Cond.instanceMethod yX2_follow, Cond.selects RX2 yX2_follow yX2_follow, Cond.code yX2_follow cX2_follow 5 none]
def wsX3_grow_r4 : List Cond := [Cond.methodLink RX2 9 Lib.Math.min.name, Cond.fieldLink RX2 47 "MachineTree$Walk" "steps" "I", Cond.fieldLink RX2 50 "MachineTree$Walk" "outcome" "I", Cond.fieldLink RX2 53 "MachineTree$Walk" "state" "I", Cond.fieldLink RX2 56 "MachineTree$Walk" "head" "I", Cond.methodLink RX2 44 yX2_begin, Cond.instanceMethod yX2_begin, Cond.selects RX2 yX2_begin yX2_begin, Cond.code yX2_begin cX2_begin 1 none, Cond.fieldLink RX2 85 "MachineTree$Walk" "period" "I", Cond.fieldLink RX2 88 "MachineTree$Walk" "drift" "I", Cond.fieldLink RX2 91 "MachineTree$Walk" "ones" "I", Cond.fieldLink RX2 94 "MachineTree$Walk" "left" "I", Cond.fieldLink RX2 97 "MachineTree$Walk" "right" "I", Cond.methodLink RX2 79 yJ7_fill_d0a16, Cond.static yJ7_fill_d0a16, Cond.initialized RJ7, Cond.code yJ7_fill_d0a16 cJ7_fill_d0a16 5 none, Cond.methodLink RX2 100 yX2_note, Cond.instanceMethod yX2_note, Cond.selects RX2 yX2_note yX2_note, Cond.code yX2_note cX2_note 2 none, Cond.fieldLink RX2 34 "MachineTree$Walk" "heads" "[I", Cond.fieldLink RX2 38 "MachineTree$Walk" "states" "[I"]
def wsX3_grow_r5 : List Cond := [Cond.fieldLink RX2 41 "MachineTree$Walk" "sides" "[I", Cond.fieldLink RX2 31 "MachineTree$Walk" "tapes" "[J", Cond.fieldLink RX2 24 "MachineTree$Walk" "words" "I", Cond.methodLink RX2 106 arraycopyName, Cond.native arraycopyName, Cond.static arraycopyName, Cond.initialized "java/lang/System", Cond.methodLink RX2 59 yX2_symbolNow, Cond.methodLink RX2 63 yX0_codeAt, Cond.methodLink RX2 68 yX2_act, Cond.instanceMethod yX2_act, Cond.selects RX2 yX2_act yX2_act, Cond.code yX2_act cX2_act 3 none, Cond.methodLink RX2 15 Lib.Math.max.name, Cond.methodLink RX2 103 yX2_write, Cond.instanceMethod yX2_write, Cond.selects RX2 yX2_write yX2_write, Cond.code yX2_write cX2_write 5 none, Cond.methodLink RX2 72 yX2_look, Cond.instanceMethod yX2_look, Cond.selects RX2 yX2_look yX2_look, Cond.code yX2_look cX2_look 3 none, Cond.methodLink RX2 112 yX2_latestSame, Cond.instanceMethod yX2_latestSame]
def wsX3_grow_r6 : List Cond := [Cond.selects RX2 yX2_latestSame yX2_latestSame, Cond.code yX2_latestSame cX2_latestSame 2 (some .int), Cond.methodLink RX2 119 yX2_sameTape, Cond.instanceMethod yX2_sameTape, Cond.selects RX2 yX2_sameTape yX2_sameTape, Cond.code yX2_sameTape cX2_sameTape 4 (some .boolean), Cond.methodLink RX2 116 yX2_latestDrift, Cond.instanceMethod yX2_latestDrift, Cond.selects RX2 yX2_latestDrift yX2_latestDrift, Cond.code yX2_latestDrift cX2_latestDrift 6 (some .int), Cond.methodLink RX2 123 yX2_sameBehind, Cond.instanceMethod yX2_sameBehind, Cond.selects RX2 yX2_sameBehind yX2_sameBehind, Cond.code yX2_sameBehind cX2_sameBehind 6 (some .boolean), Cond.methodLink RX1 55 yX1_countHalted, Cond.instanceMethod yX1_countHalted, Cond.selects RX1 yX1_countHalted yX1_countHalted, Cond.code yX1_countHalted cX1_countHalted 1 none, Cond.fieldLink RX1 67 "MachineTree$Tree" "halted" "I", Cond.fieldLink RX1 70 "MachineTree$Tree" "haltedSteps" "I", Cond.fieldLink RX1 76 "MachineTree$Tree" "mostOnes" "I", Cond.methodLink RX1 82 Lib.Math.max.name, Cond.fieldLink RX1 88 "MachineTree$Tree" "bestSteps" "I", Cond.fieldLink RX1 91 "MachineTree$Tree" "bestOnes" "I"]
def wsX3_grow_r7 : List Cond := [Cond.fieldLink RX1 24 "MachineTree$Tree" "best" "LMachineTree$Machine;", Cond.methodLink RX1 94 yX0_copyFrom, Cond.instanceMethod yX0_copyFrom, Cond.selects RX0 yX0_copyFrom yX0_copyFrom, Cond.code yX0_copyFrom cX0_copyFrom 2 none, Cond.methodLink RX0 31 Lib.Math.min.name, Cond.methodLink RX0 34 arraycopyName]
def wsX3_grow : List Cond := .code yX3_grow cX3_grow 3 (some .int) :: ((wsX3_grow_r1 ++ (wsX3_grow_r2 ++ (wsX3_grow_r3 ++ (wsX3_grow_r4 ++ (wsX3_grow_r5 ++ (wsX3_grow_r6 ++ wsX3_grow_r7)))))) ++ wsX30 ++ wsX10 ++ wsX20 ++ wsX00 ++ (vx_atS RX3 53 "java/lang/IllegalArgumentException" ["java/lang/RuntimeException", "java/lang/Exception"]).filter goodWord)
def wsX3_taken : List Cond := .code yX3_taken cX3_taken 2 (some .int) :: ([.classLink RX3 49 "java/lang/IllegalArgumentException", .initialized "java/lang/IllegalArgumentException", .fieldLink RX3 37 "MachineTree" "tree" "LMachineTree$Tree;"] ++ wsX30 ++ wsX10 ++ (vx_atS RX3 53 "java/lang/IllegalArgumentException" ["java/lang/RuntimeException", "java/lang/Exception"]).filter goodWord)
def wsX3_champion : List Cond := .code yX3_champion cX3_champion 3 (some .int) :: ([.classLink RX3 49 "java/lang/IllegalArgumentException", .initialized "java/lang/IllegalArgumentException", .fieldLink RX3 37 "MachineTree" "tree" "LMachineTree$Tree;", .methodLink RX3 45 yX0_hasPlace, .instanceMethod yX0_hasPlace, .selects RX0 yX0_hasPlace yX0_hasPlace, .initialized RX0, .code yX0_hasPlace cX0_hasPlace 3 (some .boolean), .fieldLink RX0 9 "MachineTree$Machine" "states" "I", .methodLink RX3 62 yX0_codeAt, .instanceMethod yX0_codeAt, .selects RX0 yX0_codeAt yX0_codeAt, .code yX0_codeAt cX0_codeAt 4 (some .int), .fieldLink RX0 15 "MachineTree$Machine" "codes" "[I"] ++ wsX30 ++ wsX10 ++ wsX00 ++ (vx_atS RX3 53 "java/lang/IllegalArgumentException" ["java/lang/RuntimeException", "java/lang/Exception"]).filter goodWord)
def wsX3_mean : List Cond := .code yX3_mean cX3_mean 1 (some .float) :: ([.classLink RX3 144 "java/lang/IllegalStateException", .initialized "java/lang/IllegalStateException", .fieldLink RX3 37 "MachineTree" "tree" "LMachineTree$Tree;"] ++ wsX30 ++ wsX10 ++ (vx_atS RX3 148 "java/lang/IllegalStateException" ["java/lang/RuntimeException", "java/lang/Exception"]).filter goodWord)
def wsX4_init : List Cond := .code yX4_init cX4_init 3 none :: ([.methodLink RX4 1 objectInit, .instanceMethod objectInit, .code objectInit ⟨#[0xb1]⟩ 1 none, .arrayClass .int, .fieldLink RX4 7 "MachineTreeModel" "machine" "[I", .fieldLink RX4 13 "MachineTreeModel" "tree" "[I", .fieldLink RX4 16 "MachineTreeModel" "best" "[I", .fieldLink RX4 19 "MachineTreeModel" "tape" "[I", .fieldLink RX4 22 "MachineTreeModel" "back" "[I", .fieldLink RX4 25 "MachineTreeModel" "states" "[I", .fieldLink RX4 28 "MachineTreeModel" "heads" "[I", .fieldLink RX4 31 "MachineTreeModel" "records" "[I", .fieldLink RX4 34 "MachineTreeModel" "changed" "[I", .fieldLink RX4 37 "MachineTreeModel" "figures" "[I", .fieldLink RX4 40 "MachineTreeModel" "kept" "[I", .fieldLink RX4 43 "MachineTreeModel" "depth" "I", .fieldLink RX4 47 "MachineTreeModel" "place" "[I", .fieldLink RX4 50 "MachineTreeModel" "last" "[I", .fieldLink RX4 53 "MachineTreeModel" "counts" "[I", .fieldLink RX4 56 "MachineTreeModel" "n" "I"] ++ wsX40)
def wsX4_thrown : List Cond := .code yX4_thrown cX4_thrown 1 (some .int) :: ([.fieldLink RX4 59 "MachineTreeModel" "thrown" "I"] ++ wsX40)
def wsX4_refuse : List Cond := .code yX4_refuse cX4_refuse 2 (some .int) :: ([.fieldLink RX4 59 "MachineTreeModel" "thrown" "I"] ++ wsX40)
def wsX4_set : List Cond := .code yX4_set cX4_set 5 (some .int) :: ([.fieldLink RX4 59 "MachineTreeModel" "thrown" "I", .fieldLink RX4 56 "MachineTreeModel" "n" "I", .fieldLink RX4 7 "MachineTreeModel" "machine" "[I", .fieldLink RX4 66 "MachineTreeModel" "ran" "Z", .methodLink RX4 62 yX4_refuse, .instanceMethod yX4_refuse, .selects RX4 yX4_refuse yX4_refuse, .initialized RX4, .code yX4_refuse cX4_refuse 2 (some .int)] ++ wsX40)
def wsX4_begin : List Cond := .code yX4_begin cX4_begin 2 none :: ([.fieldLink RX4 19 "MachineTreeModel" "tape" "[I", .fieldLink RX4 70 "MachineTreeModel" "steps" "I", .fieldLink RX4 73 "MachineTreeModel" "period" "I", .fieldLink RX4 76 "MachineTreeModel" "drift" "I", .fieldLink RX4 79 "MachineTreeModel" "left" "I", .fieldLink RX4 82 "MachineTreeModel" "right" "I", .fieldLink RX4 25 "MachineTreeModel" "states" "[I", .fieldLink RX4 28 "MachineTreeModel" "heads" "[I", .fieldLink RX4 31 "MachineTreeModel" "records" "[I"] ++ wsX40)
def wsX4_step : List Cond := .code yX4_step cX4_step 6 (some .boolean) :: ([.fieldLink RX4 28 "MachineTreeModel" "heads" "[I", .fieldLink RX4 70 "MachineTreeModel" "steps" "I", .fieldLink RX4 19 "MachineTreeModel" "tape" "[I", .fieldLink RX4 25 "MachineTreeModel" "states" "[I", .fieldLink RX4 34 "MachineTreeModel" "changed" "[I", .fieldLink RX4 31 "MachineTreeModel" "records" "[I", .fieldLink RX4 82 "MachineTreeModel" "right" "I", .fieldLink RX4 79 "MachineTreeModel" "left" "I"] ++ wsX40)
def wsX4_cycles : List Cond := .code yX4_cycles cX4_cycles 4 (some .boolean) :: ([.fieldLink RX4 22 "MachineTreeModel" "back" "[I", .fieldLink RX4 70 "MachineTreeModel" "steps" "I", .fieldLink RX4 34 "MachineTreeModel" "changed" "[I", .fieldLink RX4 25 "MachineTreeModel" "states" "[I", .fieldLink RX4 28 "MachineTreeModel" "heads" "[I", .fieldLink RX4 73 "MachineTreeModel" "period" "I"] ++ wsX40)
def wsX4_alike : List Cond := .code yX4_alike cX4_alike 6 (some .boolean) :: ([.fieldLink RX4 22 "MachineTreeModel" "back" "[I", .fieldLink RX4 19 "MachineTreeModel" "tape" "[I", .fieldLink RX4 28 "MachineTreeModel" "heads" "[I", .fieldLink RX4 70 "MachineTreeModel" "steps" "I"] ++ wsX40)
def wsX4_drifts : List Cond := .code yX4_drifts cX4_drifts 5 (some .boolean) :: ([.fieldLink RX4 31 "MachineTreeModel" "records" "[I", .fieldLink RX4 70 "MachineTreeModel" "steps" "I", .fieldLink RX4 22 "MachineTreeModel" "back" "[I", .fieldLink RX4 19 "MachineTreeModel" "tape" "[I", .fieldLink RX4 28 "MachineTreeModel" "heads" "[I", .fieldLink RX4 34 "MachineTreeModel" "changed" "[I", .fieldLink RX4 25 "MachineTreeModel" "states" "[I", .fieldLink RX4 73 "MachineTreeModel" "period" "I", .fieldLink RX4 76 "MachineTreeModel" "drift" "I", .methodLink RX4 85 yX4_alike, .instanceMethod yX4_alike, .selects RX4 yX4_alike yX4_alike, .initialized RX4, .code yX4_alike cX4_alike 6 (some .boolean)] ++ wsX40)
def wsX4_outcome_r1 : List Cond := [Cond.fieldLink RX4 70 "MachineTreeModel" "steps" "I", Cond.methodLink RX4 89 yX4_begin, Cond.instanceMethod yX4_begin, Cond.selects RX4 yX4_begin yX4_begin, Cond.initialized RX4, Cond.code yX4_begin cX4_begin 2 none, Cond.fieldLink RX4 19 "MachineTreeModel" "tape" "[I", Cond.fieldLink RX4 73 "MachineTreeModel" "period" "I", Cond.fieldLink RX4 76 "MachineTreeModel" "drift" "I", Cond.fieldLink RX4 79 "MachineTreeModel" "left" "I", Cond.fieldLink RX4 82 "MachineTreeModel" "right" "I", Cond.fieldLink RX4 25 "MachineTreeModel" "states" "[I", Cond.fieldLink RX4 28 "MachineTreeModel" "heads" "[I", Cond.fieldLink RX4 31 "MachineTreeModel" "records" "[I", Cond.methodLink RX4 92 yX4_step, Cond.instanceMethod yX4_step, Cond.selects RX4 yX4_step yX4_step, Cond.code yX4_step cX4_step 6 (some .boolean), Cond.fieldLink RX4 34 "MachineTreeModel" "changed" "[I", Cond.methodLink RX4 96 yX4_cycles, Cond.instanceMethod yX4_cycles, Cond.selects RX4 yX4_cycles yX4_cycles, Cond.code yX4_cycles cX4_cycles 4 (some .boolean), Cond.fieldLink RX4 22 "MachineTreeModel" "back" "[I"]
def wsX4_outcome_r2 : List Cond := [Cond.methodLink RX4 100 yX4_drifts, Cond.instanceMethod yX4_drifts, Cond.selects RX4 yX4_drifts yX4_drifts, Cond.code yX4_drifts cX4_drifts 5 (some .boolean), Cond.methodLink RX4 85 yX4_alike, Cond.instanceMethod yX4_alike, Cond.selects RX4 yX4_alike yX4_alike, Cond.code yX4_alike cX4_alike 6 (some .boolean)]
def wsX4_outcome : List Cond := .code yX4_outcome cX4_outcome 3 (some .int) :: ((wsX4_outcome_r1 ++ wsX4_outcome_r2) ++ wsX40)
def wsX4_ones : List Cond := .code yX4_ones cX4_ones 3 (some .int) :: ([.fieldLink RX4 19 "MachineTreeModel" "tape" "[I"] ++ wsX40)
def wsX4_run_r1 : List Cond := [Cond.fieldLink RX4 59 "MachineTreeModel" "thrown" "I", Cond.fieldLink RX4 7 "MachineTreeModel" "machine" "[I", Cond.fieldLink RX4 66 "MachineTreeModel" "ran" "Z", Cond.fieldLink RX4 37 "MachineTreeModel" "figures" "[I", Cond.fieldLink RX4 70 "MachineTreeModel" "steps" "I", Cond.fieldLink RX4 73 "MachineTreeModel" "period" "I", Cond.fieldLink RX4 76 "MachineTreeModel" "drift" "I", Cond.fieldLink RX4 25 "MachineTreeModel" "states" "[I", Cond.fieldLink RX4 28 "MachineTreeModel" "heads" "[I", Cond.fieldLink RX4 79 "MachineTreeModel" "left" "I", Cond.fieldLink RX4 82 "MachineTreeModel" "right" "I", Cond.fieldLink RX4 40 "MachineTreeModel" "kept" "[I", Cond.fieldLink RX4 19 "MachineTreeModel" "tape" "[I", Cond.methodLink RX4 62 yX4_refuse, Cond.instanceMethod yX4_refuse, Cond.selects RX4 yX4_refuse yX4_refuse, Cond.initialized RX4, Cond.code yX4_refuse cX4_refuse 2 (some .int), Cond.methodLink RX4 103 yX4_outcome, Cond.instanceMethod yX4_outcome, Cond.selects RX4 yX4_outcome yX4_outcome, Cond.code yX4_outcome cX4_outcome 3 (some .int), Cond.methodLink RX4 89 yX4_begin, Cond.instanceMethod yX4_begin]
def wsX4_run_r2 : List Cond := [Cond.selects RX4 yX4_begin yX4_begin, Cond.code yX4_begin cX4_begin 2 none, Cond.fieldLink RX4 31 "MachineTreeModel" "records" "[I", Cond.methodLink RX4 92 yX4_step, Cond.instanceMethod yX4_step, Cond.selects RX4 yX4_step yX4_step, Cond.code yX4_step cX4_step 6 (some .boolean), Cond.fieldLink RX4 34 "MachineTreeModel" "changed" "[I", Cond.methodLink RX4 96 yX4_cycles, Cond.instanceMethod yX4_cycles, Cond.selects RX4 yX4_cycles yX4_cycles, Cond.code yX4_cycles cX4_cycles 4 (some .boolean), Cond.fieldLink RX4 22 "MachineTreeModel" "back" "[I", Cond.methodLink RX4 100 yX4_drifts, Cond.instanceMethod yX4_drifts, Cond.selects RX4 yX4_drifts yX4_drifts, Cond.code yX4_drifts cX4_drifts 5 (some .boolean), Cond.methodLink RX4 85 yX4_alike, Cond.instanceMethod yX4_alike, Cond.selects RX4 yX4_alike yX4_alike, Cond.code yX4_alike cX4_alike 6 (some .boolean), Cond.methodLink RX4 107 yX4_ones, Cond.instanceMethod yX4_ones, Cond.selects RX4 yX4_ones yX4_ones]
def wsX4_run_r3 : List Cond := [Cond.code yX4_ones cX4_ones 3 (some .int)]
def wsX4_run : List Cond := .code yX4_run cX4_run 4 (some .int) :: ((wsX4_run_r1 ++ (wsX4_run_r2 ++ wsX4_run_r3)) ++ wsX40)
def wsX4_figure : List Cond := .code yX4_figure cX4_figure 2 (some .int) :: ([.fieldLink RX4 59 "MachineTreeModel" "thrown" "I", .fieldLink RX4 66 "MachineTreeModel" "ran" "Z", .fieldLink RX4 37 "MachineTreeModel" "figures" "[I", .methodLink RX4 62 yX4_refuse, .instanceMethod yX4_refuse, .selects RX4 yX4_refuse yX4_refuse, .initialized RX4, .code yX4_refuse cX4_refuse 2 (some .int)] ++ wsX40)
def wsX4_cell : List Cond := .code yX4_cell cX4_cell 2 (some .int) :: ([.fieldLink RX4 59 "MachineTreeModel" "thrown" "I", .fieldLink RX4 66 "MachineTreeModel" "ran" "Z", .fieldLink RX4 40 "MachineTreeModel" "kept" "[I", .methodLink RX4 62 yX4_refuse, .instanceMethod yX4_refuse, .selects RX4 yX4_refuse yX4_refuse, .initialized RX4, .code yX4_refuse cX4_refuse 2 (some .int)] ++ wsX40)
def wsX4_share : List Cond := .code yX4_share cX4_share 1 (some .float) :: ([.fieldLink RX4 59 "MachineTreeModel" "thrown" "I", .fieldLink RX4 66 "MachineTreeModel" "ran" "Z", .fieldLink RX4 37 "MachineTreeModel" "figures" "[I", .methodLink RX4 62 yX4_refuse, .instanceMethod yX4_refuse, .selects RX4 yX4_refuse yX4_refuse, .initialized RX4, .code yX4_refuse cX4_refuse 2 (some .int)] ++ wsX40)
def wsX4_actions : List Cond := .code yX4_actions cX4_actions 3 (some .int) :: ([.fieldLink RX4 13 "MachineTreeModel" "tree" "[I"] ++ wsX40)
def wsX4_greatest : List Cond := .code yX4_greatest cX4_greatest 3 (some .int) :: ([.fieldLink RX4 13 "MachineTreeModel" "tree" "[I"] ++ wsX40)
def wsX4_goOn : List Cond := .code yX4_goOn cX4_goOn 3 none :: ([.fieldLink RX4 43 "MachineTreeModel" "depth" "I", .fieldLink RX4 47 "MachineTreeModel" "place" "[I", .fieldLink RX4 13 "MachineTreeModel" "tree" "[I", .fieldLink RX4 50 "MachineTreeModel" "last" "[I", .fieldLink RX4 132 "MachineTreeModel" "over" "Z"] ++ wsX40)
def wsX4_take_r1 : List Cond := [Cond.fieldLink RX4 13 "MachineTreeModel" "tree" "[I", Cond.fieldLink RX4 53 "MachineTreeModel" "counts" "[I", Cond.fieldLink RX4 111 "MachineTreeModel" "sum" "I", Cond.fieldLink RX4 70 "MachineTreeModel" "steps" "I", Cond.fieldLink RX4 114 "MachineTreeModel" "mostOnes" "I", Cond.fieldLink RX4 117 "MachineTreeModel" "championSteps" "I", Cond.fieldLink RX4 120 "MachineTreeModel" "championOnes" "I", Cond.fieldLink RX4 16 "MachineTreeModel" "best" "[I", Cond.fieldLink RX4 56 "MachineTreeModel" "n" "I", Cond.fieldLink RX4 47 "MachineTreeModel" "place" "[I", Cond.fieldLink RX4 43 "MachineTreeModel" "depth" "I", Cond.fieldLink RX4 25 "MachineTreeModel" "states" "[I", Cond.fieldLink RX4 19 "MachineTreeModel" "tape" "[I", Cond.fieldLink RX4 28 "MachineTreeModel" "heads" "[I", Cond.fieldLink RX4 50 "MachineTreeModel" "last" "[I", Cond.methodLink RX4 103 yX4_outcome, Cond.instanceMethod yX4_outcome, Cond.selects RX4 yX4_outcome yX4_outcome, Cond.initialized RX4, Cond.code yX4_outcome cX4_outcome 3 (some .int), Cond.methodLink RX4 89 yX4_begin, Cond.instanceMethod yX4_begin, Cond.selects RX4 yX4_begin yX4_begin, Cond.code yX4_begin cX4_begin 2 none]
def wsX4_take_r2 : List Cond := [Cond.fieldLink RX4 73 "MachineTreeModel" "period" "I", Cond.fieldLink RX4 76 "MachineTreeModel" "drift" "I", Cond.fieldLink RX4 79 "MachineTreeModel" "left" "I", Cond.fieldLink RX4 82 "MachineTreeModel" "right" "I", Cond.fieldLink RX4 31 "MachineTreeModel" "records" "[I", Cond.methodLink RX4 92 yX4_step, Cond.instanceMethod yX4_step, Cond.selects RX4 yX4_step yX4_step, Cond.code yX4_step cX4_step 6 (some .boolean), Cond.fieldLink RX4 34 "MachineTreeModel" "changed" "[I", Cond.methodLink RX4 96 yX4_cycles, Cond.instanceMethod yX4_cycles, Cond.selects RX4 yX4_cycles yX4_cycles, Cond.code yX4_cycles cX4_cycles 4 (some .boolean), Cond.fieldLink RX4 22 "MachineTreeModel" "back" "[I", Cond.methodLink RX4 100 yX4_drifts, Cond.instanceMethod yX4_drifts, Cond.selects RX4 yX4_drifts yX4_drifts, Cond.code yX4_drifts cX4_drifts 5 (some .boolean), Cond.methodLink RX4 85 yX4_alike, Cond.instanceMethod yX4_alike, Cond.selects RX4 yX4_alike yX4_alike, Cond.code yX4_alike cX4_alike 6 (some .boolean), Cond.methodLink RX4 107 yX4_ones]
def wsX4_take_r3 : List Cond := [Cond.instanceMethod yX4_ones, Cond.selects RX4 yX4_ones yX4_ones, Cond.code yX4_ones cX4_ones 3 (some .int), Cond.methodLink RX4 123 yX4_actions, Cond.instanceMethod yX4_actions, Cond.selects RX4 yX4_actions yX4_actions, Cond.code yX4_actions cX4_actions 3 (some .int), Cond.methodLink RX4 126 yX4_greatest, Cond.instanceMethod yX4_greatest, Cond.selects RX4 yX4_greatest yX4_greatest, Cond.code yX4_greatest cX4_greatest 3 (some .int), Cond.methodLink RX4 129 yX4_goOn, Cond.instanceMethod yX4_goOn, Cond.selects RX4 yX4_goOn yX4_goOn, Cond.code yX4_goOn cX4_goOn 3 none, Cond.fieldLink RX4 132 "MachineTreeModel" "over" "Z"]
def wsX4_take : List Cond := .code yX4_take cX4_take 4 none :: ((wsX4_take_r1 ++ (wsX4_take_r2 ++ wsX4_take_r3)) ++ wsX40)
def wsX4_grow_r1 : List Cond := [Cond.fieldLink RX4 59 "MachineTreeModel" "thrown" "I", Cond.fieldLink RX4 43 "MachineTreeModel" "depth" "I", Cond.fieldLink RX4 13 "MachineTreeModel" "tree" "[I", Cond.fieldLink RX4 132 "MachineTreeModel" "over" "Z", Cond.methodLink RX4 62 yX4_refuse, Cond.instanceMethod yX4_refuse, Cond.selects RX4 yX4_refuse yX4_refuse, Cond.initialized RX4, Cond.code yX4_refuse cX4_refuse 2 (some .int), Cond.methodLink RX4 135 yX4_take, Cond.instanceMethod yX4_take, Cond.selects RX4 yX4_take yX4_take, Cond.code yX4_take cX4_take 4 none, Cond.fieldLink RX4 53 "MachineTreeModel" "counts" "[I", Cond.fieldLink RX4 111 "MachineTreeModel" "sum" "I", Cond.fieldLink RX4 70 "MachineTreeModel" "steps" "I", Cond.fieldLink RX4 114 "MachineTreeModel" "mostOnes" "I", Cond.fieldLink RX4 117 "MachineTreeModel" "championSteps" "I", Cond.fieldLink RX4 120 "MachineTreeModel" "championOnes" "I", Cond.fieldLink RX4 16 "MachineTreeModel" "best" "[I", Cond.fieldLink RX4 56 "MachineTreeModel" "n" "I", Cond.fieldLink RX4 47 "MachineTreeModel" "place" "[I", Cond.fieldLink RX4 25 "MachineTreeModel" "states" "[I", Cond.fieldLink RX4 19 "MachineTreeModel" "tape" "[I"]
def wsX4_grow_r2 : List Cond := [Cond.fieldLink RX4 28 "MachineTreeModel" "heads" "[I", Cond.fieldLink RX4 50 "MachineTreeModel" "last" "[I", Cond.methodLink RX4 103 yX4_outcome, Cond.instanceMethod yX4_outcome, Cond.selects RX4 yX4_outcome yX4_outcome, Cond.code yX4_outcome cX4_outcome 3 (some .int), Cond.methodLink RX4 89 yX4_begin, Cond.instanceMethod yX4_begin, Cond.selects RX4 yX4_begin yX4_begin, Cond.code yX4_begin cX4_begin 2 none, Cond.fieldLink RX4 73 "MachineTreeModel" "period" "I", Cond.fieldLink RX4 76 "MachineTreeModel" "drift" "I", Cond.fieldLink RX4 79 "MachineTreeModel" "left" "I", Cond.fieldLink RX4 82 "MachineTreeModel" "right" "I", Cond.fieldLink RX4 31 "MachineTreeModel" "records" "[I", Cond.methodLink RX4 92 yX4_step, Cond.instanceMethod yX4_step, Cond.selects RX4 yX4_step yX4_step, Cond.code yX4_step cX4_step 6 (some .boolean), Cond.fieldLink RX4 34 "MachineTreeModel" "changed" "[I", Cond.methodLink RX4 96 yX4_cycles, Cond.instanceMethod yX4_cycles, Cond.selects RX4 yX4_cycles yX4_cycles, Cond.code yX4_cycles cX4_cycles 4 (some .boolean)]
def wsX4_grow_r3 : List Cond := [Cond.fieldLink RX4 22 "MachineTreeModel" "back" "[I", Cond.methodLink RX4 100 yX4_drifts, Cond.instanceMethod yX4_drifts, Cond.selects RX4 yX4_drifts yX4_drifts, Cond.code yX4_drifts cX4_drifts 5 (some .boolean), Cond.methodLink RX4 85 yX4_alike, Cond.instanceMethod yX4_alike, Cond.selects RX4 yX4_alike yX4_alike, Cond.code yX4_alike cX4_alike 6 (some .boolean), Cond.methodLink RX4 107 yX4_ones, Cond.instanceMethod yX4_ones, Cond.selects RX4 yX4_ones yX4_ones, Cond.code yX4_ones cX4_ones 3 (some .int), Cond.methodLink RX4 123 yX4_actions, Cond.instanceMethod yX4_actions, Cond.selects RX4 yX4_actions yX4_actions, Cond.code yX4_actions cX4_actions 3 (some .int), Cond.methodLink RX4 126 yX4_greatest, Cond.instanceMethod yX4_greatest, Cond.selects RX4 yX4_greatest yX4_greatest, Cond.code yX4_greatest cX4_greatest 3 (some .int), Cond.methodLink RX4 129 yX4_goOn, Cond.instanceMethod yX4_goOn, Cond.selects RX4 yX4_goOn yX4_goOn]
def wsX4_grow_r4 : List Cond := [Cond.code yX4_goOn cX4_goOn 3 none]
def wsX4_grow : List Cond := .code yX4_grow cX4_grow 3 (some .int) :: ((wsX4_grow_r1 ++ (wsX4_grow_r2 ++ (wsX4_grow_r3 ++ wsX4_grow_r4))) ++ wsX40)
def wsX4_taken : List Cond := .code yX4_taken cX4_taken 2 (some .int) :: ([.fieldLink RX4 59 "MachineTreeModel" "thrown" "I", .fieldLink RX4 53 "MachineTreeModel" "counts" "[I", .fieldLink RX4 117 "MachineTreeModel" "championSteps" "I", .fieldLink RX4 120 "MachineTreeModel" "championOnes" "I", .fieldLink RX4 114 "MachineTreeModel" "mostOnes" "I", .methodLink RX4 62 yX4_refuse, .instanceMethod yX4_refuse, .selects RX4 yX4_refuse yX4_refuse, .initialized RX4, .code yX4_refuse cX4_refuse 2 (some .int)] ++ wsX40)
def wsX4_champion : List Cond := .code yX4_champion cX4_champion 3 (some .int) :: ([.fieldLink RX4 59 "MachineTreeModel" "thrown" "I", .fieldLink RX4 56 "MachineTreeModel" "n" "I", .fieldLink RX4 16 "MachineTreeModel" "best" "[I", .methodLink RX4 62 yX4_refuse, .instanceMethod yX4_refuse, .selects RX4 yX4_refuse yX4_refuse, .initialized RX4, .code yX4_refuse cX4_refuse 2 (some .int)] ++ wsX40)
def wsX4_mean : List Cond := .code yX4_mean cX4_mean 1 (some .float) :: ([.fieldLink RX4 59 "MachineTreeModel" "thrown" "I", .fieldLink RX4 53 "MachineTreeModel" "counts" "[I", .fieldLink RX4 111 "MachineTreeModel" "sum" "I", .methodLink RX4 62 yX4_refuse, .instanceMethod yX4_refuse, .selects RX4 yX4_refuse yX4_refuse, .initialized RX4, .code yX4_refuse cX4_refuse 2 (some .int)] ++ wsX40)
def wsJ9_max_7cf53 : List Cond := .code yJ9_max_7cf53 cJ9_max_7cf53 2 (some .int) :: ([])
def wsJ9_min_7cf53 : List Cond := .code yJ9_min_7cf53 cJ9_min_7cf53 2 (some .int) :: ([])
def wsL_cell : List Cond := .code yL_cell cL_cell 2 (some .int) :: ([])
def wsL_set_r1 : List Cond := [Cond.classLink RL 13 "java/lang/IllegalArgumentException", Cond.methodLink RL 7 yX3_set, Cond.instanceMethod yX3_set, Cond.selects RX3 yX3_set yX3_set, Cond.initialized RX3, Cond.code yX3_set cX3_set 5 (some .int), Cond.classLink RX3 49 "java/lang/IllegalArgumentException", Cond.initialized "java/lang/IllegalArgumentException", Cond.fieldLink RX3 23 "MachineTree" "machine" "LMachineTree$Machine;", Cond.fieldLink RX3 41 "MachineTree" "walked" "Z", Cond.methodLink RX3 45 yX0_hasPlace, Cond.instanceMethod yX0_hasPlace, Cond.selects RX0 yX0_hasPlace yX0_hasPlace, Cond.initialized RX0, Cond.code yX0_hasPlace cX0_hasPlace 3 (some .boolean), Cond.fieldLink RX0 9 "MachineTree$Machine" "states" "I", Cond.methodLink RX3 56 yX0_allows, Cond.instanceMethod yX0_allows, Cond.selects RX0 yX0_allows yX0_allows, Cond.code yX0_allows cX0_allows 2 (some .boolean), Cond.methodLink RX3 62 yX0_codeAt, Cond.instanceMethod yX0_codeAt, Cond.selects RX0 yX0_codeAt yX0_codeAt, Cond.code yX0_codeAt cX0_codeAt 4 (some .int)]
def wsL_set_r2 : List Cond := [Cond.fieldLink RX0 15 "MachineTree$Machine" "codes" "[I", Cond.methodLink RX3 65 yX0_put, Cond.instanceMethod yX0_put, Cond.selects RX0 yX0_put yX0_put, Cond.code yX0_put cX0_put 5 none]
def wsL_set : List Cond := .codeWith yL_set cL_set 6 (some .int) [(0, 12, 15, 13)] :: ((wsL_set_r1 ++ wsL_set_r2) ++ wsX30 ++ wsX00 ++ (vx_atS RX3 53 "java/lang/IllegalArgumentException" ["java/lang/RuntimeException", "java/lang/Exception"]).filter goodWord)
def wsL_run_r1 : List Cond := [Cond.classLink RL 13 "java/lang/IllegalArgumentException", Cond.methodLink RL 15 yX3_run, Cond.instanceMethod yX3_run, Cond.selects RX3 yX3_run yX3_run, Cond.initialized RX3, Cond.code yX3_run cX3_run 2 (some .int), Cond.classLink RX3 49 "java/lang/IllegalArgumentException", Cond.initialized "java/lang/IllegalArgumentException", Cond.fieldLink RX3 30 "MachineTree" "walk" "LMachineTree$Walk;", Cond.fieldLink RX3 23 "MachineTree" "machine" "LMachineTree$Machine;", Cond.fieldLink RX3 41 "MachineTree" "walked" "Z", Cond.methodLink RX3 71 yX2_follow, Cond.instanceMethod yX2_follow, Cond.selects RX2 yX2_follow yX2_follow, Cond.initialized RX2, Cond.code yX2_follow cX2_follow 5 none, Cond.fieldLink RX2 18 "MachineTree$Walk" "reach" "I", Cond.methodLink RX2 9 Lib.Math.min.name, Cond.static Lib.Math.min.name, Cond.initialized "java/lang/Math", Cond.code Lib.Math.min.name Lib.Math.min.code 2 (some .int), Cond.fieldLink RX2 47 "MachineTree$Walk" "steps" "I", Cond.fieldLink RX2 50 "MachineTree$Walk" "outcome" "I", Cond.fieldLink RX2 53 "MachineTree$Walk" "state" "I"]
def wsL_run_r2 : List Cond := [Cond.fieldLink RX2 56 "MachineTree$Walk" "head" "I", Cond.methodLink RX2 44 yX2_begin, Cond.instanceMethod yX2_begin, Cond.selects RX2 yX2_begin yX2_begin, Cond.code yX2_begin cX2_begin 1 none, Cond.fieldLink RX2 27 "MachineTree$Walk" "tape" "[J", Cond.fieldLink RX2 85 "MachineTree$Walk" "period" "I", Cond.fieldLink RX2 88 "MachineTree$Walk" "drift" "I", Cond.fieldLink RX2 91 "MachineTree$Walk" "ones" "I", Cond.fieldLink RX2 94 "MachineTree$Walk" "left" "I", Cond.fieldLink RX2 97 "MachineTree$Walk" "right" "I", Cond.methodLink RX2 79 yJ7_fill_d0a16, Cond.static yJ7_fill_d0a16, Cond.initialized RJ7, Cond.code yJ7_fill_d0a16 cJ7_fill_d0a16 5 none, Cond.methodLink RX2 100 yX2_note, Cond.instanceMethod yX2_note, Cond.selects RX2 yX2_note yX2_note, Cond.code yX2_note cX2_note 2 none, Cond.fieldLink RX2 34 "MachineTree$Walk" "heads" "[I", Cond.fieldLink RX2 38 "MachineTree$Walk" "states" "[I", Cond.fieldLink RX2 41 "MachineTree$Walk" "sides" "[I", Cond.fieldLink RX2 31 "MachineTree$Walk" "tapes" "[J", Cond.fieldLink RX2 24 "MachineTree$Walk" "words" "I"]
def wsL_run_r3 : List Cond := [Cond.methodLink RX2 106 arraycopyName, Cond.native arraycopyName, Cond.static arraycopyName, Cond.initialized "java/lang/System", Cond.methodLink RX2 59 yX2_symbolNow, Cond.instanceMethod yX2_symbolNow, Cond.selects RX2 yX2_symbolNow yX2_symbolNow, Cond.code yX2_symbolNow cX2_symbolNow 2 (some .int), Cond.methodLink RX2 75 yX2_symbolIn, Cond.instanceMethod yX2_symbolIn, Cond.selects RX2 yX2_symbolIn yX2_symbolIn, Cond.code yX2_symbolIn cX2_symbolIn 6 (some .int), Cond.methodLink RX2 63 yX0_codeAt, Cond.instanceMethod yX0_codeAt, Cond.selects RX0 yX0_codeAt yX0_codeAt, Cond.initialized RX0, Cond.code yX0_codeAt cX0_codeAt 4 (some .int), Cond.fieldLink RX0 15 "MachineTree$Machine" "codes" "[I", Cond.methodLink RX2 68 yX2_act, Cond.instanceMethod yX2_act, Cond.selects RX2 yX2_act yX2_act, Cond.code yX2_act cX2_act 3 none, Cond.methodLink RX2 15 Lib.Math.max.name, Cond.static Lib.Math.max.name]
def wsL_run_r4 : List Cond := [Cond.code Lib.Math.max.name Lib.Math.max.code 2 (some .int), Cond.methodLink RX2 103 yX2_write, Cond.instanceMethod yX2_write, Cond.selects RX2 yX2_write yX2_write, Cond.code yX2_write cX2_write 5 none, Cond.methodLink RX2 72 yX2_look, Cond.instanceMethod yX2_look, Cond.selects RX2 yX2_look yX2_look, Cond.code yX2_look cX2_look 3 none, Cond.methodLink RX2 112 yX2_latestSame, Cond.instanceMethod yX2_latestSame, Cond.selects RX2 yX2_latestSame yX2_latestSame, Cond.code yX2_latestSame cX2_latestSame 2 (some .int), Cond.methodLink RX2 119 yX2_sameTape, Cond.instanceMethod yX2_sameTape, Cond.selects RX2 yX2_sameTape yX2_sameTape, Cond.code yX2_sameTape cX2_sameTape 4 (some .boolean), Cond.methodLink RX2 116 yX2_latestDrift, Cond.instanceMethod yX2_latestDrift, Cond.selects RX2 yX2_latestDrift yX2_latestDrift, Cond.code yX2_latestDrift cX2_latestDrift 6 (some .int), Cond.methodLink RX2 123 yX2_sameBehind, Cond.instanceMethod yX2_sameBehind, Cond.selects RX2 yX2_sameBehind yX2_sameBehind]
def wsL_run_r5 : List Cond := [Cond.code yX2_sameBehind cX2_sameBehind 6 (some .boolean)]
def wsL_run : List Cond := .codeWith yL_run cL_run 4 (some .int) [(0, 9, 12, 13)] :: ((wsL_run_r1 ++ (wsL_run_r2 ++ (wsL_run_r3 ++ (wsL_run_r4 ++ wsL_run_r5)))) ++ wsX30 ++ wsX20 ++ wsX00 ++ (vx_atS RX3 53 "java/lang/IllegalArgumentException" ["java/lang/RuntimeException", "java/lang/Exception"]).filter goodWord)
def wsL_figure : List Cond := .codeWith yL_figure cL_figure 4 (some .int) [(0, 9, 12, 13), (0, 9, 15, 22)] :: ([.classLink RL 13 "java/lang/IllegalArgumentException", .classLink RL 22 "java/lang/IllegalStateException", .methodLink RL 19 yX3_figure, .instanceMethod yX3_figure, .selects RX3 yX3_figure yX3_figure, .initialized RX3, .code yX3_figure cX3_figure 2 (some .int), .classLink RX3 49 "java/lang/IllegalArgumentException", .initialized "java/lang/IllegalArgumentException", .fieldLink RX3 30 "MachineTree" "walk" "LMachineTree$Walk;", .methodLink RX3 81 yX3_needWalk, .instanceMethod yX3_needWalk, .selects RX3 yX3_needWalk yX3_needWalk, .code yX3_needWalk cX3_needWalk 1 none, .classLink RX3 144 "java/lang/IllegalStateException", .initialized "java/lang/IllegalStateException", .fieldLink RX3 41 "MachineTree" "walked" "Z"] ++ wsX30 ++ wsX20 ++ (vx_atS RX3 53 "java/lang/IllegalArgumentException" ["java/lang/RuntimeException", "java/lang/Exception"]).filter goodWord ++ (vx_atS RX3 148 "java/lang/IllegalStateException" ["java/lang/RuntimeException", "java/lang/Exception"]).filter goodWord)
def wsL_cell__r1 : List Cond := [Cond.classLink RL 22 "java/lang/IllegalStateException", Cond.methodLink RL 24 yX3_cell, Cond.instanceMethod yX3_cell, Cond.selects RX3 yX3_cell yX3_cell, Cond.initialized RX3, Cond.code yX3_cell cX3_cell 2 (some .int), Cond.fieldLink RX3 30 "MachineTree" "walk" "LMachineTree$Walk;", Cond.methodLink RX3 81 yX3_needWalk, Cond.instanceMethod yX3_needWalk, Cond.selects RX3 yX3_needWalk yX3_needWalk, Cond.code yX3_needWalk cX3_needWalk 1 none, Cond.classLink RX3 144 "java/lang/IllegalStateException", Cond.initialized "java/lang/IllegalStateException", Cond.fieldLink RX3 41 "MachineTree" "walked" "Z", Cond.methodLink RX3 108 yX2_symbolNow, Cond.instanceMethod yX2_symbolNow, Cond.selects RX2 yX2_symbolNow yX2_symbolNow, Cond.initialized RX2, Cond.code yX2_symbolNow cX2_symbolNow 2 (some .int), Cond.fieldLink RX2 27 "MachineTree$Walk" "tape" "[J", Cond.methodLink RX2 75 yX2_symbolIn, Cond.instanceMethod yX2_symbolIn, Cond.selects RX2 yX2_symbolIn yX2_symbolIn, Cond.code yX2_symbolIn cX2_symbolIn 6 (some .int)]
def wsL_cell__r2 : List Cond := [Cond.fieldLink RX2 18 "MachineTree$Walk" "reach" "I"]
def wsL_cell_ : List Cond := .codeWith yL_cell_ cL_cell_ 4 (some .int) [(0, 9, 12, 22)] :: ((wsL_cell__r1 ++ wsL_cell__r2) ++ wsX30 ++ wsX20 ++ (vx_atS RX3 148 "java/lang/IllegalStateException" ["java/lang/RuntimeException", "java/lang/Exception"]).filter goodWord)
def wsL_share : List Cond := .codeWith yL_share cL_share 3 (some .int) [(0, 8, 11, 22)] :: ([.classLink RL 22 "java/lang/IllegalStateException", .methodLink RL 27 yX3_share, .instanceMethod yX3_share, .selects RX3 yX3_share yX3_share, .initialized RX3, .code yX3_share cX3_share 2 (some .float), .fieldLink RX3 30 "MachineTree" "walk" "LMachineTree$Walk;", .methodLink RX3 81 yX3_needWalk, .instanceMethod yX3_needWalk, .selects RX3 yX3_needWalk yX3_needWalk, .code yX3_needWalk cX3_needWalk 1 none, .classLink RX3 144 "java/lang/IllegalStateException", .initialized "java/lang/IllegalStateException", .fieldLink RX3 41 "MachineTree" "walked" "Z"] ++ wsX30 ++ wsX20 ++ (vx_atS RX3 148 "java/lang/IllegalStateException" ["java/lang/RuntimeException", "java/lang/Exception"]).filter goodWord)
def wsL_grow_r1 : List Cond := [Cond.classLink RL 13 "java/lang/IllegalArgumentException", Cond.methodLink RL 31 yX3_grow, Cond.instanceMethod yX3_grow, Cond.selects RX3 yX3_grow yX3_grow, Cond.initialized RX3, Cond.code yX3_grow cX3_grow 3 (some .int), Cond.classLink RX3 49 "java/lang/IllegalArgumentException", Cond.initialized "java/lang/IllegalArgumentException", Cond.fieldLink RX3 37 "MachineTree" "tree" "LMachineTree$Tree;", Cond.methodLink RX3 114 yX1_takeNext, Cond.instanceMethod yX1_takeNext, Cond.selects RX1 yX1_takeNext yX1_takeNext, Cond.initialized RX1, Cond.code yX1_takeNext cX1_takeNext 1 (some .boolean), Cond.fieldLink RX1 30 "MachineTree$Tree" "way" "LMachineTree$Walk;", Cond.fieldLink RX1 20 "MachineTree$Tree" "current" "LMachineTree$Machine;", Cond.fieldLink RX1 58 "MachineTree$Tree" "cycling" "I", Cond.fieldLink RX1 61 "MachineTree$Tree" "drifting" "I", Cond.fieldLink RX1 64 "MachineTree$Tree" "open" "I", Cond.methodLink RX1 44 yX1_moveOn, Cond.instanceMethod yX1_moveOn, Cond.selects RX1 yX1_moveOn yX1_moveOn, Cond.code yX1_moveOn cX1_moveOn 1 (some .boolean), Cond.fieldLink RX1 98 "MachineTree$Tree" "ended" "Z"]
def wsL_grow_r2 : List Cond := [Cond.fieldLink RX1 102 "MachineTree$Tree" "begun" "Z", Cond.methodLink RX1 105 yX0_put, Cond.instanceMethod yX0_put, Cond.selects RX0 yX0_put yX0_put, Cond.initialized RX0, Cond.code yX0_put cX0_put 5 none, Cond.fieldLink RX0 15 "MachineTree$Machine" "codes" "[I", Cond.methodLink RX1 109 yX1_hasChildren, Cond.instanceMethod yX1_hasChildren, Cond.selects RX1 yX1_hasChildren yX1_hasChildren, Cond.code yX1_hasChildren cX1_hasChildren 1 (some .boolean), Cond.fieldLink RX1 118 "MachineTree$Tree" "depth" "I", Cond.fieldLink RX1 9 "MachineTree$Tree" "states" "I", Cond.fieldLink RX1 41 "MachineTree$Tree" "lastCodes" "[I", Cond.methodLink RX1 112 yX1_toFirstChild, Cond.instanceMethod yX1_toFirstChild, Cond.selects RX1 yX1_toFirstChild yX1_toFirstChild, Cond.code yX1_toFirstChild cX1_toFirstChild 2 none, Cond.fieldLink RX1 34 "MachineTree$Tree" "placeStates" "[I", Cond.fieldLink RX1 38 "MachineTree$Tree" "placeSymbols" "[I", Cond.methodLink RX1 135 Lib.Math.min.name, Cond.static Lib.Math.min.name, Cond.initialized "java/lang/Math", Cond.code Lib.Math.min.name Lib.Math.min.code 2 (some .int)]
def wsL_grow_r3 : List Cond := [Cond.methodLink RX1 124 yX2_symbolNow, Cond.instanceMethod yX2_symbolNow, Cond.selects RX2 yX2_symbolNow yX2_symbolNow, Cond.initialized RX2, Cond.code yX2_symbolNow cX2_symbolNow 2 (some .int), Cond.fieldLink RX2 27 "MachineTree$Walk" "tape" "[J", Cond.methodLink RX2 75 yX2_symbolIn, Cond.instanceMethod yX2_symbolIn, Cond.selects RX2 yX2_symbolIn yX2_symbolIn, Cond.code yX2_symbolIn cX2_symbolIn 6 (some .int), Cond.fieldLink RX2 18 "MachineTree$Walk" "reach" "I", Cond.methodLink RX1 131 yX0_greatestNext, Cond.instanceMethod yX0_greatestNext, Cond.selects RX0 yX0_greatestNext yX0_greatestNext, Cond.code yX0_greatestNext cX0_greatestNext 6 (some .int), Cond.methodLink RX0 25 Lib.Math.max.name, Cond.static Lib.Math.max.name, Cond.code Lib.Math.max.name Lib.Math.max.code 2 (some .int), Cond.methodLink RX1 115 yX1_toNextBranch, Cond.instanceMethod yX1_toNextBranch, Cond.selects RX1 yX1_toNextBranch yX1_toNextBranch, Cond.code yX1_toNextBranch cX1_toNextBranch 5 (some .boolean), Cond.methodLink RX1 138 yX0_codeAt, Cond.instanceMethod yX0_codeAt]
def wsL_grow_r4 : List Cond := [Cond.selects RX0 yX0_codeAt yX0_codeAt, Cond.code yX0_codeAt cX0_codeAt 4 (some .int), Cond.methodLink RX1 48 yX2_follow, Cond.instanceMethod yX2_follow, Cond.selects RX2 yX2_follow yX2_follow, Cond.code yX2_follow cX2_follow 5 none, Cond.methodLink RX2 9 Lib.Math.min.name, Cond.fieldLink RX2 47 "MachineTree$Walk" "steps" "I", Cond.fieldLink RX2 50 "MachineTree$Walk" "outcome" "I", Cond.fieldLink RX2 53 "MachineTree$Walk" "state" "I", Cond.fieldLink RX2 56 "MachineTree$Walk" "head" "I", Cond.methodLink RX2 44 yX2_begin, Cond.instanceMethod yX2_begin, Cond.selects RX2 yX2_begin yX2_begin, Cond.code yX2_begin cX2_begin 1 none, Cond.fieldLink RX2 85 "MachineTree$Walk" "period" "I", Cond.fieldLink RX2 88 "MachineTree$Walk" "drift" "I", Cond.fieldLink RX2 91 "MachineTree$Walk" "ones" "I", Cond.fieldLink RX2 94 "MachineTree$Walk" "left" "I", Cond.fieldLink RX2 97 "MachineTree$Walk" "right" "I", Cond.methodLink RX2 79 yJ7_fill_d0a16, Cond.static yJ7_fill_d0a16, Cond.initialized RJ7, Cond.code yJ7_fill_d0a16 cJ7_fill_d0a16 5 none]
def wsL_grow_r5 : List Cond := [Cond.methodLink RX2 100 yX2_note, Cond.instanceMethod yX2_note, Cond.selects RX2 yX2_note yX2_note, Cond.code yX2_note cX2_note 2 none, Cond.fieldLink RX2 34 "MachineTree$Walk" "heads" "[I", Cond.fieldLink RX2 38 "MachineTree$Walk" "states" "[I", Cond.fieldLink RX2 41 "MachineTree$Walk" "sides" "[I", Cond.fieldLink RX2 31 "MachineTree$Walk" "tapes" "[J", Cond.fieldLink RX2 24 "MachineTree$Walk" "words" "I", Cond.methodLink RX2 106 arraycopyName, Cond.native arraycopyName, Cond.static arraycopyName, Cond.initialized "java/lang/System", Cond.methodLink RX2 59 yX2_symbolNow, Cond.methodLink RX2 63 yX0_codeAt, Cond.methodLink RX2 68 yX2_act, Cond.instanceMethod yX2_act, Cond.selects RX2 yX2_act yX2_act, Cond.code yX2_act cX2_act 3 none, Cond.methodLink RX2 15 Lib.Math.max.name, Cond.methodLink RX2 103 yX2_write, Cond.instanceMethod yX2_write, Cond.selects RX2 yX2_write yX2_write, Cond.code yX2_write cX2_write 5 none]
def wsL_grow_r6 : List Cond := [Cond.methodLink RX2 72 yX2_look, Cond.instanceMethod yX2_look, Cond.selects RX2 yX2_look yX2_look, Cond.code yX2_look cX2_look 3 none, Cond.methodLink RX2 112 yX2_latestSame, Cond.instanceMethod yX2_latestSame, Cond.selects RX2 yX2_latestSame yX2_latestSame, Cond.code yX2_latestSame cX2_latestSame 2 (some .int), Cond.methodLink RX2 119 yX2_sameTape, Cond.instanceMethod yX2_sameTape, Cond.selects RX2 yX2_sameTape yX2_sameTape, Cond.code yX2_sameTape cX2_sameTape 4 (some .boolean), Cond.methodLink RX2 116 yX2_latestDrift, Cond.instanceMethod yX2_latestDrift, Cond.selects RX2 yX2_latestDrift yX2_latestDrift, Cond.code yX2_latestDrift cX2_latestDrift 6 (some .int), Cond.methodLink RX2 123 yX2_sameBehind, Cond.instanceMethod yX2_sameBehind, Cond.selects RX2 yX2_sameBehind yX2_sameBehind, Cond.code yX2_sameBehind cX2_sameBehind 6 (some .boolean), Cond.methodLink RX1 55 yX1_countHalted, Cond.instanceMethod yX1_countHalted, Cond.selects RX1 yX1_countHalted yX1_countHalted, Cond.code yX1_countHalted cX1_countHalted 1 none]
def wsL_grow_r7 : List Cond := [Cond.fieldLink RX1 67 "MachineTree$Tree" "halted" "I", Cond.fieldLink RX1 70 "MachineTree$Tree" "haltedSteps" "I", Cond.fieldLink RX1 76 "MachineTree$Tree" "mostOnes" "I", Cond.methodLink RX1 82 Lib.Math.max.name, Cond.fieldLink RX1 88 "MachineTree$Tree" "bestSteps" "I", Cond.fieldLink RX1 91 "MachineTree$Tree" "bestOnes" "I", Cond.fieldLink RX1 24 "MachineTree$Tree" "best" "LMachineTree$Machine;", Cond.methodLink RX1 94 yX0_copyFrom, Cond.instanceMethod yX0_copyFrom, Cond.selects RX0 yX0_copyFrom yX0_copyFrom, Cond.code yX0_copyFrom cX0_copyFrom 2 none, Cond.methodLink RX0 31 Lib.Math.min.name, Cond.methodLink RX0 34 arraycopyName]
def wsL_grow : List Cond := .codeWith yL_grow cL_grow 4 (some .int) [(0, 9, 12, 13)] :: ((wsL_grow_r1 ++ (wsL_grow_r2 ++ (wsL_grow_r3 ++ (wsL_grow_r4 ++ (wsL_grow_r5 ++ (wsL_grow_r6 ++ wsL_grow_r7)))))) ++ wsX30 ++ wsX10 ++ wsX20 ++ wsX00 ++ (vx_atS RX3 53 "java/lang/IllegalArgumentException" ["java/lang/RuntimeException", "java/lang/Exception"]).filter goodWord)
def wsL_taken : List Cond := .codeWith yL_taken cL_taken 4 (some .int) [(0, 9, 12, 13)] :: ([.classLink RL 13 "java/lang/IllegalArgumentException", .methodLink RL 34 yX3_taken, .instanceMethod yX3_taken, .selects RX3 yX3_taken yX3_taken, .initialized RX3, .code yX3_taken cX3_taken 2 (some .int), .classLink RX3 49 "java/lang/IllegalArgumentException", .initialized "java/lang/IllegalArgumentException", .fieldLink RX3 37 "MachineTree" "tree" "LMachineTree$Tree;"] ++ wsX30 ++ wsX10 ++ (vx_atS RX3 53 "java/lang/IllegalArgumentException" ["java/lang/RuntimeException", "java/lang/Exception"]).filter goodWord)
def wsL_champion : List Cond := .codeWith yL_champion cL_champion 5 (some .int) [(0, 10, 13, 13)] :: ([.classLink RL 13 "java/lang/IllegalArgumentException", .methodLink RL 37 yX3_champion, .instanceMethod yX3_champion, .selects RX3 yX3_champion yX3_champion, .initialized RX3, .code yX3_champion cX3_champion 3 (some .int), .classLink RX3 49 "java/lang/IllegalArgumentException", .initialized "java/lang/IllegalArgumentException", .fieldLink RX3 37 "MachineTree" "tree" "LMachineTree$Tree;", .methodLink RX3 45 yX0_hasPlace, .instanceMethod yX0_hasPlace, .selects RX0 yX0_hasPlace yX0_hasPlace, .initialized RX0, .code yX0_hasPlace cX0_hasPlace 3 (some .boolean), .fieldLink RX0 9 "MachineTree$Machine" "states" "I", .methodLink RX3 62 yX0_codeAt, .instanceMethod yX0_codeAt, .selects RX0 yX0_codeAt yX0_codeAt, .code yX0_codeAt cX0_codeAt 4 (some .int), .fieldLink RX0 15 "MachineTree$Machine" "codes" "[I"] ++ wsX30 ++ wsX10 ++ wsX00 ++ (vx_atS RX3 53 "java/lang/IllegalArgumentException" ["java/lang/RuntimeException", "java/lang/Exception"]).filter goodWord)
def wsL_mean : List Cond := .codeWith yL_mean cL_mean 3 (some .int) [(0, 8, 11, 22)] :: ([.classLink RL 22 "java/lang/IllegalStateException", .methodLink RL 41 yX3_mean, .instanceMethod yX3_mean, .selects RX3 yX3_mean yX3_mean, .initialized RX3, .code yX3_mean cX3_mean 1 (some .float), .classLink RX3 144 "java/lang/IllegalStateException", .initialized "java/lang/IllegalStateException", .fieldLink RX3 37 "MachineTree" "tree" "LMachineTree$Tree;"] ++ wsX30 ++ wsX10 ++ (vx_atS RX3 148 "java/lang/IllegalStateException" ["java/lang/RuntimeException", "java/lang/Exception"]).filter goodWord)
def wsL_law0_r1 : List Cond := [Cond.classLink RL 8 RX3, Cond.instantiable RX3 4, Cond.initialized RX3, Cond.classLink RL 52 RX4, Cond.instantiable RX4 28, Cond.initialized RX4, Cond.arrayClass .long, Cond.arrayClass .double, Cond.methodLink RL 44 yL_cell, Cond.static yL_cell, Cond.initialized RL, Cond.code yL_cell cL_cell 2 (some .int), Cond.methodLink RL 49 yX3_init, Cond.instanceMethod yX3_init, Cond.code yX3_init cX3_init 3 none, Cond.methodLink RX3 1 objectInit, Cond.instanceMethod objectInit, Cond.code objectInit ⟨#[0xb1]⟩ 1 none, Cond.methodLink RX3 9 Lib.Math.min.name, Cond.static Lib.Math.min.name, Cond.initialized "java/lang/Math", Cond.code Lib.Math.min.name Lib.Math.min.code 2 (some .int), Cond.methodLink RX3 15 Lib.Math.max.name, Cond.static Lib.Math.max.name]
def wsL_law0_r2 : List Cond := [Cond.code Lib.Math.max.name Lib.Math.max.code 2 (some .int), Cond.classLink RX3 18 RX0, Cond.instantiable RX0 2, Cond.initialized RX0, Cond.fieldLink RX3 23 "MachineTree" "machine" "LMachineTree$Machine;", Cond.classLink RX3 27 RX2, Cond.instantiable RX2 16, Cond.initialized RX2, Cond.fieldLink RX3 30 "MachineTree" "walk" "LMachineTree$Walk;", Cond.classLink RX3 34 RX1, Cond.instantiable RX1 18, Cond.initialized RX1, Cond.fieldLink RX3 37 "MachineTree" "tree" "LMachineTree$Tree;", Cond.fieldLink RX3 41 "MachineTree" "walked" "Z", Cond.methodLink RX3 20 yX0_init, Cond.instanceMethod yX0_init, Cond.code yX0_init cX0_init 2 none, Cond.methodLink RX0 3 objectInit, Cond.fieldLink RX0 9 "MachineTree$Machine" "states" "I", Cond.arrayClass .int, Cond.fieldLink RX0 15 "MachineTree$Machine" "codes" "[I", Cond.methodLink RX0 19 yJ7_fill_53178, Cond.static yJ7_fill_53178, Cond.initialized RJ7]
def wsL_law0_r3 : List Cond := [Cond.code yJ7_fill_53178 cJ7_fill_53178 4 none, Cond.methodLink RX3 29 yX2_init, Cond.instanceMethod yX2_init, Cond.code yX2_init cX2_init 2 none, Cond.methodLink RX2 3 objectInit, Cond.methodLink RX2 9 Lib.Math.min.name, Cond.methodLink RX2 15 Lib.Math.max.name, Cond.fieldLink RX2 18 "MachineTree$Walk" "reach" "I", Cond.fieldLink RX2 24 "MachineTree$Walk" "words" "I", Cond.fieldLink RX2 27 "MachineTree$Walk" "tape" "[J", Cond.fieldLink RX2 31 "MachineTree$Walk" "tapes" "[J", Cond.fieldLink RX2 34 "MachineTree$Walk" "heads" "[I", Cond.fieldLink RX2 38 "MachineTree$Walk" "states" "[I", Cond.fieldLink RX2 41 "MachineTree$Walk" "sides" "[I", Cond.methodLink RX3 36 yX1_init, Cond.instanceMethod yX1_init, Cond.code yX1_init cX1_init 2 none, Cond.methodLink RX1 3 objectInit, Cond.fieldLink RX1 9 "MachineTree$Tree" "states" "I", Cond.classLink RX1 15 RX0, Cond.fieldLink RX1 20 "MachineTree$Tree" "current" "LMachineTree$Machine;", Cond.fieldLink RX1 24 "MachineTree$Tree" "best" "LMachineTree$Machine;", Cond.classLink RX1 27 RX2, Cond.fieldLink RX1 30 "MachineTree$Tree" "way" "LMachineTree$Walk;"]
def wsL_law0_r4 : List Cond := [Cond.fieldLink RX1 34 "MachineTree$Tree" "placeStates" "[I", Cond.fieldLink RX1 38 "MachineTree$Tree" "placeSymbols" "[I", Cond.fieldLink RX1 41 "MachineTree$Tree" "lastCodes" "[I", Cond.methodLink RX1 17 yX0_init, Cond.methodLink RX1 29 yX2_init, Cond.methodLink RL 54 yX4_init, Cond.instanceMethod yX4_init, Cond.code yX4_init cX4_init 3 none, Cond.methodLink RX4 1 objectInit, Cond.fieldLink RX4 7 "MachineTreeModel" "machine" "[I", Cond.fieldLink RX4 13 "MachineTreeModel" "tree" "[I", Cond.fieldLink RX4 16 "MachineTreeModel" "best" "[I", Cond.fieldLink RX4 19 "MachineTreeModel" "tape" "[I", Cond.fieldLink RX4 22 "MachineTreeModel" "back" "[I", Cond.fieldLink RX4 25 "MachineTreeModel" "states" "[I", Cond.fieldLink RX4 28 "MachineTreeModel" "heads" "[I", Cond.fieldLink RX4 31 "MachineTreeModel" "records" "[I", Cond.fieldLink RX4 34 "MachineTreeModel" "changed" "[I", Cond.fieldLink RX4 37 "MachineTreeModel" "figures" "[I", Cond.fieldLink RX4 40 "MachineTreeModel" "kept" "[I", Cond.fieldLink RX4 43 "MachineTreeModel" "depth" "I", Cond.fieldLink RX4 47 "MachineTreeModel" "place" "[I", Cond.fieldLink RX4 50 "MachineTreeModel" "last" "[I", Cond.fieldLink RX4 53 "MachineTreeModel" "counts" "[I"]
def wsL_law0_r5 : List Cond := [Cond.fieldLink RX4 56 "MachineTreeModel" "n" "I", Cond.methodLink RL 55 yL_set, Cond.static yL_set, Cond.codeWith yL_set cL_set 6 (some .int) [(0, 12, 15, 13)], Cond.classLink RL 13 "java/lang/IllegalArgumentException", Cond.methodLink RL 7 yX3_set, Cond.instanceMethod yX3_set, Cond.selects RX3 yX3_set yX3_set, Cond.code yX3_set cX3_set 5 (some .int), Cond.classLink RX3 49 "java/lang/IllegalArgumentException", Cond.initialized "java/lang/IllegalArgumentException", Cond.methodLink RX3 45 yX0_hasPlace, Cond.instanceMethod yX0_hasPlace, Cond.selects RX0 yX0_hasPlace yX0_hasPlace, Cond.code yX0_hasPlace cX0_hasPlace 3 (some .boolean), Cond.methodLink RX3 56 yX0_allows, Cond.instanceMethod yX0_allows, Cond.selects RX0 yX0_allows yX0_allows, Cond.code yX0_allows cX0_allows 2 (some .boolean), Cond.methodLink RX3 62 yX0_codeAt, Cond.instanceMethod yX0_codeAt, Cond.selects RX0 yX0_codeAt yX0_codeAt, Cond.code yX0_codeAt cX0_codeAt 4 (some .int), Cond.methodLink RX3 65 yX0_put]
def wsL_law0_r6 : List Cond := [Cond.instanceMethod yX0_put, Cond.selects RX0 yX0_put yX0_put, Cond.code yX0_put cX0_put 5 none, Cond.methodLink RL 58 yX4_set, Cond.instanceMethod yX4_set, Cond.selects RX4 yX4_set yX4_set, Cond.code yX4_set cX4_set 5 (some .int), Cond.fieldLink RX4 59 "MachineTreeModel" "thrown" "I", Cond.fieldLink RX4 66 "MachineTreeModel" "ran" "Z", Cond.methodLink RX4 62 yX4_refuse, Cond.instanceMethod yX4_refuse, Cond.selects RX4 yX4_refuse yX4_refuse, Cond.code yX4_refuse cX4_refuse 2 (some .int), Cond.methodLink RL 59 yX4_thrown, Cond.instanceMethod yX4_thrown, Cond.selects RX4 yX4_thrown yX4_thrown, Cond.code yX4_thrown cX4_thrown 1 (some .int), Cond.methodLink RL 63 yL_run, Cond.static yL_run, Cond.codeWith yL_run cL_run 4 (some .int) [(0, 9, 12, 13)], Cond.methodLink RL 15 yX3_run, Cond.instanceMethod yX3_run, Cond.selects RX3 yX3_run yX3_run, Cond.code yX3_run cX3_run 2 (some .int)]
def wsL_law0_r7 : List Cond := [Cond.methodLink RX3 71 yX2_follow, Cond.instanceMethod yX2_follow, Cond.selects RX2 yX2_follow yX2_follow, Cond.code yX2_follow cX2_follow 5 none, Cond.fieldLink RX2 47 "MachineTree$Walk" "steps" "I", Cond.fieldLink RX2 50 "MachineTree$Walk" "outcome" "I", Cond.fieldLink RX2 53 "MachineTree$Walk" "state" "I", Cond.fieldLink RX2 56 "MachineTree$Walk" "head" "I", Cond.methodLink RX2 44 yX2_begin, Cond.instanceMethod yX2_begin, Cond.selects RX2 yX2_begin yX2_begin, Cond.code yX2_begin cX2_begin 1 none, Cond.fieldLink RX2 85 "MachineTree$Walk" "period" "I", Cond.fieldLink RX2 88 "MachineTree$Walk" "drift" "I", Cond.fieldLink RX2 91 "MachineTree$Walk" "ones" "I", Cond.fieldLink RX2 94 "MachineTree$Walk" "left" "I", Cond.fieldLink RX2 97 "MachineTree$Walk" "right" "I", Cond.methodLink RX2 79 yJ7_fill_d0a16, Cond.static yJ7_fill_d0a16, Cond.code yJ7_fill_d0a16 cJ7_fill_d0a16 5 none, Cond.methodLink RX2 100 yX2_note, Cond.instanceMethod yX2_note, Cond.selects RX2 yX2_note yX2_note, Cond.code yX2_note cX2_note 2 none]
def wsL_law0_r8 : List Cond := [Cond.methodLink RX2 106 arraycopyName, Cond.native arraycopyName, Cond.static arraycopyName, Cond.initialized "java/lang/System", Cond.methodLink RX2 59 yX2_symbolNow, Cond.instanceMethod yX2_symbolNow, Cond.selects RX2 yX2_symbolNow yX2_symbolNow, Cond.code yX2_symbolNow cX2_symbolNow 2 (some .int), Cond.methodLink RX2 75 yX2_symbolIn, Cond.instanceMethod yX2_symbolIn, Cond.selects RX2 yX2_symbolIn yX2_symbolIn, Cond.code yX2_symbolIn cX2_symbolIn 6 (some .int), Cond.methodLink RX2 63 yX0_codeAt, Cond.methodLink RX2 68 yX2_act, Cond.instanceMethod yX2_act, Cond.selects RX2 yX2_act yX2_act, Cond.code yX2_act cX2_act 3 none, Cond.methodLink RX2 103 yX2_write, Cond.instanceMethod yX2_write, Cond.selects RX2 yX2_write yX2_write, Cond.code yX2_write cX2_write 5 none, Cond.methodLink RX2 72 yX2_look, Cond.instanceMethod yX2_look, Cond.selects RX2 yX2_look yX2_look]
def wsL_law0_r9 : List Cond := [Cond.code yX2_look cX2_look 3 none, Cond.methodLink RX2 112 yX2_latestSame, Cond.instanceMethod yX2_latestSame, Cond.selects RX2 yX2_latestSame yX2_latestSame, Cond.code yX2_latestSame cX2_latestSame 2 (some .int), Cond.methodLink RX2 119 yX2_sameTape, Cond.instanceMethod yX2_sameTape, Cond.selects RX2 yX2_sameTape yX2_sameTape, Cond.code yX2_sameTape cX2_sameTape 4 (some .boolean), Cond.methodLink RX2 116 yX2_latestDrift, Cond.instanceMethod yX2_latestDrift, Cond.selects RX2 yX2_latestDrift yX2_latestDrift, Cond.code yX2_latestDrift cX2_latestDrift 6 (some .int), Cond.methodLink RX2 123 yX2_sameBehind, Cond.instanceMethod yX2_sameBehind, Cond.selects RX2 yX2_sameBehind yX2_sameBehind, Cond.code yX2_sameBehind cX2_sameBehind 6 (some .boolean), Cond.methodLink RL 66 yX4_run, Cond.instanceMethod yX4_run, Cond.selects RX4 yX4_run yX4_run, Cond.code yX4_run cX4_run 4 (some .int), Cond.fieldLink RX4 70 "MachineTreeModel" "steps" "I", Cond.fieldLink RX4 73 "MachineTreeModel" "period" "I", Cond.fieldLink RX4 76 "MachineTreeModel" "drift" "I"]
def wsL_law0_r10 : List Cond := [Cond.fieldLink RX4 79 "MachineTreeModel" "left" "I", Cond.fieldLink RX4 82 "MachineTreeModel" "right" "I", Cond.methodLink RX4 103 yX4_outcome, Cond.instanceMethod yX4_outcome, Cond.selects RX4 yX4_outcome yX4_outcome, Cond.code yX4_outcome cX4_outcome 3 (some .int), Cond.methodLink RX4 89 yX4_begin, Cond.instanceMethod yX4_begin, Cond.selects RX4 yX4_begin yX4_begin, Cond.code yX4_begin cX4_begin 2 none, Cond.methodLink RX4 92 yX4_step, Cond.instanceMethod yX4_step, Cond.selects RX4 yX4_step yX4_step, Cond.code yX4_step cX4_step 6 (some .boolean), Cond.methodLink RX4 96 yX4_cycles, Cond.instanceMethod yX4_cycles, Cond.selects RX4 yX4_cycles yX4_cycles, Cond.code yX4_cycles cX4_cycles 4 (some .boolean), Cond.methodLink RX4 100 yX4_drifts, Cond.instanceMethod yX4_drifts, Cond.selects RX4 yX4_drifts yX4_drifts, Cond.code yX4_drifts cX4_drifts 5 (some .boolean), Cond.methodLink RX4 85 yX4_alike, Cond.instanceMethod yX4_alike]
def wsL_law0_r11 : List Cond := [Cond.selects RX4 yX4_alike yX4_alike, Cond.code yX4_alike cX4_alike 6 (some .boolean), Cond.methodLink RX4 107 yX4_ones, Cond.instanceMethod yX4_ones, Cond.selects RX4 yX4_ones yX4_ones, Cond.code yX4_ones cX4_ones 3 (some .int), Cond.methodLink RL 67 yL_figure, Cond.static yL_figure, Cond.codeWith yL_figure cL_figure 4 (some .int) [(0, 9, 12, 13), (0, 9, 15, 22)], Cond.classLink RL 22 "java/lang/IllegalStateException", Cond.methodLink RL 19 yX3_figure, Cond.instanceMethod yX3_figure, Cond.selects RX3 yX3_figure yX3_figure, Cond.code yX3_figure cX3_figure 2 (some .int), Cond.methodLink RX3 81 yX3_needWalk, Cond.instanceMethod yX3_needWalk, Cond.selects RX3 yX3_needWalk yX3_needWalk, Cond.code yX3_needWalk cX3_needWalk 1 none, Cond.classLink RX3 144 "java/lang/IllegalStateException", Cond.initialized "java/lang/IllegalStateException", Cond.methodLink RL 69 yX4_figure, Cond.instanceMethod yX4_figure, Cond.selects RX4 yX4_figure yX4_figure, Cond.code yX4_figure cX4_figure 2 (some .int)]
def wsL_law0_r12 : List Cond := [Cond.methodLink RL 70 yL_cell_, Cond.static yL_cell_, Cond.codeWith yL_cell_ cL_cell_ 4 (some .int) [(0, 9, 12, 22)], Cond.methodLink RL 24 yX3_cell, Cond.instanceMethod yX3_cell, Cond.selects RX3 yX3_cell yX3_cell, Cond.code yX3_cell cX3_cell 2 (some .int), Cond.methodLink RX3 108 yX2_symbolNow, Cond.methodLink RL 72 yX4_cell, Cond.instanceMethod yX4_cell, Cond.selects RX4 yX4_cell yX4_cell, Cond.code yX4_cell cX4_cell 2 (some .int), Cond.methodLink RL 73 yL_share, Cond.static yL_share, Cond.codeWith yL_share cL_share 3 (some .int) [(0, 8, 11, 22)], Cond.methodLink RL 27 yX3_share, Cond.instanceMethod yX3_share, Cond.selects RX3 yX3_share yX3_share, Cond.code yX3_share cX3_share 2 (some .float), Cond.methodLink RL 76 yX4_share, Cond.instanceMethod yX4_share, Cond.selects RX4 yX4_share yX4_share, Cond.code yX4_share cX4_share 1 (some .float), Cond.methodLink RL 77 yL_grow]
def wsL_law0_r13 : List Cond := [Cond.static yL_grow, Cond.codeWith yL_grow cL_grow 4 (some .int) [(0, 9, 12, 13)], Cond.methodLink RL 31 yX3_grow, Cond.instanceMethod yX3_grow, Cond.selects RX3 yX3_grow yX3_grow, Cond.code yX3_grow cX3_grow 3 (some .int), Cond.methodLink RX3 114 yX1_takeNext, Cond.instanceMethod yX1_takeNext, Cond.selects RX1 yX1_takeNext yX1_takeNext, Cond.code yX1_takeNext cX1_takeNext 1 (some .boolean), Cond.fieldLink RX1 58 "MachineTree$Tree" "cycling" "I", Cond.fieldLink RX1 61 "MachineTree$Tree" "drifting" "I", Cond.fieldLink RX1 64 "MachineTree$Tree" "open" "I", Cond.methodLink RX1 44 yX1_moveOn, Cond.instanceMethod yX1_moveOn, Cond.selects RX1 yX1_moveOn yX1_moveOn, Cond.code yX1_moveOn cX1_moveOn 1 (some .boolean), Cond.fieldLink RX1 98 "MachineTree$Tree" "ended" "Z", Cond.fieldLink RX1 102 "MachineTree$Tree" "begun" "Z", Cond.methodLink RX1 105 yX0_put, Cond.methodLink RX1 109 yX1_hasChildren, Cond.instanceMethod yX1_hasChildren, Cond.selects RX1 yX1_hasChildren yX1_hasChildren, Cond.code yX1_hasChildren cX1_hasChildren 1 (some .boolean)]
def wsL_law0_r14 : List Cond := [Cond.fieldLink RX1 118 "MachineTree$Tree" "depth" "I", Cond.methodLink RX1 112 yX1_toFirstChild, Cond.instanceMethod yX1_toFirstChild, Cond.selects RX1 yX1_toFirstChild yX1_toFirstChild, Cond.code yX1_toFirstChild cX1_toFirstChild 2 none, Cond.methodLink RX1 135 Lib.Math.min.name, Cond.methodLink RX1 124 yX2_symbolNow, Cond.methodLink RX1 131 yX0_greatestNext, Cond.instanceMethod yX0_greatestNext, Cond.selects RX0 yX0_greatestNext yX0_greatestNext, Cond.code yX0_greatestNext cX0_greatestNext 6 (some .int), Cond.methodLink RX0 25 Lib.Math.max.name, Cond.methodLink RX1 115 yX1_toNextBranch, Cond.instanceMethod yX1_toNextBranch, Cond.selects RX1 yX1_toNextBranch yX1_toNextBranch, Cond.code yX1_toNextBranch cX1_toNextBranch 5 (some .boolean), Cond.methodLink RX1 138 yX0_codeAt, Cond.methodLink RX1 48 yX2_follow, Cond.methodLink RX1 55 yX1_countHalted, Cond.instanceMethod yX1_countHalted, Cond.selects RX1 yX1_countHalted yX1_countHalted, Cond.code yX1_countHalted cX1_countHalted 1 none, Cond.fieldLink RX1 67 "MachineTree$Tree" "halted" "I", Cond.fieldLink RX1 70 "MachineTree$Tree" "haltedSteps" "I"]
def wsL_law0_r15 : List Cond := [Cond.fieldLink RX1 76 "MachineTree$Tree" "mostOnes" "I", Cond.methodLink RX1 82 Lib.Math.max.name, Cond.fieldLink RX1 88 "MachineTree$Tree" "bestSteps" "I", Cond.fieldLink RX1 91 "MachineTree$Tree" "bestOnes" "I", Cond.methodLink RX1 94 yX0_copyFrom, Cond.instanceMethod yX0_copyFrom, Cond.selects RX0 yX0_copyFrom yX0_copyFrom, Cond.code yX0_copyFrom cX0_copyFrom 2 none, Cond.methodLink RX0 31 Lib.Math.min.name, Cond.methodLink RX0 34 arraycopyName, Cond.methodLink RL 79 yX4_grow, Cond.instanceMethod yX4_grow, Cond.selects RX4 yX4_grow yX4_grow, Cond.code yX4_grow cX4_grow 3 (some .int), Cond.fieldLink RX4 132 "MachineTreeModel" "over" "Z", Cond.methodLink RX4 135 yX4_take, Cond.instanceMethod yX4_take, Cond.selects RX4 yX4_take yX4_take, Cond.code yX4_take cX4_take 4 none, Cond.fieldLink RX4 111 "MachineTreeModel" "sum" "I", Cond.fieldLink RX4 114 "MachineTreeModel" "mostOnes" "I", Cond.fieldLink RX4 117 "MachineTreeModel" "championSteps" "I", Cond.fieldLink RX4 120 "MachineTreeModel" "championOnes" "I", Cond.methodLink RX4 123 yX4_actions]
def wsL_law0_r16 : List Cond := [Cond.instanceMethod yX4_actions, Cond.selects RX4 yX4_actions yX4_actions, Cond.code yX4_actions cX4_actions 3 (some .int), Cond.methodLink RX4 126 yX4_greatest, Cond.instanceMethod yX4_greatest, Cond.selects RX4 yX4_greatest yX4_greatest, Cond.code yX4_greatest cX4_greatest 3 (some .int), Cond.methodLink RX4 129 yX4_goOn, Cond.instanceMethod yX4_goOn, Cond.selects RX4 yX4_goOn yX4_goOn, Cond.code yX4_goOn cX4_goOn 3 none, Cond.methodLink RL 80 yL_taken, Cond.static yL_taken, Cond.codeWith yL_taken cL_taken 4 (some .int) [(0, 9, 12, 13)], Cond.methodLink RL 34 yX3_taken, Cond.instanceMethod yX3_taken, Cond.selects RX3 yX3_taken yX3_taken, Cond.code yX3_taken cX3_taken 2 (some .int), Cond.methodLink RL 82 yX4_taken, Cond.instanceMethod yX4_taken, Cond.selects RX4 yX4_taken yX4_taken, Cond.code yX4_taken cX4_taken 2 (some .int), Cond.methodLink RL 83 yL_champion, Cond.static yL_champion]
def wsL_law0_r17 : List Cond := [Cond.codeWith yL_champion cL_champion 5 (some .int) [(0, 10, 13, 13)], Cond.methodLink RL 37 yX3_champion, Cond.instanceMethod yX3_champion, Cond.selects RX3 yX3_champion yX3_champion, Cond.code yX3_champion cX3_champion 3 (some .int), Cond.methodLink RL 86 yX4_champion, Cond.instanceMethod yX4_champion, Cond.selects RX4 yX4_champion yX4_champion, Cond.code yX4_champion cX4_champion 3 (some .int), Cond.methodLink RL 87 yL_mean, Cond.static yL_mean, Cond.codeWith yL_mean cL_mean 3 (some .int) [(0, 8, 11, 22)], Cond.methodLink RL 41 yX3_mean, Cond.instanceMethod yX3_mean, Cond.selects RX3 yX3_mean yX3_mean, Cond.code yX3_mean cX3_mean 1 (some .float), Cond.methodLink RL 89 yX4_mean, Cond.instanceMethod yX4_mean, Cond.selects RX4 yX4_mean yX4_mean, Cond.code yX4_mean cX4_mean 1 (some .float)]
def wsL_law0 : List Cond := (wsL_law0_r1 ++ (wsL_law0_r2 ++ (wsL_law0_r3 ++ (wsL_law0_r4 ++ (wsL_law0_r5 ++ (wsL_law0_r6 ++ (wsL_law0_r7 ++ (wsL_law0_r8 ++ (wsL_law0_r9 ++ (wsL_law0_r10 ++ (wsL_law0_r11 ++ (wsL_law0_r12 ++ (wsL_law0_r13 ++ (wsL_law0_r14 ++ (wsL_law0_r15 ++ (wsL_law0_r16 ++ wsL_law0_r17)))))))))))))))) ++ wsX30 ++ wsX40 ++ wsX00 ++ wsX20 ++ wsX10 ++ ([] : List Cond)
def wsL_law : List Cond := wsL_law0 ++ (vx_atS RX3 53 "java/lang/IllegalArgumentException" ["java/lang/RuntimeException", "java/lang/Exception"]).filter goodWord ++ (vx_atS RX3 148 "java/lang/IllegalStateException" ["java/lang/RuntimeException", "java/lang/Exception"]).filter goodWord
end
section
set_option maxRecDepth 20000 in
theorem in_wsL_law0_r1 : ∀ w ∈ wsL_law0_r1, w ∈ lw_tbl := fun w h => (goodIn_p wsL_law0_r1 [235, 47, 50, 53] (by decide +kernel) (by decide +kernel) w h).1
set_option maxRecDepth 20000 in
theorem in_wsL_law0_r2 : ∀ w ∈ wsL_law0_r2, w ∈ lw_tbl := fun w h => (goodIn_p wsL_law0_r2 [56, 61] (by decide +kernel) (by decide +kernel) w h).1
set_option maxRecDepth 20000 in
theorem in_wsL_law0_r3 : ∀ w ∈ wsL_law0_r3, w ∈ lw_tbl := fun w h => (goodIn_p wsL_law0_r3 [65, 78, 150] (by decide +kernel) (by decide +kernel) w h).1
set_option maxRecDepth 20000 in
theorem in_wsL_law0_r4 : ∀ w ∈ wsL_law0_r4, w ∈ lw_tbl := fun w h => (goodIn_p wsL_law0_r4 [511] (by decide +kernel) (by decide +kernel) w h).1
set_option maxRecDepth 20000 in
theorem in_wsL_law0_r5 : ∀ w ∈ wsL_law0_r5, w ∈ lw_tbl := fun w h => (goodIn_p wsL_law0_r5 [243, 247, 318, 323] (by decide +kernel) (by decide +kernel) w h).1
set_option maxRecDepth 20000 in
theorem in_wsL_law0_r6 : ∀ w ∈ wsL_law0_r6, w ∈ lw_tbl := fun w h => (goodIn_p wsL_law0_r6 [327, 605, 609, 601, 334] (by decide +kernel) (by decide +kernel) w h).1
set_option maxRecDepth 20000 in
theorem in_wsL_law0_r7 : ∀ w ∈ wsL_law0_r7, w ∈ lw_tbl := fun w h => (goodIn_p wsL_law0_r7 [339, 343, 346, 350] (by decide +kernel) (by decide +kernel) w h).1
set_option maxRecDepth 20000 in
theorem in_wsL_law0_r8 : ∀ w ∈ wsL_law0_r8, w ∈ lw_tbl := fun w h => (goodIn_p wsL_law0_r8 [357, 361, 366, 370] (by decide +kernel) (by decide +kernel) w h).1
set_option maxRecDepth 20000 in
theorem in_wsL_law0_r9 : ∀ w ∈ wsL_law0_r9, w ∈ lw_tbl := fun w h => (goodIn_p wsL_law0_r9 [374, 378, 382, 386, 390, 613] (by decide +kernel) (by decide +kernel) w h).1
set_option maxRecDepth 20000 in
theorem in_wsL_law0_r10 : ∀ w ∈ wsL_law0_r10, w ∈ lw_tbl := fun w h => (goodIn_p wsL_law0_r10 [617, 621, 625, 629, 633] (by decide +kernel) (by decide +kernel) w h).1
set_option maxRecDepth 20000 in
theorem in_wsL_law0_r11 : ∀ w ∈ wsL_law0_r11, w ∈ lw_tbl := fun w h => (goodIn_p wsL_law0_r11 [637, 641, 398, 403, 645] (by decide +kernel) (by decide +kernel) w h).1
set_option maxRecDepth 20000 in
theorem in_wsL_law0_r12 : ∀ w ∈ wsL_law0_r12, w ∈ lw_tbl := fun w h => (goodIn_p wsL_law0_r12 [426, 649, 434, 653] (by decide +kernel) (by decide +kernel) w h).1
set_option maxRecDepth 20000 in
theorem in_wsL_law0_r13 : ∀ w ∈ wsL_law0_r13, w ∈ lw_tbl := fun w h => (goodIn_p wsL_law0_r13 [441, 446, 450, 455] (by decide +kernel) (by decide +kernel) w h).1
set_option maxRecDepth 20000 in
theorem in_wsL_law0_r14 : ∀ w ∈ wsL_law0_r14, w ∈ lw_tbl := fun w h => (goodIn_p wsL_law0_r14 [459, 464, 470, 476] (by decide +kernel) (by decide +kernel) w h).1
set_option maxRecDepth 20000 in
theorem in_wsL_law0_r15 : ∀ w ∈ wsL_law0_r15, w ∈ lw_tbl := fun w h => (goodIn_p wsL_law0_r15 [481, 657, 661] (by decide +kernel) (by decide +kernel) w h).1
set_option maxRecDepth 20000 in
theorem in_wsL_law0_r16 : ∀ w ∈ wsL_law0_r16, w ∈ lw_tbl := fun w h => (goodIn_p wsL_law0_r16 [665, 669, 673, 490, 677] (by decide +kernel) (by decide +kernel) w h).1
set_option maxRecDepth 20000 in
theorem in_wsL_law0_r17 : ∀ w ∈ wsL_law0_r17, w ∈ lw_tbl := fun w h => (goodIn_p wsL_law0_r17 [498, 681, 505, 685] (by decide +kernel) (by decide +kernel) w h).1
set_option maxRecDepth 20000 in
theorem in_wsX30_t : ∀ w ∈ wsX30, w ∈ lw_tbl := by decide +kernel
set_option maxRecDepth 20000 in
theorem in_wsX40_t : ∀ w ∈ wsX40, w ∈ lw_tbl := by decide +kernel
set_option maxRecDepth 20000 in
theorem in_wsX00_t : ∀ w ∈ wsX00, w ∈ lw_tbl := by decide +kernel
set_option maxRecDepth 20000 in
theorem in_wsX20_t : ∀ w ∈ wsX20, w ∈ lw_tbl := by decide +kernel
set_option maxRecDepth 20000 in
theorem in_wsX10_t : ∀ w ∈ wsX10, w ∈ lw_tbl := by decide +kernel
theorem wsL_law_in0 : ∀ w ∈ wsL_law0, w ∈ lw_tbl := List.forall_mem_append.mpr ⟨List.forall_mem_append.mpr ⟨List.forall_mem_append.mpr ⟨List.forall_mem_append.mpr ⟨List.forall_mem_append.mpr ⟨List.forall_mem_append.mpr ⟨List.forall_mem_append.mpr ⟨in_wsL_law0_r1, List.forall_mem_append.mpr ⟨in_wsL_law0_r2, List.forall_mem_append.mpr ⟨in_wsL_law0_r3, List.forall_mem_append.mpr ⟨in_wsL_law0_r4, List.forall_mem_append.mpr ⟨in_wsL_law0_r5, List.forall_mem_append.mpr ⟨in_wsL_law0_r6, List.forall_mem_append.mpr ⟨in_wsL_law0_r7, List.forall_mem_append.mpr ⟨in_wsL_law0_r8, List.forall_mem_append.mpr ⟨in_wsL_law0_r9, List.forall_mem_append.mpr ⟨in_wsL_law0_r10, List.forall_mem_append.mpr ⟨in_wsL_law0_r11, List.forall_mem_append.mpr ⟨in_wsL_law0_r12, List.forall_mem_append.mpr ⟨in_wsL_law0_r13, List.forall_mem_append.mpr ⟨in_wsL_law0_r14, List.forall_mem_append.mpr ⟨in_wsL_law0_r15, List.forall_mem_append.mpr ⟨in_wsL_law0_r16, in_wsL_law0_r17⟩⟩⟩⟩⟩⟩⟩⟩⟩⟩⟩⟩⟩⟩⟩⟩, in_wsX30_t⟩, in_wsX40_t⟩, in_wsX00_t⟩, in_wsX20_t⟩, in_wsX10_t⟩, fun _ h => absurd h List.not_mem_nil⟩
theorem wsL_law_x0 : ∀ w ∈ (vx_atS RX3 53 "java/lang/IllegalArgumentException" ["java/lang/RuntimeException", "java/lang/Exception"]).filter goodWord, w ∈ lw_tbl := by decide +kernel
theorem wsL_law_x1 : ∀ w ∈ (vx_atS RX3 148 "java/lang/IllegalStateException" ["java/lang/RuntimeException", "java/lang/Exception"]).filter goodWord, w ∈ lw_tbl := by decide +kernel
theorem wsL_law_in : ∀ w ∈ wsL_law, w ∈ lw_tbl := fun w h => (List.mem_append.mp h).elim (fun h => (List.mem_append.mp h).elim (fun h => wsL_law_in0 w h) (fun h => wsL_law_x0 w h)) (fun h => wsL_law_x1 w h)
theorem inlX0 : ∀ w ∈ wsX00, w ∈ wsL_law := fun _ h => List.mem_append_left _ (List.mem_append_left _ (List.mem_append_left _ (List.mem_append_left _ (List.mem_append_left _ (List.mem_append_right _ h)))))
theorem inX0 : ∀ w ∈ wsX00, w ∈ lw_tbl := fun w h => wsL_law_in w (inlX0 w h)
theorem inlX1 : ∀ w ∈ wsX10, w ∈ wsL_law := fun _ h => List.mem_append_left _ (List.mem_append_left _ (List.mem_append_left _ (List.mem_append_right _ h)))
theorem inX1 : ∀ w ∈ wsX10, w ∈ lw_tbl := fun w h => wsL_law_in w (inlX1 w h)
theorem inlX2 : ∀ w ∈ wsX20, w ∈ wsL_law := fun _ h => List.mem_append_left _ (List.mem_append_left _ (List.mem_append_left _ (List.mem_append_left _ (List.mem_append_right _ h))))
theorem inX2 : ∀ w ∈ wsX20, w ∈ lw_tbl := fun w h => wsL_law_in w (inlX2 w h)
theorem inlX3 : ∀ w ∈ wsX30, w ∈ wsL_law := fun _ h => List.mem_append_left _ (List.mem_append_left _ (List.mem_append_left _ (List.mem_append_left _ (List.mem_append_left _ (List.mem_append_left _ (List.mem_append_left _ (List.mem_append_right _ h)))))))
theorem inX3 : ∀ w ∈ wsX30, w ∈ lw_tbl := fun w h => wsL_law_in w (inlX3 w h)
theorem inlX4 : ∀ w ∈ wsX40, w ∈ wsL_law := fun _ h => List.mem_append_left _ (List.mem_append_left _ (List.mem_append_left _ (List.mem_append_left _ (List.mem_append_left _ (List.mem_append_left _ (List.mem_append_right _ h))))))
theorem inX4 : ∀ w ∈ wsX40, w ∈ lw_tbl := fun w h => wsL_law_in w (inlX4 w h)
theorem inJ9 : ∀ w ∈ wsJ90, w ∈ lw_tbl := by decide +kernel
theorem inJ0 : ∀ w ∈ wsJ00, w ∈ lw_tbl := by decide +kernel
theorem inJ10 : ∀ w ∈ wsJ100, w ∈ lw_tbl := by decide +kernel
theorem inJ7 : ∀ w ∈ wsJ70, w ∈ lw_tbl := by decide +kernel
set_option maxRecDepth 20000 in
theorem ggX0_init_J7_fill_53178 : GoodIn wsX0_init wsJ7_fill_53178 := goodIn_r _ [10] (by decide +kernel) (by decide +kernel)
set_option maxRecDepth 20000 in
theorem gX0_init_J7_fill_53178 : GoodIn wsX0_init (va_wsS RX0 19 yJ7_fill_53178 wsJ7_fill_53178) := goodIn_app (goodIn_of _ (by decide +kernel)) ggX0_init_J7_fill_53178
theorem dX0_init_0 : decode cX0_init 0 = .ok (.aload_n 0, 1) := by decide +kernel
theorem dX0_init_1 : decode cX0_init 1 = .ok (.invokespecial 3, 3) := by decide +kernel
theorem dX0_init_4 : decode cX0_init 4 = .ok (.aload_n 0, 1) := by decide +kernel
theorem dX0_init_5 : decode cX0_init 5 = .ok (.iload_n 1, 1) := by decide +kernel
theorem dX0_init_6 : decode cX0_init 6 = .ok (.putfield 9, 3) := by decide +kernel
theorem dX0_init_9 : decode cX0_init 9 = .ok (.aload_n 0, 1) := by decide +kernel
theorem dX0_init_10 : decode cX0_init 10 = .ok (.bipush 8, 2) := by decide +kernel
theorem dX0_init_12 : decode cX0_init 12 = .ok (.newarray .int, 2) := by decide +kernel
theorem dX0_init_14 : decode cX0_init 14 = .ok (.putfield 15, 3) := by decide +kernel
theorem dX0_init_17 : decode cX0_init 17 = .ok (.aload_n 0, 1) := by decide +kernel
theorem dX0_init_18 : decode cX0_init 18 = .ok (.getfield 15, 3) := by decide +kernel
theorem dX0_init_21 : decode cX0_init 21 = .ok (.iconst (-1), 1) := by decide +kernel
theorem dX0_init_22 : decode cX0_init 22 = .ok (.invokestatic 19, 3) := by decide +kernel
theorem dX0_init_25 : decode cX0_init 25 = .ok (.return_, 1) := by decide +kernel
theorem dX0_hasPlace_0 : decode cX0_hasPlace 0 = .ok (.iload_n 1, 1) := by decide +kernel
theorem dX0_hasPlace_1 : decode cX0_hasPlace 1 = .ok (.ifCond .lt 24, 3) := by decide +kernel
theorem dX0_hasPlace_4 : decode cX0_hasPlace 4 = .ok (.iload_n 1, 1) := by decide +kernel
theorem dX0_hasPlace_5 : decode cX0_hasPlace 5 = .ok (.aload_n 0, 1) := by decide +kernel
theorem dX0_hasPlace_6 : decode cX0_hasPlace 6 = .ok (.getfield 9, 3) := by decide +kernel
theorem dX0_hasPlace_9 : decode cX0_hasPlace 9 = .ok (.if_icmp .ge 16, 3) := by decide +kernel
theorem dX0_hasPlace_12 : decode cX0_hasPlace 12 = .ok (.iload_n 2, 1) := by decide +kernel
theorem dX0_hasPlace_13 : decode cX0_hasPlace 13 = .ok (.ifCond .eq 8, 3) := by decide +kernel
theorem dX0_hasPlace_16 : decode cX0_hasPlace 16 = .ok (.iload_n 2, 1) := by decide +kernel
theorem dX0_hasPlace_17 : decode cX0_hasPlace 17 = .ok (.iconst 1, 1) := by decide +kernel
theorem dX0_hasPlace_18 : decode cX0_hasPlace 18 = .ok (.if_icmp .ne 7, 3) := by decide +kernel
theorem dX0_hasPlace_21 : decode cX0_hasPlace 21 = .ok (.iconst 1, 1) := by decide +kernel
theorem dX0_hasPlace_22 : decode cX0_hasPlace 22 = .ok (.goto 4, 3) := by decide +kernel
theorem dX0_hasPlace_25 : decode cX0_hasPlace 25 = .ok (.iconst 0, 1) := by decide +kernel
theorem dX0_hasPlace_26 : decode cX0_hasPlace 26 = .ok (.ireturn, 1) := by decide +kernel
theorem dX0_allows_0 : decode cX0_allows 0 = .ok (.iload_n 1, 1) := by decide +kernel
theorem dX0_allows_1 : decode cX0_allows 1 = .ok (.iconst (-1), 1) := by decide +kernel
theorem dX0_allows_2 : decode cX0_allows 2 = .ok (.if_icmp .lt 17, 3) := by decide +kernel
theorem dX0_allows_5 : decode cX0_allows 5 = .ok (.iload_n 1, 1) := by decide +kernel
theorem dX0_allows_6 : decode cX0_allows 6 = .ok (.iconst 4, 1) := by decide +kernel
theorem dX0_allows_7 : decode cX0_allows 7 = .ok (.aload_n 0, 1) := by decide +kernel
theorem dX0_allows_8 : decode cX0_allows 8 = .ok (.getfield 9, 3) := by decide +kernel
theorem dX0_allows_11 : decode cX0_allows 11 = .ok (.imul, 1) := by decide +kernel
theorem dX0_allows_12 : decode cX0_allows 12 = .ok (.if_icmp .ge 7, 3) := by decide +kernel
theorem dX0_allows_15 : decode cX0_allows 15 = .ok (.iconst 1, 1) := by decide +kernel
theorem dX0_allows_16 : decode cX0_allows 16 = .ok (.goto 4, 3) := by decide +kernel
theorem dX0_allows_19 : decode cX0_allows 19 = .ok (.iconst 0, 1) := by decide +kernel
theorem dX0_allows_20 : decode cX0_allows 20 = .ok (.ireturn, 1) := by decide +kernel
theorem dX0_codeAt_0 : decode cX0_codeAt 0 = .ok (.iconst 2, 1) := by decide +kernel
theorem dX0_codeAt_1 : decode cX0_codeAt 1 = .ok (.iload_n 1, 1) := by decide +kernel
theorem dX0_codeAt_2 : decode cX0_codeAt 2 = .ok (.imul, 1) := by decide +kernel
theorem dX0_codeAt_3 : decode cX0_codeAt 3 = .ok (.iload_n 2, 1) := by decide +kernel
theorem dX0_codeAt_4 : decode cX0_codeAt 4 = .ok (.iadd, 1) := by decide +kernel
theorem dX0_codeAt_5 : decode cX0_codeAt 5 = .ok (.istore_n 3, 1) := by decide +kernel
theorem dX0_codeAt_6 : decode cX0_codeAt 6 = .ok (.iload_n 3, 1) := by decide +kernel
theorem dX0_codeAt_7 : decode cX0_codeAt 7 = .ok (.ifCond .lt 21, 3) := by decide +kernel
theorem dX0_codeAt_10 : decode cX0_codeAt 10 = .ok (.iload_n 3, 1) := by decide +kernel
theorem dX0_codeAt_11 : decode cX0_codeAt 11 = .ok (.aload_n 0, 1) := by decide +kernel
theorem dX0_codeAt_12 : decode cX0_codeAt 12 = .ok (.getfield 15, 3) := by decide +kernel
theorem dX0_codeAt_15 : decode cX0_codeAt 15 = .ok (.arraylength, 1) := by decide +kernel
theorem dX0_codeAt_16 : decode cX0_codeAt 16 = .ok (.if_icmp .ge 12, 3) := by decide +kernel
theorem dX0_codeAt_19 : decode cX0_codeAt 19 = .ok (.aload_n 0, 1) := by decide +kernel
theorem dX0_codeAt_20 : decode cX0_codeAt 20 = .ok (.getfield 15, 3) := by decide +kernel
theorem dX0_codeAt_23 : decode cX0_codeAt 23 = .ok (.iload_n 3, 1) := by decide +kernel
theorem dX0_codeAt_24 : decode cX0_codeAt 24 = .ok (.iaload, 1) := by decide +kernel
theorem dX0_codeAt_25 : decode cX0_codeAt 25 = .ok (.goto 4, 3) := by decide +kernel
theorem dX0_codeAt_28 : decode cX0_codeAt 28 = .ok (.iconst (-1), 1) := by decide +kernel
theorem dX0_codeAt_29 : decode cX0_codeAt 29 = .ok (.ireturn, 1) := by decide +kernel
theorem dX0_put_0 : decode cX0_put 0 = .ok (.iconst 2, 1) := by decide +kernel
theorem dX0_put_1 : decode cX0_put 1 = .ok (.iload_n 1, 1) := by decide +kernel
theorem dX0_put_2 : decode cX0_put 2 = .ok (.imul, 1) := by decide +kernel
theorem dX0_put_3 : decode cX0_put 3 = .ok (.iload_n 2, 1) := by decide +kernel
theorem dX0_put_4 : decode cX0_put 4 = .ok (.iadd, 1) := by decide +kernel
theorem dX0_put_5 : decode cX0_put 5 = .ok (.istore 4, 2) := by decide +kernel
theorem dX0_put_7 : decode cX0_put 7 = .ok (.iload 4, 2) := by decide +kernel
theorem dX0_put_9 : decode cX0_put 9 = .ok (.ifCond .lt 21, 3) := by decide +kernel
theorem dX0_put_12 : decode cX0_put 12 = .ok (.iload 4, 2) := by decide +kernel
theorem dX0_put_14 : decode cX0_put 14 = .ok (.aload_n 0, 1) := by decide +kernel
theorem dX0_put_15 : decode cX0_put 15 = .ok (.getfield 15, 3) := by decide +kernel
theorem dX0_put_18 : decode cX0_put 18 = .ok (.arraylength, 1) := by decide +kernel
theorem dX0_put_19 : decode cX0_put 19 = .ok (.if_icmp .ge 11, 3) := by decide +kernel
theorem dX0_put_22 : decode cX0_put 22 = .ok (.aload_n 0, 1) := by decide +kernel
theorem dX0_put_23 : decode cX0_put 23 = .ok (.getfield 15, 3) := by decide +kernel
theorem dX0_put_26 : decode cX0_put 26 = .ok (.iload 4, 2) := by decide +kernel
theorem dX0_put_28 : decode cX0_put 28 = .ok (.iload_n 3, 1) := by decide +kernel
theorem dX0_put_29 : decode cX0_put 29 = .ok (.iastore, 1) := by decide +kernel
theorem dX0_put_30 : decode cX0_put 30 = .ok (.return_, 1) := by decide +kernel
theorem dX0_greatestNext_0 : decode cX0_greatestNext 0 = .ok (.iconst 0, 1) := by decide +kernel
theorem dX0_greatestNext_1 : decode cX0_greatestNext 1 = .ok (.istore_n 1, 1) := by decide +kernel
theorem dX0_greatestNext_2 : decode cX0_greatestNext 2 = .ok (.aload_n 0, 1) := by decide +kernel
theorem dX0_greatestNext_3 : decode cX0_greatestNext 3 = .ok (.getfield 15, 3) := by decide +kernel
theorem dX0_greatestNext_6 : decode cX0_greatestNext 6 = .ok (.astore_n 2, 1) := by decide +kernel
theorem dX0_greatestNext_7 : decode cX0_greatestNext 7 = .ok (.aload_n 2, 1) := by decide +kernel
theorem dX0_greatestNext_8 : decode cX0_greatestNext 8 = .ok (.arraylength, 1) := by decide +kernel
theorem dX0_greatestNext_9 : decode cX0_greatestNext 9 = .ok (.istore_n 3, 1) := by decide +kernel
theorem dX0_greatestNext_10 : decode cX0_greatestNext 10 = .ok (.iconst 0, 1) := by decide +kernel
theorem dX0_greatestNext_11 : decode cX0_greatestNext 11 = .ok (.istore 4, 2) := by decide +kernel
theorem dX0_greatestNext_13 : decode cX0_greatestNext 13 = .ok (.iload 4, 2) := by decide +kernel
theorem dX0_greatestNext_15 : decode cX0_greatestNext 15 = .ok (.iload_n 3, 1) := by decide +kernel
theorem dX0_greatestNext_16 : decode cX0_greatestNext 16 = .ok (.if_icmp .ge 24, 3) := by decide +kernel
theorem dX0_greatestNext_19 : decode cX0_greatestNext 19 = .ok (.aload_n 2, 1) := by decide +kernel
theorem dX0_greatestNext_20 : decode cX0_greatestNext 20 = .ok (.iload 4, 2) := by decide +kernel
theorem dX0_greatestNext_22 : decode cX0_greatestNext 22 = .ok (.iaload, 1) := by decide +kernel
theorem dX0_greatestNext_23 : decode cX0_greatestNext 23 = .ok (.istore 5, 2) := by decide +kernel
theorem dX0_greatestNext_25 : decode cX0_greatestNext 25 = .ok (.iload_n 1, 1) := by decide +kernel
theorem dX0_greatestNext_26 : decode cX0_greatestNext 26 = .ok (.iload 5, 2) := by decide +kernel
theorem dX0_greatestNext_28 : decode cX0_greatestNext 28 = .ok (.iconst 2, 1) := by decide +kernel
theorem dX0_greatestNext_29 : decode cX0_greatestNext 29 = .ok (.ishr, 1) := by decide +kernel
theorem dX0_greatestNext_30 : decode cX0_greatestNext 30 = .ok (.invokestatic 25, 3) := by decide +kernel
theorem dX0_greatestNext_33 : decode cX0_greatestNext 33 = .ok (.istore_n 1, 1) := by decide +kernel
theorem dX0_greatestNext_34 : decode cX0_greatestNext 34 = .ok (.iinc 4 1, 3) := by decide +kernel
theorem dX0_greatestNext_37 : decode cX0_greatestNext 37 = .ok (.goto (-24), 3) := by decide +kernel
theorem dX0_greatestNext_40 : decode cX0_greatestNext 40 = .ok (.iload_n 1, 1) := by decide +kernel
theorem dX0_greatestNext_41 : decode cX0_greatestNext 41 = .ok (.ireturn, 1) := by decide +kernel
theorem dX0_copyFrom_0 : decode cX0_copyFrom 0 = .ok (.aload_n 1, 1) := by decide +kernel
theorem dX0_copyFrom_1 : decode cX0_copyFrom 1 = .ok (.getfield 15, 3) := by decide +kernel
theorem dX0_copyFrom_4 : decode cX0_copyFrom 4 = .ok (.iconst 0, 1) := by decide +kernel
theorem dX0_copyFrom_5 : decode cX0_copyFrom 5 = .ok (.aload_n 0, 1) := by decide +kernel
theorem dX0_copyFrom_6 : decode cX0_copyFrom 6 = .ok (.getfield 15, 3) := by decide +kernel
theorem dX0_copyFrom_9 : decode cX0_copyFrom 9 = .ok (.iconst 0, 1) := by decide +kernel
theorem dX0_copyFrom_10 : decode cX0_copyFrom 10 = .ok (.aload_n 0, 1) := by decide +kernel
theorem dX0_copyFrom_11 : decode cX0_copyFrom 11 = .ok (.getfield 15, 3) := by decide +kernel
theorem dX0_copyFrom_14 : decode cX0_copyFrom 14 = .ok (.arraylength, 1) := by decide +kernel
theorem dX0_copyFrom_15 : decode cX0_copyFrom 15 = .ok (.aload_n 1, 1) := by decide +kernel
theorem dX0_copyFrom_16 : decode cX0_copyFrom 16 = .ok (.getfield 15, 3) := by decide +kernel
theorem dX0_copyFrom_19 : decode cX0_copyFrom 19 = .ok (.arraylength, 1) := by decide +kernel
theorem dX0_copyFrom_20 : decode cX0_copyFrom 20 = .ok (.invokestatic 31, 3) := by decide +kernel
theorem dX0_copyFrom_23 : decode cX0_copyFrom 23 = .ok (.invokestatic 34, 3) := by decide +kernel
theorem dX0_copyFrom_26 : decode cX0_copyFrom 26 = .ok (.return_, 1) := by decide +kernel
set_option maxRecDepth 20000 in
theorem ggX1_init_X0_init : GoodIn wsX1_init wsX0_init := goodIn_r _ [20, 21, 2, 3, 22, 14, 23, 24, 25, 26, 27, 65, 66] (by decide +kernel) (by decide +kernel)
set_option maxRecDepth 20000 in
theorem gX1_init_X0_init : GoodIn wsX1_init (wsX0_init) := ggX1_init_X0_init
set_option maxRecDepth 20000 in
theorem ggX1_init_X2_init : GoodIn wsX1_init wsX2_init := goodIn_r _ [30, 31, 2, 3, 32, 33, 34, 35, 36, 37, 38, 39, 40, 41, 42, 43, 14, 44, 45, 46, 67, 68, 69, 70, 71, 72, 73, 74, 75, 76, 77, 78, 79, 80, 81, 82] (by decide +kernel) (by decide +kernel)
set_option maxRecDepth 20000 in
theorem gX1_init_X2_init : GoodIn wsX1_init (wsX2_init) := ggX1_init_X2_init
theorem dX1_init_0 : decode cX1_init 0 = .ok (.aload_n 0, 1) := by decide +kernel
theorem dX1_init_1 : decode cX1_init 1 = .ok (.invokespecial 3, 3) := by decide +kernel
theorem dX1_init_4 : decode cX1_init 4 = .ok (.aload_n 0, 1) := by decide +kernel
theorem dX1_init_5 : decode cX1_init 5 = .ok (.iload_n 1, 1) := by decide +kernel
theorem dX1_init_6 : decode cX1_init 6 = .ok (.putfield 9, 3) := by decide +kernel
theorem dX1_init_9 : decode cX1_init 9 = .ok (.aload_n 0, 1) := by decide +kernel
theorem dX1_init_10 : decode cX1_init 10 = .ok (.new 15, 3) := by decide +kernel
theorem dX1_init_13 : decode cX1_init 13 = .ok (.dup, 1) := by decide +kernel
theorem dX1_init_14 : decode cX1_init 14 = .ok (.iload_n 1, 1) := by decide +kernel
theorem dX1_init_15 : decode cX1_init 15 = .ok (.invokespecial 17, 3) := by decide +kernel
theorem dX1_init_18 : decode cX1_init 18 = .ok (.putfield 20, 3) := by decide +kernel
theorem dX1_init_21 : decode cX1_init 21 = .ok (.aload_n 0, 1) := by decide +kernel
theorem dX1_init_22 : decode cX1_init 22 = .ok (.new 15, 3) := by decide +kernel
theorem dX1_init_25 : decode cX1_init 25 = .ok (.dup, 1) := by decide +kernel
theorem dX1_init_26 : decode cX1_init 26 = .ok (.iload_n 1, 1) := by decide +kernel
theorem dX1_init_27 : decode cX1_init 27 = .ok (.invokespecial 17, 3) := by decide +kernel
theorem dX1_init_30 : decode cX1_init 30 = .ok (.putfield 24, 3) := by decide +kernel
theorem dX1_init_33 : decode cX1_init 33 = .ok (.aload_n 0, 1) := by decide +kernel
theorem dX1_init_34 : decode cX1_init 34 = .ok (.new 27, 3) := by decide +kernel
theorem dX1_init_37 : decode cX1_init 37 = .ok (.dup, 1) := by decide +kernel
theorem dX1_init_38 : decode cX1_init 38 = .ok (.bipush 120, 2) := by decide +kernel
theorem dX1_init_40 : decode cX1_init 40 = .ok (.invokespecial 29, 3) := by decide +kernel
theorem dX1_init_43 : decode cX1_init 43 = .ok (.putfield 30, 3) := by decide +kernel
theorem dX1_init_46 : decode cX1_init 46 = .ok (.aload_n 0, 1) := by decide +kernel
theorem dX1_init_47 : decode cX1_init 47 = .ok (.bipush 8, 2) := by decide +kernel
theorem dX1_init_49 : decode cX1_init 49 = .ok (.newarray .int, 2) := by decide +kernel
theorem dX1_init_51 : decode cX1_init 51 = .ok (.putfield 34, 3) := by decide +kernel
theorem dX1_init_54 : decode cX1_init 54 = .ok (.aload_n 0, 1) := by decide +kernel
theorem dX1_init_55 : decode cX1_init 55 = .ok (.bipush 8, 2) := by decide +kernel
theorem dX1_init_57 : decode cX1_init 57 = .ok (.newarray .int, 2) := by decide +kernel
theorem dX1_init_59 : decode cX1_init 59 = .ok (.putfield 38, 3) := by decide +kernel
theorem dX1_init_62 : decode cX1_init 62 = .ok (.aload_n 0, 1) := by decide +kernel
theorem dX1_init_63 : decode cX1_init 63 = .ok (.bipush 8, 2) := by decide +kernel
theorem dX1_init_65 : decode cX1_init 65 = .ok (.newarray .int, 2) := by decide +kernel
theorem dX1_init_67 : decode cX1_init 67 = .ok (.putfield 41, 3) := by decide +kernel
theorem dX1_init_70 : decode cX1_init 70 = .ok (.return_, 1) := by decide +kernel
set_option maxRecDepth 20000 in
theorem ggX1_takeNext_X1_moveOn : GoodIn wsX1_takeNext wsX1_moveOn := goodIn_r _ [10, 11, 12, 2, 13, 14, 15, 16, 17, 18, 19, 20, 21, 9, 22, 1, 23, 24, 25, 26, 27, 28, 29, 30, 31, 32, 33, 34, 35, 36, 37, 38, 39, 40, 41, 42, 43, 44, 45, 46, 47, 48, 49, 50, 51, 52, 53, 54, 55, 56, 57, 58, 59, 60, 61, 145, 146, 147, 148, 149, 150, 151, 152, 153, 154, 155, 156, 157, 158, 159, 160, 161, 162, 179, 180, 163, 164, 165, 166, 167, 168, 169, 170, 171, 172, 173, 174, 175, 176, 177, 178] (by decide +kernel) (by decide +kernel)
set_option maxRecDepth 20000 in
theorem gX1_takeNext_X1_moveOn : GoodIn wsX1_takeNext (wsV RX1 44 RX1 yX1_moveOn wsX1_moveOn) := goodIn_app (goodIn_of _ (by decide +kernel)) ggX1_takeNext_X1_moveOn
set_option maxRecDepth 20000 in
theorem ggX1_takeNext_X2_follow : GoodIn wsX1_takeNext wsX2_follow := goodIn_r _ [65, 46, 66, 33, 34, 35, 67, 68, 69, 70, 71, 72, 73, 39, 74, 41, 75, 76, 77, 78, 79, 80, 81, 82, 83, 84, 85, 86, 87, 88, 89, 90, 91, 92, 93, 94, 95, 96, 97, 37, 38, 40, 42, 43, 44, 45, 98, 59, 60, 16, 61, 18, 99, 100, 101, 102, 103, 52, 53, 104, 105, 106, 107, 108, 109, 110, 111, 112, 113, 114, 115, 116, 117, 118, 119, 120, 121, 122, 123, 124, 125, 126, 127, 163, 164, 165, 166, 167, 168, 169, 170, 171, 172, 173, 174, 175, 176, 177, 178, 179, 180] (by decide +kernel) (by decide +kernel)
set_option maxRecDepth 20000 in
theorem gX1_takeNext_X2_follow : GoodIn wsX1_takeNext (wsV RX1 48 RX2 yX2_follow wsX2_follow) := goodIn_app (goodIn_of _ (by decide +kernel)) ggX1_takeNext_X2_follow
set_option maxRecDepth 20000 in
theorem ggX1_takeNext_X1_countHalted : GoodIn wsX1_takeNext wsX1_countHalted := goodIn_r _ [131, 132, 133, 1, 134, 135, 52, 34, 53, 136, 137, 138, 2, 139, 140, 141, 16, 142, 18, 143, 33, 35, 144, 94, 95, 96, 145, 146, 147, 148, 149, 150, 151, 152, 153, 154, 155, 156, 157, 158, 159, 160, 161, 162, 163, 164, 165, 166, 167, 168, 169, 170, 171, 172, 173, 174, 175, 176, 177, 178, 179, 180] (by decide +kernel) (by decide +kernel)
set_option maxRecDepth 20000 in
theorem gX1_takeNext_X1_countHalted : GoodIn wsX1_takeNext (wsV RX1 55 RX1 yX1_countHalted wsX1_countHalted) := goodIn_app (goodIn_of _ (by decide +kernel)) ggX1_takeNext_X1_countHalted
theorem dX1_takeNext_0 : decode cX1_takeNext 0 = .ok (.aload_n 0, 1) := by decide +kernel
theorem dX1_takeNext_1 : decode cX1_takeNext 1 = .ok (.invokevirtual 44, 3) := by decide +kernel
theorem dX1_takeNext_4 : decode cX1_takeNext 4 = .ok (.ifCond .ne 5, 3) := by decide +kernel
theorem dX1_takeNext_7 : decode cX1_takeNext 7 = .ok (.iconst 0, 1) := by decide +kernel
theorem dX1_takeNext_8 : decode cX1_takeNext 8 = .ok (.ireturn, 1) := by decide +kernel
theorem dX1_takeNext_9 : decode cX1_takeNext 9 = .ok (.aload_n 0, 1) := by decide +kernel
theorem dX1_takeNext_10 : decode cX1_takeNext 10 = .ok (.getfield 30, 3) := by decide +kernel
theorem dX1_takeNext_13 : decode cX1_takeNext 13 = .ok (.aload_n 0, 1) := by decide +kernel
theorem dX1_takeNext_14 : decode cX1_takeNext 14 = .ok (.getfield 20, 3) := by decide +kernel
theorem dX1_takeNext_17 : decode cX1_takeNext 17 = .ok (.bipush 120, 2) := by decide +kernel
theorem dX1_takeNext_19 : decode cX1_takeNext 19 = .ok (.invokevirtual 48, 3) := by decide +kernel
theorem dX1_takeNext_22 : decode cX1_takeNext 22 = .ok (.aload_n 0, 1) := by decide +kernel
theorem dX1_takeNext_23 : decode cX1_takeNext 23 = .ok (.getfield 30, 3) := by decide +kernel
theorem dX1_takeNext_26 : decode cX1_takeNext 26 = .ok (.getfield 52, 3) := by decide +kernel
theorem dX1_takeNext_29 : decode cX1_takeNext 29 = .ok (.tableswitch 60 1 3 #[27, 34, 47], 27) := by decide +kernel
theorem dX1_takeNext_56 : decode cX1_takeNext 56 = .ok (.aload_n 0, 1) := by decide +kernel
theorem dX1_takeNext_57 : decode cX1_takeNext 57 = .ok (.invokevirtual 55, 3) := by decide +kernel
theorem dX1_takeNext_60 : decode cX1_takeNext 60 = .ok (.goto 39, 3) := by decide +kernel
theorem dX1_takeNext_63 : decode cX1_takeNext 63 = .ok (.aload_n 0, 1) := by decide +kernel
theorem dX1_takeNext_64 : decode cX1_takeNext 64 = .ok (.dup, 1) := by decide +kernel
theorem dX1_takeNext_65 : decode cX1_takeNext 65 = .ok (.getfield 58, 3) := by decide +kernel
theorem dX1_takeNext_68 : decode cX1_takeNext 68 = .ok (.iconst 1, 1) := by decide +kernel
theorem dX1_takeNext_69 : decode cX1_takeNext 69 = .ok (.iadd, 1) := by decide +kernel
theorem dX1_takeNext_70 : decode cX1_takeNext 70 = .ok (.putfield 58, 3) := by decide +kernel
theorem dX1_takeNext_73 : decode cX1_takeNext 73 = .ok (.goto 26, 3) := by decide +kernel
theorem dX1_takeNext_76 : decode cX1_takeNext 76 = .ok (.aload_n 0, 1) := by decide +kernel
theorem dX1_takeNext_77 : decode cX1_takeNext 77 = .ok (.dup, 1) := by decide +kernel
theorem dX1_takeNext_78 : decode cX1_takeNext 78 = .ok (.getfield 61, 3) := by decide +kernel
theorem dX1_takeNext_81 : decode cX1_takeNext 81 = .ok (.iconst 1, 1) := by decide +kernel
theorem dX1_takeNext_82 : decode cX1_takeNext 82 = .ok (.iadd, 1) := by decide +kernel
theorem dX1_takeNext_83 : decode cX1_takeNext 83 = .ok (.putfield 61, 3) := by decide +kernel
theorem dX1_takeNext_86 : decode cX1_takeNext 86 = .ok (.goto 13, 3) := by decide +kernel
theorem dX1_takeNext_89 : decode cX1_takeNext 89 = .ok (.aload_n 0, 1) := by decide +kernel
theorem dX1_takeNext_90 : decode cX1_takeNext 90 = .ok (.dup, 1) := by decide +kernel
theorem dX1_takeNext_91 : decode cX1_takeNext 91 = .ok (.getfield 64, 3) := by decide +kernel
theorem dX1_takeNext_94 : decode cX1_takeNext 94 = .ok (.iconst 1, 1) := by decide +kernel
theorem dX1_takeNext_95 : decode cX1_takeNext 95 = .ok (.iadd, 1) := by decide +kernel
theorem dX1_takeNext_96 : decode cX1_takeNext 96 = .ok (.putfield 64, 3) := by decide +kernel
theorem dX1_takeNext_99 : decode cX1_takeNext 99 = .ok (.iconst 1, 1) := by decide +kernel
theorem dX1_takeNext_100 : decode cX1_takeNext 100 = .ok (.ireturn, 1) := by decide +kernel
set_option maxRecDepth 20000 in
theorem ggX1_countHalted_X0_copyFrom : GoodIn wsX1_countHalted wsX0_copyFrom := goodIn_r _ [17, 18, 19, 20, 7, 21, 22, 23, 24, 25, 60, 61] (by decide +kernel) (by decide +kernel)
set_option maxRecDepth 20000 in
theorem gX1_countHalted_X0_copyFrom : GoodIn wsX1_countHalted (wsV RX1 94 RX0 yX0_copyFrom wsX0_copyFrom) := goodIn_app (goodIn_of _ (by decide +kernel)) ggX1_countHalted_X0_copyFrom
theorem dX1_countHalted_0 : decode cX1_countHalted 0 = .ok (.aload_n 0, 1) := by decide +kernel
theorem dX1_countHalted_1 : decode cX1_countHalted 1 = .ok (.dup, 1) := by decide +kernel
theorem dX1_countHalted_2 : decode cX1_countHalted 2 = .ok (.getfield 67, 3) := by decide +kernel
theorem dX1_countHalted_5 : decode cX1_countHalted 5 = .ok (.iconst 1, 1) := by decide +kernel
theorem dX1_countHalted_6 : decode cX1_countHalted 6 = .ok (.iadd, 1) := by decide +kernel
theorem dX1_countHalted_7 : decode cX1_countHalted 7 = .ok (.putfield 67, 3) := by decide +kernel
theorem dX1_countHalted_10 : decode cX1_countHalted 10 = .ok (.aload_n 0, 1) := by decide +kernel
theorem dX1_countHalted_11 : decode cX1_countHalted 11 = .ok (.dup, 1) := by decide +kernel
theorem dX1_countHalted_12 : decode cX1_countHalted 12 = .ok (.getfield 70, 3) := by decide +kernel
theorem dX1_countHalted_15 : decode cX1_countHalted 15 = .ok (.aload_n 0, 1) := by decide +kernel
theorem dX1_countHalted_16 : decode cX1_countHalted 16 = .ok (.getfield 30, 3) := by decide +kernel
theorem dX1_countHalted_19 : decode cX1_countHalted 19 = .ok (.getfield 73, 3) := by decide +kernel
theorem dX1_countHalted_22 : decode cX1_countHalted 22 = .ok (.iadd, 1) := by decide +kernel
theorem dX1_countHalted_23 : decode cX1_countHalted 23 = .ok (.putfield 70, 3) := by decide +kernel
theorem dX1_countHalted_26 : decode cX1_countHalted 26 = .ok (.aload_n 0, 1) := by decide +kernel
theorem dX1_countHalted_27 : decode cX1_countHalted 27 = .ok (.aload_n 0, 1) := by decide +kernel
theorem dX1_countHalted_28 : decode cX1_countHalted 28 = .ok (.getfield 76, 3) := by decide +kernel
theorem dX1_countHalted_31 : decode cX1_countHalted 31 = .ok (.aload_n 0, 1) := by decide +kernel
theorem dX1_countHalted_32 : decode cX1_countHalted 32 = .ok (.getfield 30, 3) := by decide +kernel
theorem dX1_countHalted_35 : decode cX1_countHalted 35 = .ok (.getfield 79, 3) := by decide +kernel
theorem dX1_countHalted_38 : decode cX1_countHalted 38 = .ok (.invokestatic 82, 3) := by decide +kernel
theorem dX1_countHalted_41 : decode cX1_countHalted 41 = .ok (.putfield 76, 3) := by decide +kernel
theorem dX1_countHalted_44 : decode cX1_countHalted 44 = .ok (.aload_n 0, 1) := by decide +kernel
theorem dX1_countHalted_45 : decode cX1_countHalted 45 = .ok (.getfield 30, 3) := by decide +kernel
theorem dX1_countHalted_48 : decode cX1_countHalted 48 = .ok (.getfield 73, 3) := by decide +kernel
theorem dX1_countHalted_51 : decode cX1_countHalted 51 = .ok (.aload_n 0, 1) := by decide +kernel
theorem dX1_countHalted_52 : decode cX1_countHalted 52 = .ok (.getfield 88, 3) := by decide +kernel
theorem dX1_countHalted_55 : decode cX1_countHalted 55 = .ok (.if_icmp .le 36, 3) := by decide +kernel
theorem dX1_countHalted_58 : decode cX1_countHalted 58 = .ok (.aload_n 0, 1) := by decide +kernel
theorem dX1_countHalted_59 : decode cX1_countHalted 59 = .ok (.aload_n 0, 1) := by decide +kernel
theorem dX1_countHalted_60 : decode cX1_countHalted 60 = .ok (.getfield 30, 3) := by decide +kernel
theorem dX1_countHalted_63 : decode cX1_countHalted 63 = .ok (.getfield 73, 3) := by decide +kernel
theorem dX1_countHalted_66 : decode cX1_countHalted 66 = .ok (.putfield 88, 3) := by decide +kernel
theorem dX1_countHalted_69 : decode cX1_countHalted 69 = .ok (.aload_n 0, 1) := by decide +kernel
theorem dX1_countHalted_70 : decode cX1_countHalted 70 = .ok (.aload_n 0, 1) := by decide +kernel
theorem dX1_countHalted_71 : decode cX1_countHalted 71 = .ok (.getfield 30, 3) := by decide +kernel
theorem dX1_countHalted_74 : decode cX1_countHalted 74 = .ok (.getfield 79, 3) := by decide +kernel
theorem dX1_countHalted_77 : decode cX1_countHalted 77 = .ok (.putfield 91, 3) := by decide +kernel
theorem dX1_countHalted_80 : decode cX1_countHalted 80 = .ok (.aload_n 0, 1) := by decide +kernel
theorem dX1_countHalted_81 : decode cX1_countHalted 81 = .ok (.getfield 24, 3) := by decide +kernel
theorem dX1_countHalted_84 : decode cX1_countHalted 84 = .ok (.aload_n 0, 1) := by decide +kernel
theorem dX1_countHalted_85 : decode cX1_countHalted 85 = .ok (.getfield 20, 3) := by decide +kernel
theorem dX1_countHalted_88 : decode cX1_countHalted 88 = .ok (.invokevirtual 94, 3) := by decide +kernel
theorem dX1_countHalted_91 : decode cX1_countHalted 91 = .ok (.return_, 1) := by decide +kernel
set_option maxRecDepth 20000 in
theorem ggX1_moveOn_X0_put : GoodIn wsX1_moveOn wsX0_put := goodIn_r _ [8, 9, 73, 74] (by decide +kernel) (by decide +kernel)
set_option maxRecDepth 20000 in
theorem gX1_moveOn_X0_put : GoodIn wsX1_moveOn (wsV RX1 105 RX0 yX0_put wsX0_put) := goodIn_app (goodIn_of _ (by decide +kernel)) ggX1_moveOn_X0_put
set_option maxRecDepth 20000 in
theorem ggX1_moveOn_X1_hasChildren : GoodIn wsX1_moveOn wsX1_hasChildren := goodIn_r _ [14, 15, 16, 17, 18, 55, 56, 57, 58, 59, 60, 61, 62, 63, 64, 65, 66, 67, 68, 69, 70, 71, 72, 75, 76, 77, 78, 79, 80, 81, 82, 83, 84, 85, 86, 87, 88, 89, 90] (by decide +kernel) (by decide +kernel)
set_option maxRecDepth 20000 in
theorem gX1_moveOn_X1_hasChildren : GoodIn wsX1_moveOn (wsV RX1 109 RX1 yX1_hasChildren wsX1_hasChildren) := goodIn_app (goodIn_of _ (by decide +kernel)) ggX1_moveOn_X1_hasChildren
set_option maxRecDepth 20000 in
theorem ggX1_moveOn_X1_toFirstChild : GoodIn wsX1_moveOn wsX1_toFirstChild := goodIn_r _ [22, 16, 18, 15, 23, 24, 3, 17, 25, 26, 27, 28, 29, 30, 31, 32, 33, 34, 35, 36, 37, 38, 39, 40, 41, 42, 7, 43, 9, 44, 45, 46, 4, 5, 6, 8, 55, 56, 57, 58, 59, 60, 61, 62, 63, 64, 65, 66, 67, 68, 69, 70, 71, 72, 75, 76, 77, 78, 79, 80, 81, 82, 83, 84, 85, 86, 87, 88, 89, 90, 73, 74] (by decide +kernel) (by decide +kernel)
set_option maxRecDepth 20000 in
theorem gX1_moveOn_X1_toFirstChild : GoodIn wsX1_moveOn (wsV RX1 112 RX1 yX1_toFirstChild wsX1_toFirstChild) := goodIn_app (goodIn_of _ (by decide +kernel)) ggX1_moveOn_X1_toFirstChild
set_option maxRecDepth 20000 in
theorem ggX1_moveOn_X1_toNextBranch : GoodIn wsX1_moveOn wsX1_toNextBranch := goodIn_r _ [50, 16, 18, 25, 26, 27, 28, 23, 24, 3, 51, 52, 53, 7, 54, 9, 4, 5, 6, 8, 55, 56, 57, 58, 59, 60, 61, 62, 63, 64, 65, 66, 67, 68, 69, 70, 71, 72, 73, 74] (by decide +kernel) (by decide +kernel)
set_option maxRecDepth 20000 in
theorem gX1_moveOn_X1_toNextBranch : GoodIn wsX1_moveOn (wsV RX1 115 RX1 yX1_toNextBranch wsX1_toNextBranch) := goodIn_app (goodIn_of _ (by decide +kernel)) ggX1_moveOn_X1_toNextBranch
theorem dX1_moveOn_0 : decode cX1_moveOn 0 = .ok (.aload_n 0, 1) := by decide +kernel
theorem dX1_moveOn_1 : decode cX1_moveOn 1 = .ok (.getfield 98, 3) := by decide +kernel
theorem dX1_moveOn_4 : decode cX1_moveOn 4 = .ok (.ifCond .eq 5, 3) := by decide +kernel
theorem dX1_moveOn_7 : decode cX1_moveOn 7 = .ok (.iconst 0, 1) := by decide +kernel
theorem dX1_moveOn_8 : decode cX1_moveOn 8 = .ok (.ireturn, 1) := by decide +kernel
theorem dX1_moveOn_9 : decode cX1_moveOn 9 = .ok (.aload_n 0, 1) := by decide +kernel
theorem dX1_moveOn_10 : decode cX1_moveOn 10 = .ok (.getfield 102, 3) := by decide +kernel
theorem dX1_moveOn_13 : decode cX1_moveOn 13 = .ok (.ifCond .ne 21, 3) := by decide +kernel
theorem dX1_moveOn_16 : decode cX1_moveOn 16 = .ok (.aload_n 0, 1) := by decide +kernel
theorem dX1_moveOn_17 : decode cX1_moveOn 17 = .ok (.iconst 1, 1) := by decide +kernel
theorem dX1_moveOn_18 : decode cX1_moveOn 18 = .ok (.putfield 102, 3) := by decide +kernel
theorem dX1_moveOn_21 : decode cX1_moveOn 21 = .ok (.aload_n 0, 1) := by decide +kernel
theorem dX1_moveOn_22 : decode cX1_moveOn 22 = .ok (.getfield 20, 3) := by decide +kernel
theorem dX1_moveOn_25 : decode cX1_moveOn 25 = .ok (.iconst 0, 1) := by decide +kernel
theorem dX1_moveOn_26 : decode cX1_moveOn 26 = .ok (.iconst 0, 1) := by decide +kernel
theorem dX1_moveOn_27 : decode cX1_moveOn 27 = .ok (.bipush 7, 2) := by decide +kernel
theorem dX1_moveOn_29 : decode cX1_moveOn 29 = .ok (.invokevirtual 105, 3) := by decide +kernel
theorem dX1_moveOn_32 : decode cX1_moveOn 32 = .ok (.iconst 1, 1) := by decide +kernel
theorem dX1_moveOn_33 : decode cX1_moveOn 33 = .ok (.ireturn, 1) := by decide +kernel
theorem dX1_moveOn_34 : decode cX1_moveOn 34 = .ok (.aload_n 0, 1) := by decide +kernel
theorem dX1_moveOn_35 : decode cX1_moveOn 35 = .ok (.invokevirtual 109, 3) := by decide +kernel
theorem dX1_moveOn_38 : decode cX1_moveOn 38 = .ok (.ifCond .eq 9, 3) := by decide +kernel
theorem dX1_moveOn_41 : decode cX1_moveOn 41 = .ok (.aload_n 0, 1) := by decide +kernel
theorem dX1_moveOn_42 : decode cX1_moveOn 42 = .ok (.invokevirtual 112, 3) := by decide +kernel
theorem dX1_moveOn_45 : decode cX1_moveOn 45 = .ok (.iconst 1, 1) := by decide +kernel
theorem dX1_moveOn_46 : decode cX1_moveOn 46 = .ok (.ireturn, 1) := by decide +kernel
theorem dX1_moveOn_47 : decode cX1_moveOn 47 = .ok (.aload_n 0, 1) := by decide +kernel
theorem dX1_moveOn_48 : decode cX1_moveOn 48 = .ok (.aload_n 0, 1) := by decide +kernel
theorem dX1_moveOn_49 : decode cX1_moveOn 49 = .ok (.invokevirtual 115, 3) := by decide +kernel
theorem dX1_moveOn_52 : decode cX1_moveOn 52 = .ok (.ifCond .ne 7, 3) := by decide +kernel
theorem dX1_moveOn_55 : decode cX1_moveOn 55 = .ok (.iconst 1, 1) := by decide +kernel
theorem dX1_moveOn_56 : decode cX1_moveOn 56 = .ok (.goto 4, 3) := by decide +kernel
theorem dX1_moveOn_59 : decode cX1_moveOn 59 = .ok (.iconst 0, 1) := by decide +kernel
theorem dX1_moveOn_60 : decode cX1_moveOn 60 = .ok (.putfield 98, 3) := by decide +kernel
theorem dX1_moveOn_63 : decode cX1_moveOn 63 = .ok (.aload_n 0, 1) := by decide +kernel
theorem dX1_moveOn_64 : decode cX1_moveOn 64 = .ok (.getfield 98, 3) := by decide +kernel
theorem dX1_moveOn_67 : decode cX1_moveOn 67 = .ok (.ifCond .ne 7, 3) := by decide +kernel
theorem dX1_moveOn_70 : decode cX1_moveOn 70 = .ok (.iconst 1, 1) := by decide +kernel
theorem dX1_moveOn_71 : decode cX1_moveOn 71 = .ok (.goto 4, 3) := by decide +kernel
theorem dX1_moveOn_74 : decode cX1_moveOn 74 = .ok (.iconst 0, 1) := by decide +kernel
theorem dX1_moveOn_75 : decode cX1_moveOn 75 = .ok (.ireturn, 1) := by decide +kernel
theorem dX1_hasChildren_0 : decode cX1_hasChildren 0 = .ok (.aload_n 0, 1) := by decide +kernel
theorem dX1_hasChildren_1 : decode cX1_hasChildren 1 = .ok (.getfield 30, 3) := by decide +kernel
theorem dX1_hasChildren_4 : decode cX1_hasChildren 4 = .ok (.getfield 52, 3) := by decide +kernel
theorem dX1_hasChildren_7 : decode cX1_hasChildren 7 = .ok (.iconst 1, 1) := by decide +kernel
theorem dX1_hasChildren_8 : decode cX1_hasChildren 8 = .ok (.if_icmp .ne 36, 3) := by decide +kernel
theorem dX1_hasChildren_11 : decode cX1_hasChildren 11 = .ok (.aload_n 0, 1) := by decide +kernel
theorem dX1_hasChildren_12 : decode cX1_hasChildren 12 = .ok (.getfield 118, 3) := by decide +kernel
theorem dX1_hasChildren_15 : decode cX1_hasChildren 15 = .ok (.iconst 1, 1) := by decide +kernel
theorem dX1_hasChildren_16 : decode cX1_hasChildren 16 = .ok (.iadd, 1) := by decide +kernel
theorem dX1_hasChildren_17 : decode cX1_hasChildren 17 = .ok (.iconst 2, 1) := by decide +kernel
theorem dX1_hasChildren_18 : decode cX1_hasChildren 18 = .ok (.aload_n 0, 1) := by decide +kernel
theorem dX1_hasChildren_19 : decode cX1_hasChildren 19 = .ok (.getfield 9, 3) := by decide +kernel
theorem dX1_hasChildren_22 : decode cX1_hasChildren 22 = .ok (.imul, 1) := by decide +kernel
theorem dX1_hasChildren_23 : decode cX1_hasChildren 23 = .ok (.iconst 1, 1) := by decide +kernel
theorem dX1_hasChildren_24 : decode cX1_hasChildren 24 = .ok (.isub, 1) := by decide +kernel
theorem dX1_hasChildren_25 : decode cX1_hasChildren 25 = .ok (.if_icmp .ge 19, 3) := by decide +kernel
theorem dX1_hasChildren_28 : decode cX1_hasChildren 28 = .ok (.aload_n 0, 1) := by decide +kernel
theorem dX1_hasChildren_29 : decode cX1_hasChildren 29 = .ok (.getfield 118, 3) := by decide +kernel
theorem dX1_hasChildren_32 : decode cX1_hasChildren 32 = .ok (.aload_n 0, 1) := by decide +kernel
theorem dX1_hasChildren_33 : decode cX1_hasChildren 33 = .ok (.getfield 41, 3) := by decide +kernel
theorem dX1_hasChildren_36 : decode cX1_hasChildren 36 = .ok (.arraylength, 1) := by decide +kernel
theorem dX1_hasChildren_37 : decode cX1_hasChildren 37 = .ok (.if_icmp .ge 7, 3) := by decide +kernel
theorem dX1_hasChildren_40 : decode cX1_hasChildren 40 = .ok (.iconst 1, 1) := by decide +kernel
theorem dX1_hasChildren_41 : decode cX1_hasChildren 41 = .ok (.goto 4, 3) := by decide +kernel
theorem dX1_hasChildren_44 : decode cX1_hasChildren 44 = .ok (.iconst 0, 1) := by decide +kernel
theorem dX1_hasChildren_45 : decode cX1_hasChildren 45 = .ok (.ireturn, 1) := by decide +kernel
set_option maxRecDepth 20000 in
theorem ggX1_toFirstChild_X2_symbolNow : GoodIn wsX1_toFirstChild wsX2_symbolNow := goodIn_r _ [16, 17, 18, 19, 20, 15, 21, 22, 54, 55, 56, 57, 58, 59, 60, 61, 62, 63, 64, 65, 66, 67, 68, 69] (by decide +kernel) (by decide +kernel)
set_option maxRecDepth 20000 in
theorem gX1_toFirstChild_X2_symbolNow : GoodIn wsX1_toFirstChild (wsV RX1 124 RX2 yX2_symbolNow wsX2_symbolNow) := goodIn_app (goodIn_of _ (by decide +kernel)) ggX1_toFirstChild_X2_symbolNow
set_option maxRecDepth 20000 in
theorem ggX1_toFirstChild_X0_greatestNext : GoodIn wsX1_toFirstChild wsX0_greatestNext := goodIn_r _ [27, 28, 29, 30, 10, 31, 70, 71] (by decide +kernel) (by decide +kernel)
set_option maxRecDepth 20000 in
theorem gX1_toFirstChild_X0_greatestNext : GoodIn wsX1_toFirstChild (wsV RX1 131 RX0 yX0_greatestNext wsX0_greatestNext) := goodIn_app (goodIn_of _ (by decide +kernel)) ggX1_toFirstChild_X0_greatestNext
set_option maxRecDepth 20000 in
theorem ggX1_toFirstChild_X0_put : GoodIn wsX1_toFirstChild wsX0_put := goodIn_r _ [35, 28, 70, 71] (by decide +kernel) (by decide +kernel)
set_option maxRecDepth 20000 in
theorem gX1_toFirstChild_X0_put : GoodIn wsX1_toFirstChild (wsV RX1 105 RX0 yX0_put wsX0_put) := goodIn_app (goodIn_of _ (by decide +kernel)) ggX1_toFirstChild_X0_put
theorem dX1_toFirstChild_0 : decode cX1_toFirstChild 0 = .ok (.aload_n 0, 1) := by decide +kernel
theorem dX1_toFirstChild_1 : decode cX1_toFirstChild 1 = .ok (.getfield 118, 3) := by decide +kernel
theorem dX1_toFirstChild_4 : decode cX1_toFirstChild 4 = .ok (.ifCond .lt 15, 3) := by decide +kernel
theorem dX1_toFirstChild_7 : decode cX1_toFirstChild 7 = .ok (.aload_n 0, 1) := by decide +kernel
theorem dX1_toFirstChild_8 : decode cX1_toFirstChild 8 = .ok (.getfield 118, 3) := by decide +kernel
theorem dX1_toFirstChild_11 : decode cX1_toFirstChild 11 = .ok (.aload_n 0, 1) := by decide +kernel
theorem dX1_toFirstChild_12 : decode cX1_toFirstChild 12 = .ok (.getfield 41, 3) := by decide +kernel
theorem dX1_toFirstChild_15 : decode cX1_toFirstChild 15 = .ok (.arraylength, 1) := by decide +kernel
theorem dX1_toFirstChild_16 : decode cX1_toFirstChild 16 = .ok (.if_icmp .lt 4, 3) := by decide +kernel
theorem dX1_toFirstChild_19 : decode cX1_toFirstChild 19 = .ok (.return_, 1) := by decide +kernel
theorem dX1_toFirstChild_20 : decode cX1_toFirstChild 20 = .ok (.aload_n 0, 1) := by decide +kernel
theorem dX1_toFirstChild_21 : decode cX1_toFirstChild 21 = .ok (.getfield 30, 3) := by decide +kernel
theorem dX1_toFirstChild_24 : decode cX1_toFirstChild 24 = .ok (.aload_n 0, 1) := by decide +kernel
theorem dX1_toFirstChild_25 : decode cX1_toFirstChild 25 = .ok (.getfield 30, 3) := by decide +kernel
theorem dX1_toFirstChild_28 : decode cX1_toFirstChild 28 = .ok (.getfield 121, 3) := by decide +kernel
theorem dX1_toFirstChild_31 : decode cX1_toFirstChild 31 = .ok (.invokevirtual 124, 3) := by decide +kernel
theorem dX1_toFirstChild_34 : decode cX1_toFirstChild 34 = .ok (.istore_n 1, 1) := by decide +kernel
theorem dX1_toFirstChild_35 : decode cX1_toFirstChild 35 = .ok (.aload_n 0, 1) := by decide +kernel
theorem dX1_toFirstChild_36 : decode cX1_toFirstChild 36 = .ok (.getfield 34, 3) := by decide +kernel
theorem dX1_toFirstChild_39 : decode cX1_toFirstChild 39 = .ok (.aload_n 0, 1) := by decide +kernel
theorem dX1_toFirstChild_40 : decode cX1_toFirstChild 40 = .ok (.getfield 118, 3) := by decide +kernel
theorem dX1_toFirstChild_43 : decode cX1_toFirstChild 43 = .ok (.aload_n 0, 1) := by decide +kernel
theorem dX1_toFirstChild_44 : decode cX1_toFirstChild 44 = .ok (.getfield 30, 3) := by decide +kernel
theorem dX1_toFirstChild_47 : decode cX1_toFirstChild 47 = .ok (.getfield 128, 3) := by decide +kernel
theorem dX1_toFirstChild_50 : decode cX1_toFirstChild 50 = .ok (.iastore, 1) := by decide +kernel
theorem dX1_toFirstChild_51 : decode cX1_toFirstChild 51 = .ok (.aload_n 0, 1) := by decide +kernel
theorem dX1_toFirstChild_52 : decode cX1_toFirstChild 52 = .ok (.getfield 38, 3) := by decide +kernel
theorem dX1_toFirstChild_55 : decode cX1_toFirstChild 55 = .ok (.aload_n 0, 1) := by decide +kernel
theorem dX1_toFirstChild_56 : decode cX1_toFirstChild 56 = .ok (.getfield 118, 3) := by decide +kernel
theorem dX1_toFirstChild_59 : decode cX1_toFirstChild 59 = .ok (.iload_n 1, 1) := by decide +kernel
theorem dX1_toFirstChild_60 : decode cX1_toFirstChild 60 = .ok (.iastore, 1) := by decide +kernel
theorem dX1_toFirstChild_61 : decode cX1_toFirstChild 61 = .ok (.aload_n 0, 1) := by decide +kernel
theorem dX1_toFirstChild_62 : decode cX1_toFirstChild 62 = .ok (.getfield 41, 3) := by decide +kernel
theorem dX1_toFirstChild_65 : decode cX1_toFirstChild 65 = .ok (.aload_n 0, 1) := by decide +kernel
theorem dX1_toFirstChild_66 : decode cX1_toFirstChild 66 = .ok (.getfield 118, 3) := by decide +kernel
theorem dX1_toFirstChild_69 : decode cX1_toFirstChild 69 = .ok (.iconst 4, 1) := by decide +kernel
theorem dX1_toFirstChild_70 : decode cX1_toFirstChild 70 = .ok (.aload_n 0, 1) := by decide +kernel
theorem dX1_toFirstChild_71 : decode cX1_toFirstChild 71 = .ok (.getfield 20, 3) := by decide +kernel
theorem dX1_toFirstChild_74 : decode cX1_toFirstChild 74 = .ok (.invokevirtual 131, 3) := by decide +kernel
theorem dX1_toFirstChild_77 : decode cX1_toFirstChild 77 = .ok (.iconst 1, 1) := by decide +kernel
theorem dX1_toFirstChild_78 : decode cX1_toFirstChild 78 = .ok (.iadd, 1) := by decide +kernel
theorem dX1_toFirstChild_79 : decode cX1_toFirstChild 79 = .ok (.aload_n 0, 1) := by decide +kernel
theorem dX1_toFirstChild_80 : decode cX1_toFirstChild 80 = .ok (.getfield 9, 3) := by decide +kernel
theorem dX1_toFirstChild_83 : decode cX1_toFirstChild 83 = .ok (.iconst 1, 1) := by decide +kernel
theorem dX1_toFirstChild_84 : decode cX1_toFirstChild 84 = .ok (.isub, 1) := by decide +kernel
theorem dX1_toFirstChild_85 : decode cX1_toFirstChild 85 = .ok (.invokestatic 135, 3) := by decide +kernel
theorem dX1_toFirstChild_88 : decode cX1_toFirstChild 88 = .ok (.imul, 1) := by decide +kernel
theorem dX1_toFirstChild_89 : decode cX1_toFirstChild 89 = .ok (.iconst 3, 1) := by decide +kernel
theorem dX1_toFirstChild_90 : decode cX1_toFirstChild 90 = .ok (.iadd, 1) := by decide +kernel
theorem dX1_toFirstChild_91 : decode cX1_toFirstChild 91 = .ok (.iastore, 1) := by decide +kernel
theorem dX1_toFirstChild_92 : decode cX1_toFirstChild 92 = .ok (.aload_n 0, 1) := by decide +kernel
theorem dX1_toFirstChild_93 : decode cX1_toFirstChild 93 = .ok (.dup, 1) := by decide +kernel
theorem dX1_toFirstChild_94 : decode cX1_toFirstChild 94 = .ok (.getfield 118, 3) := by decide +kernel
theorem dX1_toFirstChild_97 : decode cX1_toFirstChild 97 = .ok (.iconst 1, 1) := by decide +kernel
theorem dX1_toFirstChild_98 : decode cX1_toFirstChild 98 = .ok (.iadd, 1) := by decide +kernel
theorem dX1_toFirstChild_99 : decode cX1_toFirstChild 99 = .ok (.putfield 118, 3) := by decide +kernel
theorem dX1_toFirstChild_102 : decode cX1_toFirstChild 102 = .ok (.aload_n 0, 1) := by decide +kernel
theorem dX1_toFirstChild_103 : decode cX1_toFirstChild 103 = .ok (.getfield 20, 3) := by decide +kernel
theorem dX1_toFirstChild_106 : decode cX1_toFirstChild 106 = .ok (.aload_n 0, 1) := by decide +kernel
theorem dX1_toFirstChild_107 : decode cX1_toFirstChild 107 = .ok (.getfield 30, 3) := by decide +kernel
theorem dX1_toFirstChild_110 : decode cX1_toFirstChild 110 = .ok (.getfield 128, 3) := by decide +kernel
theorem dX1_toFirstChild_113 : decode cX1_toFirstChild 113 = .ok (.iload_n 1, 1) := by decide +kernel
theorem dX1_toFirstChild_114 : decode cX1_toFirstChild 114 = .ok (.iconst 0, 1) := by decide +kernel
theorem dX1_toFirstChild_115 : decode cX1_toFirstChild 115 = .ok (.invokevirtual 105, 3) := by decide +kernel
theorem dX1_toFirstChild_118 : decode cX1_toFirstChild 118 = .ok (.return_, 1) := by decide +kernel
set_option maxRecDepth 20000 in
theorem ggX1_toNextBranch_X0_codeAt : GoodIn wsX1_toNextBranch wsX0_codeAt := goodIn_r _ [14, 15, 38, 39] (by decide +kernel) (by decide +kernel)
set_option maxRecDepth 20000 in
theorem gX1_toNextBranch_X0_codeAt : GoodIn wsX1_toNextBranch (wsV RX1 138 RX0 yX0_codeAt wsX0_codeAt) := goodIn_app (goodIn_of _ (by decide +kernel)) ggX1_toNextBranch_X0_codeAt
set_option maxRecDepth 20000 in
theorem ggX1_toNextBranch_X0_put : GoodIn wsX1_toNextBranch wsX0_put := goodIn_r _ [19, 15, 38, 39] (by decide +kernel) (by decide +kernel)
set_option maxRecDepth 20000 in
theorem gX1_toNextBranch_X0_put : GoodIn wsX1_toNextBranch (wsV RX1 105 RX0 yX0_put wsX0_put) := goodIn_app (goodIn_of _ (by decide +kernel)) ggX1_toNextBranch_X0_put
theorem dX1_toNextBranch_0 : decode cX1_toNextBranch 0 = .ok (.aload_n 0, 1) := by decide +kernel
theorem dX1_toNextBranch_1 : decode cX1_toNextBranch 1 = .ok (.getfield 118, 3) := by decide +kernel
theorem dX1_toNextBranch_4 : decode cX1_toNextBranch 4 = .ok (.aload_n 0, 1) := by decide +kernel
theorem dX1_toNextBranch_5 : decode cX1_toNextBranch 5 = .ok (.getfield 41, 3) := by decide +kernel
theorem dX1_toNextBranch_8 : decode cX1_toNextBranch 8 = .ok (.arraylength, 1) := by decide +kernel
theorem dX1_toNextBranch_9 : decode cX1_toNextBranch 9 = .ok (.invokestatic 135, 3) := by decide +kernel
theorem dX1_toNextBranch_12 : decode cX1_toNextBranch 12 = .ok (.iconst 1, 1) := by decide +kernel
theorem dX1_toNextBranch_13 : decode cX1_toNextBranch 13 = .ok (.isub, 1) := by decide +kernel
theorem dX1_toNextBranch_14 : decode cX1_toNextBranch 14 = .ok (.istore_n 1, 1) := by decide +kernel
theorem dX1_toNextBranch_15 : decode cX1_toNextBranch 15 = .ok (.iload_n 1, 1) := by decide +kernel
theorem dX1_toNextBranch_16 : decode cX1_toNextBranch 16 = .ok (.ifCond .lt 75, 3) := by decide +kernel
theorem dX1_toNextBranch_19 : decode cX1_toNextBranch 19 = .ok (.aload_n 0, 1) := by decide +kernel
theorem dX1_toNextBranch_20 : decode cX1_toNextBranch 20 = .ok (.getfield 34, 3) := by decide +kernel
theorem dX1_toNextBranch_23 : decode cX1_toNextBranch 23 = .ok (.iload_n 1, 1) := by decide +kernel
theorem dX1_toNextBranch_24 : decode cX1_toNextBranch 24 = .ok (.iaload, 1) := by decide +kernel
theorem dX1_toNextBranch_25 : decode cX1_toNextBranch 25 = .ok (.istore_n 2, 1) := by decide +kernel
theorem dX1_toNextBranch_26 : decode cX1_toNextBranch 26 = .ok (.aload_n 0, 1) := by decide +kernel
theorem dX1_toNextBranch_27 : decode cX1_toNextBranch 27 = .ok (.getfield 38, 3) := by decide +kernel
theorem dX1_toNextBranch_30 : decode cX1_toNextBranch 30 = .ok (.iload_n 1, 1) := by decide +kernel
theorem dX1_toNextBranch_31 : decode cX1_toNextBranch 31 = .ok (.iaload, 1) := by decide +kernel
theorem dX1_toNextBranch_32 : decode cX1_toNextBranch 32 = .ok (.istore_n 3, 1) := by decide +kernel
theorem dX1_toNextBranch_33 : decode cX1_toNextBranch 33 = .ok (.aload_n 0, 1) := by decide +kernel
theorem dX1_toNextBranch_34 : decode cX1_toNextBranch 34 = .ok (.getfield 20, 3) := by decide +kernel
theorem dX1_toNextBranch_37 : decode cX1_toNextBranch 37 = .ok (.iload_n 2, 1) := by decide +kernel
theorem dX1_toNextBranch_38 : decode cX1_toNextBranch 38 = .ok (.iload_n 3, 1) := by decide +kernel
theorem dX1_toNextBranch_39 : decode cX1_toNextBranch 39 = .ok (.invokevirtual 138, 3) := by decide +kernel
theorem dX1_toNextBranch_42 : decode cX1_toNextBranch 42 = .ok (.istore 4, 2) := by decide +kernel
theorem dX1_toNextBranch_44 : decode cX1_toNextBranch 44 = .ok (.iload 4, 2) := by decide +kernel
theorem dX1_toNextBranch_46 : decode cX1_toNextBranch 46 = .ok (.aload_n 0, 1) := by decide +kernel
theorem dX1_toNextBranch_47 : decode cX1_toNextBranch 47 = .ok (.getfield 41, 3) := by decide +kernel
theorem dX1_toNextBranch_50 : decode cX1_toNextBranch 50 = .ok (.iload_n 1, 1) := by decide +kernel
theorem dX1_toNextBranch_51 : decode cX1_toNextBranch 51 = .ok (.iaload, 1) := by decide +kernel
theorem dX1_toNextBranch_52 : decode cX1_toNextBranch 52 = .ok (.if_icmp .ge 18, 3) := by decide +kernel
theorem dX1_toNextBranch_55 : decode cX1_toNextBranch 55 = .ok (.aload_n 0, 1) := by decide +kernel
theorem dX1_toNextBranch_56 : decode cX1_toNextBranch 56 = .ok (.getfield 20, 3) := by decide +kernel
theorem dX1_toNextBranch_59 : decode cX1_toNextBranch 59 = .ok (.iload_n 2, 1) := by decide +kernel
theorem dX1_toNextBranch_60 : decode cX1_toNextBranch 60 = .ok (.iload_n 3, 1) := by decide +kernel
theorem dX1_toNextBranch_61 : decode cX1_toNextBranch 61 = .ok (.iload 4, 2) := by decide +kernel
theorem dX1_toNextBranch_63 : decode cX1_toNextBranch 63 = .ok (.iconst 1, 1) := by decide +kernel
theorem dX1_toNextBranch_64 : decode cX1_toNextBranch 64 = .ok (.iadd, 1) := by decide +kernel
theorem dX1_toNextBranch_65 : decode cX1_toNextBranch 65 = .ok (.invokevirtual 105, 3) := by decide +kernel
theorem dX1_toNextBranch_68 : decode cX1_toNextBranch 68 = .ok (.iconst 1, 1) := by decide +kernel
theorem dX1_toNextBranch_69 : decode cX1_toNextBranch 69 = .ok (.ireturn, 1) := by decide +kernel
theorem dX1_toNextBranch_70 : decode cX1_toNextBranch 70 = .ok (.aload_n 0, 1) := by decide +kernel
theorem dX1_toNextBranch_71 : decode cX1_toNextBranch 71 = .ok (.getfield 20, 3) := by decide +kernel
theorem dX1_toNextBranch_74 : decode cX1_toNextBranch 74 = .ok (.iload_n 2, 1) := by decide +kernel
theorem dX1_toNextBranch_75 : decode cX1_toNextBranch 75 = .ok (.iload_n 3, 1) := by decide +kernel
theorem dX1_toNextBranch_76 : decode cX1_toNextBranch 76 = .ok (.iconst (-1), 1) := by decide +kernel
theorem dX1_toNextBranch_77 : decode cX1_toNextBranch 77 = .ok (.invokevirtual 105, 3) := by decide +kernel
end
section
theorem dX1_toNextBranch_80 : decode cX1_toNextBranch 80 = .ok (.aload_n 0, 1) := by decide +kernel
theorem dX1_toNextBranch_81 : decode cX1_toNextBranch 81 = .ok (.iload_n 1, 1) := by decide +kernel
theorem dX1_toNextBranch_82 : decode cX1_toNextBranch 82 = .ok (.putfield 118, 3) := by decide +kernel
theorem dX1_toNextBranch_85 : decode cX1_toNextBranch 85 = .ok (.iinc 1 (-1), 3) := by decide +kernel
theorem dX1_toNextBranch_88 : decode cX1_toNextBranch 88 = .ok (.goto (-73), 3) := by decide +kernel
theorem dX1_toNextBranch_91 : decode cX1_toNextBranch 91 = .ok (.iconst 0, 1) := by decide +kernel
theorem dX1_toNextBranch_92 : decode cX1_toNextBranch 92 = .ok (.ireturn, 1) := by decide +kernel
theorem dX2_init_0 : decode cX2_init 0 = .ok (.aload_n 0, 1) := by decide +kernel
theorem dX2_init_1 : decode cX2_init 1 = .ok (.invokespecial 3, 3) := by decide +kernel
theorem dX2_init_4 : decode cX2_init 4 = .ok (.aload_n 0, 1) := by decide +kernel
theorem dX2_init_5 : decode cX2_init 5 = .ok (.iconst 1, 1) := by decide +kernel
theorem dX2_init_6 : decode cX2_init 6 = .ok (.sipush 300, 3) := by decide +kernel
theorem dX2_init_9 : decode cX2_init 9 = .ok (.iload_n 1, 1) := by decide +kernel
theorem dX2_init_10 : decode cX2_init 10 = .ok (.invokestatic 9, 3) := by decide +kernel
theorem dX2_init_13 : decode cX2_init 13 = .ok (.invokestatic 15, 3) := by decide +kernel
theorem dX2_init_16 : decode cX2_init 16 = .ok (.putfield 18, 3) := by decide +kernel
theorem dX2_init_19 : decode cX2_init 19 = .ok (.aload_n 0, 1) := by decide +kernel
theorem dX2_init_20 : decode cX2_init 20 = .ok (.iconst 2, 1) := by decide +kernel
theorem dX2_init_21 : decode cX2_init 21 = .ok (.aload_n 0, 1) := by decide +kernel
theorem dX2_init_22 : decode cX2_init 22 = .ok (.getfield 18, 3) := by decide +kernel
theorem dX2_init_25 : decode cX2_init 25 = .ok (.imul, 1) := by decide +kernel
theorem dX2_init_26 : decode cX2_init 26 = .ok (.bipush 6, 2) := by decide +kernel
theorem dX2_init_28 : decode cX2_init 28 = .ok (.ishr, 1) := by decide +kernel
theorem dX2_init_29 : decode cX2_init 29 = .ok (.iconst 1, 1) := by decide +kernel
theorem dX2_init_30 : decode cX2_init 30 = .ok (.iadd, 1) := by decide +kernel
theorem dX2_init_31 : decode cX2_init 31 = .ok (.putfield 24, 3) := by decide +kernel
theorem dX2_init_34 : decode cX2_init 34 = .ok (.aload_n 0, 1) := by decide +kernel
theorem dX2_init_35 : decode cX2_init 35 = .ok (.aload_n 0, 1) := by decide +kernel
theorem dX2_init_36 : decode cX2_init 36 = .ok (.getfield 24, 3) := by decide +kernel
theorem dX2_init_39 : decode cX2_init 39 = .ok (.newarray .long, 2) := by decide +kernel
theorem dX2_init_41 : decode cX2_init 41 = .ok (.putfield 27, 3) := by decide +kernel
theorem dX2_init_44 : decode cX2_init 44 = .ok (.aload_n 0, 1) := by decide +kernel
theorem dX2_init_45 : decode cX2_init 45 = .ok (.aload_n 0, 1) := by decide +kernel
theorem dX2_init_46 : decode cX2_init 46 = .ok (.getfield 24, 3) := by decide +kernel
theorem dX2_init_49 : decode cX2_init 49 = .ok (.aload_n 0, 1) := by decide +kernel
theorem dX2_init_50 : decode cX2_init 50 = .ok (.getfield 18, 3) := by decide +kernel
theorem dX2_init_53 : decode cX2_init 53 = .ok (.iconst 1, 1) := by decide +kernel
theorem dX2_init_54 : decode cX2_init 54 = .ok (.iadd, 1) := by decide +kernel
theorem dX2_init_55 : decode cX2_init 55 = .ok (.imul, 1) := by decide +kernel
theorem dX2_init_56 : decode cX2_init 56 = .ok (.newarray .long, 2) := by decide +kernel
theorem dX2_init_58 : decode cX2_init 58 = .ok (.putfield 31, 3) := by decide +kernel
theorem dX2_init_61 : decode cX2_init 61 = .ok (.aload_n 0, 1) := by decide +kernel
theorem dX2_init_62 : decode cX2_init 62 = .ok (.aload_n 0, 1) := by decide +kernel
theorem dX2_init_63 : decode cX2_init 63 = .ok (.getfield 18, 3) := by decide +kernel
theorem dX2_init_66 : decode cX2_init 66 = .ok (.iconst 1, 1) := by decide +kernel
theorem dX2_init_67 : decode cX2_init 67 = .ok (.iadd, 1) := by decide +kernel
theorem dX2_init_68 : decode cX2_init 68 = .ok (.newarray .int, 2) := by decide +kernel
theorem dX2_init_70 : decode cX2_init 70 = .ok (.putfield 34, 3) := by decide +kernel
theorem dX2_init_73 : decode cX2_init 73 = .ok (.aload_n 0, 1) := by decide +kernel
theorem dX2_init_74 : decode cX2_init 74 = .ok (.aload_n 0, 1) := by decide +kernel
theorem dX2_init_75 : decode cX2_init 75 = .ok (.getfield 18, 3) := by decide +kernel
theorem dX2_init_78 : decode cX2_init 78 = .ok (.iconst 1, 1) := by decide +kernel
theorem dX2_init_79 : decode cX2_init 79 = .ok (.iadd, 1) := by decide +kernel
theorem dX2_init_80 : decode cX2_init 80 = .ok (.newarray .int, 2) := by decide +kernel
theorem dX2_init_82 : decode cX2_init 82 = .ok (.putfield 38, 3) := by decide +kernel
theorem dX2_init_85 : decode cX2_init 85 = .ok (.aload_n 0, 1) := by decide +kernel
theorem dX2_init_86 : decode cX2_init 86 = .ok (.aload_n 0, 1) := by decide +kernel
theorem dX2_init_87 : decode cX2_init 87 = .ok (.getfield 18, 3) := by decide +kernel
theorem dX2_init_90 : decode cX2_init 90 = .ok (.iconst 1, 1) := by decide +kernel
theorem dX2_init_91 : decode cX2_init 91 = .ok (.iadd, 1) := by decide +kernel
theorem dX2_init_92 : decode cX2_init 92 = .ok (.newarray .int, 2) := by decide +kernel
theorem dX2_init_94 : decode cX2_init 94 = .ok (.putfield 41, 3) := by decide +kernel
theorem dX2_init_97 : decode cX2_init 97 = .ok (.return_, 1) := by decide +kernel
set_option maxRecDepth 20000 in
theorem ggX2_follow_X2_begin : GoodIn wsX2_follow wsX2_begin := goodIn_r _ [14, 15, 7, 6, 16, 17, 8, 9, 18, 19, 20, 21, 22, 23, 24, 25, 26, 27, 13, 28, 1, 29, 30, 31, 32, 33, 34, 35, 36, 37, 83, 84, 85, 86, 87, 88, 89, 90, 91, 92, 93, 94, 95, 96, 97, 98] (by decide +kernel) (by decide +kernel)
set_option maxRecDepth 20000 in
theorem gX2_follow_X2_begin : GoodIn wsX2_follow (wsV RX2 44 RX2 yX2_begin wsX2_begin) := goodIn_app (goodIn_of _ (by decide +kernel)) ggX2_follow_X2_begin
set_option maxRecDepth 20000 in
theorem ggX2_follow_X2_symbolNow : GoodIn wsX2_follow wsX2_symbolNow := goodIn_r _ [41, 15, 42, 43, 44, 13, 45, 1, 83, 84, 85, 86, 87, 88, 89, 90, 91, 92, 93, 94, 95, 96, 97, 98] (by decide +kernel) (by decide +kernel)
set_option maxRecDepth 20000 in
theorem gX2_follow_X2_symbolNow : GoodIn wsX2_follow (wsV RX2 59 RX2 yX2_symbolNow wsX2_symbolNow) := goodIn_app (goodIn_of _ (by decide +kernel)) ggX2_follow_X2_symbolNow
set_option maxRecDepth 20000 in
theorem ggX2_follow_X0_codeAt : GoodIn wsX2_follow wsX0_codeAt := goodIn_r _ [50, 51, 99, 100] (by decide +kernel) (by decide +kernel)
set_option maxRecDepth 20000 in
theorem gX2_follow_X0_codeAt : GoodIn wsX2_follow (wsV RX2 63 RX0 yX0_codeAt wsX0_codeAt) := goodIn_app (goodIn_of _ (by decide +kernel)) ggX2_follow_X0_codeAt
set_option maxRecDepth 20000 in
theorem ggX2_follow_X2_act : GoodIn wsX2_follow wsX2_act := goodIn_r _ [55, 9, 8, 20, 19, 2, 3, 4, 5, 56, 57, 58, 59, 60, 61, 13, 62, 1, 15, 18, 38, 39, 40, 41, 42, 43, 44, 45, 25, 26, 27, 28, 6, 29, 30, 31, 32, 33, 34, 35, 36, 37, 83, 84, 85, 86, 87, 88, 89, 90, 91, 92, 93, 94, 95, 96, 97, 98] (by decide +kernel) (by decide +kernel)
set_option maxRecDepth 20000 in
theorem gX2_follow_X2_act : GoodIn wsX2_follow (wsV RX2 68 RX2 yX2_act wsX2_act) := goodIn_app (goodIn_of _ (by decide +kernel)) ggX2_follow_X2_act
set_option maxRecDepth 20000 in
theorem ggX2_follow_X2_look : GoodIn wsX2_follow wsX2_look := goodIn_r _ [66, 7, 6, 16, 29, 9, 17, 67, 68, 69, 13, 70, 1, 2, 3, 4, 5, 30, 8, 71, 72, 73, 74, 33, 32, 15, 75, 76, 77, 78, 31, 79, 80, 81, 82, 42, 43, 44, 45, 83, 84, 85, 86, 87, 88, 89, 90, 91, 92, 93, 94, 95, 96, 97, 98] (by decide +kernel) (by decide +kernel)
set_option maxRecDepth 20000 in
theorem gX2_follow_X2_look : GoodIn wsX2_follow (wsV RX2 72 RX2 yX2_look wsX2_look) := goodIn_app (goodIn_of _ (by decide +kernel)) ggX2_follow_X2_look
theorem dX2_follow_0 : decode cX2_follow 0 = .ok (.aload_n 0, 1) := by decide +kernel
theorem dX2_follow_1 : decode cX2_follow 1 = .ok (.invokevirtual 44, 3) := by decide +kernel
theorem dX2_follow_4 : decode cX2_follow 4 = .ok (.iload_n 2, 1) := by decide +kernel
theorem dX2_follow_5 : decode cX2_follow 5 = .ok (.aload_n 0, 1) := by decide +kernel
theorem dX2_follow_6 : decode cX2_follow 6 = .ok (.getfield 18, 3) := by decide +kernel
theorem dX2_follow_9 : decode cX2_follow 9 = .ok (.invokestatic 9, 3) := by decide +kernel
theorem dX2_follow_12 : decode cX2_follow 12 = .ok (.istore_n 3, 1) := by decide +kernel
theorem dX2_follow_13 : decode cX2_follow 13 = .ok (.aload_n 0, 1) := by decide +kernel
theorem dX2_follow_14 : decode cX2_follow 14 = .ok (.getfield 47, 3) := by decide +kernel
theorem dX2_follow_17 : decode cX2_follow 17 = .ok (.iload_n 3, 1) := by decide +kernel
theorem dX2_follow_18 : decode cX2_follow 18 = .ok (.if_icmp .ge 64, 3) := by decide +kernel
theorem dX2_follow_21 : decode cX2_follow 21 = .ok (.aload_n 0, 1) := by decide +kernel
theorem dX2_follow_22 : decode cX2_follow 22 = .ok (.getfield 50, 3) := by decide +kernel
theorem dX2_follow_25 : decode cX2_follow 25 = .ok (.ifCond .ne 57, 3) := by decide +kernel
theorem dX2_follow_28 : decode cX2_follow 28 = .ok (.aload_n 0, 1) := by decide +kernel
theorem dX2_follow_29 : decode cX2_follow 29 = .ok (.dup, 1) := by decide +kernel
theorem dX2_follow_30 : decode cX2_follow 30 = .ok (.getfield 47, 3) := by decide +kernel
theorem dX2_follow_33 : decode cX2_follow 33 = .ok (.iconst 1, 1) := by decide +kernel
theorem dX2_follow_34 : decode cX2_follow 34 = .ok (.iadd, 1) := by decide +kernel
theorem dX2_follow_35 : decode cX2_follow 35 = .ok (.putfield 47, 3) := by decide +kernel
theorem dX2_follow_38 : decode cX2_follow 38 = .ok (.aload_n 1, 1) := by decide +kernel
theorem dX2_follow_39 : decode cX2_follow 39 = .ok (.aload_n 0, 1) := by decide +kernel
theorem dX2_follow_40 : decode cX2_follow 40 = .ok (.getfield 53, 3) := by decide +kernel
theorem dX2_follow_43 : decode cX2_follow 43 = .ok (.aload_n 0, 1) := by decide +kernel
theorem dX2_follow_44 : decode cX2_follow 44 = .ok (.aload_n 0, 1) := by decide +kernel
theorem dX2_follow_45 : decode cX2_follow 45 = .ok (.getfield 56, 3) := by decide +kernel
theorem dX2_follow_48 : decode cX2_follow 48 = .ok (.invokevirtual 59, 3) := by decide +kernel
theorem dX2_follow_51 : decode cX2_follow 51 = .ok (.invokevirtual 63, 3) := by decide +kernel
theorem dX2_follow_54 : decode cX2_follow 54 = .ok (.istore 4, 2) := by decide +kernel
theorem dX2_follow_56 : decode cX2_follow 56 = .ok (.iload 4, 2) := by decide +kernel
theorem dX2_follow_58 : decode cX2_follow 58 = .ok (.ifCond .ge 11, 3) := by decide +kernel
theorem dX2_follow_61 : decode cX2_follow 61 = .ok (.aload_n 0, 1) := by decide +kernel
theorem dX2_follow_62 : decode cX2_follow 62 = .ok (.iconst 1, 1) := by decide +kernel
theorem dX2_follow_63 : decode cX2_follow 63 = .ok (.putfield 50, 3) := by decide +kernel
theorem dX2_follow_66 : decode cX2_follow 66 = .ok (.goto 13, 3) := by decide +kernel
theorem dX2_follow_69 : decode cX2_follow 69 = .ok (.aload_n 0, 1) := by decide +kernel
theorem dX2_follow_70 : decode cX2_follow 70 = .ok (.iload 4, 2) := by decide +kernel
theorem dX2_follow_72 : decode cX2_follow 72 = .ok (.invokevirtual 68, 3) := by decide +kernel
theorem dX2_follow_75 : decode cX2_follow 75 = .ok (.aload_n 0, 1) := by decide +kernel
theorem dX2_follow_76 : decode cX2_follow 76 = .ok (.invokevirtual 72, 3) := by decide +kernel
theorem dX2_follow_79 : decode cX2_follow 79 = .ok (.goto (-66), 3) := by decide +kernel
theorem dX2_follow_82 : decode cX2_follow 82 = .ok (.return_, 1) := by decide +kernel
set_option maxRecDepth 20000 in
theorem ggX2_symbolNow_X2_symbolIn : GoodIn wsX2_symbolNow wsX2_symbolIn := goodIn_r _ [6, 7, 8, 9, 10, 11, 12, 13, 14, 15, 16, 17, 18, 19, 20, 21, 22, 23] (by decide +kernel) (by decide +kernel)
set_option maxRecDepth 20000 in
theorem gX2_symbolNow_X2_symbolIn : GoodIn wsX2_symbolNow (wsV RX2 75 RX2 yX2_symbolIn wsX2_symbolIn) := goodIn_app (goodIn_of _ (by decide +kernel)) ggX2_symbolNow_X2_symbolIn
theorem dX2_symbolNow_0 : decode cX2_symbolNow 0 = .ok (.aload_n 0, 1) := by decide +kernel
theorem dX2_symbolNow_1 : decode cX2_symbolNow 1 = .ok (.aload_n 0, 1) := by decide +kernel
theorem dX2_symbolNow_2 : decode cX2_symbolNow 2 = .ok (.getfield 27, 3) := by decide +kernel
theorem dX2_symbolNow_5 : decode cX2_symbolNow 5 = .ok (.iconst 0, 1) := by decide +kernel
theorem dX2_symbolNow_6 : decode cX2_symbolNow 6 = .ok (.iload_n 1, 1) := by decide +kernel
theorem dX2_symbolNow_7 : decode cX2_symbolNow 7 = .ok (.invokevirtual 75, 3) := by decide +kernel
theorem dX2_symbolNow_10 : decode cX2_symbolNow 10 = .ok (.ireturn, 1) := by decide +kernel
set_option maxRecDepth 20000 in
theorem ggX2_begin_J7_fill_d0a16 : GoodIn wsX2_begin wsJ7_fill_d0a16 := goodIn_r _ [14] (by decide +kernel) (by decide +kernel)
set_option maxRecDepth 20000 in
theorem gX2_begin_J7_fill_d0a16 : GoodIn wsX2_begin (va_wsS RX2 79 yJ7_fill_d0a16 wsJ7_fill_d0a16) := goodIn_app (goodIn_of _ (by decide +kernel)) ggX2_begin_J7_fill_d0a16
set_option maxRecDepth 20000 in
theorem ggX2_begin_X2_note : GoodIn wsX2_begin wsX2_note := goodIn_r _ [19, 3, 20, 21, 7, 22, 6, 23, 1, 24, 25, 26, 27, 28, 29, 30, 31, 32, 33, 34, 35, 36, 37, 38, 39, 40, 41, 42, 43, 44, 45] (by decide +kernel) (by decide +kernel)
set_option maxRecDepth 20000 in
theorem gX2_begin_X2_note : GoodIn wsX2_begin (wsV RX2 100 RX2 yX2_note wsX2_note) := goodIn_app (goodIn_of _ (by decide +kernel)) ggX2_begin_X2_note
theorem dX2_begin_0 : decode cX2_begin 0 = .ok (.aload_n 0, 1) := by decide +kernel
theorem dX2_begin_1 : decode cX2_begin 1 = .ok (.getfield 27, 3) := by decide +kernel
theorem dX2_begin_4 : decode cX2_begin 4 = .ok (.lconst 0, 1) := by decide +kernel
theorem dX2_begin_5 : decode cX2_begin 5 = .ok (.invokestatic 79, 3) := by decide +kernel
theorem dX2_begin_8 : decode cX2_begin 8 = .ok (.aload_n 0, 1) := by decide +kernel
theorem dX2_begin_9 : decode cX2_begin 9 = .ok (.iconst 0, 1) := by decide +kernel
theorem dX2_begin_10 : decode cX2_begin 10 = .ok (.putfield 50, 3) := by decide +kernel
theorem dX2_begin_13 : decode cX2_begin 13 = .ok (.aload_n 0, 1) := by decide +kernel
theorem dX2_begin_14 : decode cX2_begin 14 = .ok (.iconst 0, 1) := by decide +kernel
theorem dX2_begin_15 : decode cX2_begin 15 = .ok (.putfield 47, 3) := by decide +kernel
theorem dX2_begin_18 : decode cX2_begin 18 = .ok (.aload_n 0, 1) := by decide +kernel
theorem dX2_begin_19 : decode cX2_begin 19 = .ok (.iconst 0, 1) := by decide +kernel
theorem dX2_begin_20 : decode cX2_begin 20 = .ok (.putfield 85, 3) := by decide +kernel
theorem dX2_begin_23 : decode cX2_begin 23 = .ok (.aload_n 0, 1) := by decide +kernel
theorem dX2_begin_24 : decode cX2_begin 24 = .ok (.iconst 0, 1) := by decide +kernel
theorem dX2_begin_25 : decode cX2_begin 25 = .ok (.putfield 88, 3) := by decide +kernel
theorem dX2_begin_28 : decode cX2_begin 28 = .ok (.aload_n 0, 1) := by decide +kernel
theorem dX2_begin_29 : decode cX2_begin 29 = .ok (.iconst 0, 1) := by decide +kernel
theorem dX2_begin_30 : decode cX2_begin 30 = .ok (.putfield 53, 3) := by decide +kernel
theorem dX2_begin_33 : decode cX2_begin 33 = .ok (.aload_n 0, 1) := by decide +kernel
theorem dX2_begin_34 : decode cX2_begin 34 = .ok (.iconst 0, 1) := by decide +kernel
theorem dX2_begin_35 : decode cX2_begin 35 = .ok (.putfield 56, 3) := by decide +kernel
theorem dX2_begin_38 : decode cX2_begin 38 = .ok (.aload_n 0, 1) := by decide +kernel
theorem dX2_begin_39 : decode cX2_begin 39 = .ok (.iconst 0, 1) := by decide +kernel
theorem dX2_begin_40 : decode cX2_begin 40 = .ok (.putfield 91, 3) := by decide +kernel
theorem dX2_begin_43 : decode cX2_begin 43 = .ok (.aload_n 0, 1) := by decide +kernel
theorem dX2_begin_44 : decode cX2_begin 44 = .ok (.iconst 0, 1) := by decide +kernel
theorem dX2_begin_45 : decode cX2_begin 45 = .ok (.putfield 94, 3) := by decide +kernel
theorem dX2_begin_48 : decode cX2_begin 48 = .ok (.aload_n 0, 1) := by decide +kernel
theorem dX2_begin_49 : decode cX2_begin 49 = .ok (.iconst 0, 1) := by decide +kernel
theorem dX2_begin_50 : decode cX2_begin 50 = .ok (.putfield 97, 3) := by decide +kernel
theorem dX2_begin_53 : decode cX2_begin 53 = .ok (.aload_n 0, 1) := by decide +kernel
theorem dX2_begin_54 : decode cX2_begin 54 = .ok (.iconst 0, 1) := by decide +kernel
theorem dX2_begin_55 : decode cX2_begin 55 = .ok (.invokevirtual 100, 3) := by decide +kernel
theorem dX2_begin_58 : decode cX2_begin 58 = .ok (.return_, 1) := by decide +kernel
set_option maxRecDepth 20000 in
theorem ggX2_act_X2_write : GoodIn wsX2_act wsX2_write := goodIn_r _ [16, 1, 17, 18, 19, 20, 21, 22, 15, 23, 24, 25, 26, 27, 42, 43, 44, 45, 46, 47, 48, 49, 50, 51, 52, 53, 54, 55, 56, 57] (by decide +kernel) (by decide +kernel)
set_option maxRecDepth 20000 in
theorem gX2_act_X2_write : GoodIn wsX2_act (wsV RX2 103 RX2 yX2_write wsX2_write) := goodIn_app (goodIn_of _ (by decide +kernel)) ggX2_act_X2_write
set_option maxRecDepth 20000 in
theorem ggX2_act_X2_note : GoodIn wsX2_act wsX2_note := goodIn_r _ [31, 32, 17, 33, 1, 34, 2, 35, 18, 36, 37, 38, 39, 40, 41, 42, 43, 44, 45, 46, 47, 48, 49, 50, 51, 52, 53, 54, 55, 56, 57] (by decide +kernel) (by decide +kernel)
set_option maxRecDepth 20000 in
theorem gX2_act_X2_note : GoodIn wsX2_act (wsV RX2 100 RX2 yX2_note wsX2_note) := goodIn_app (goodIn_of _ (by decide +kernel)) ggX2_act_X2_note
theorem dX2_act_0 : decode cX2_act 0 = .ok (.aload_n 0, 1) := by decide +kernel
theorem dX2_act_1 : decode cX2_act 1 = .ok (.iload_n 1, 1) := by decide +kernel
theorem dX2_act_2 : decode cX2_act 2 = .ok (.iconst 1, 1) := by decide +kernel
theorem dX2_act_3 : decode cX2_act 3 = .ok (.iand, 1) := by decide +kernel
theorem dX2_act_4 : decode cX2_act 4 = .ok (.invokevirtual 103, 3) := by decide +kernel
theorem dX2_act_7 : decode cX2_act 7 = .ok (.aload_n 0, 1) := by decide +kernel
theorem dX2_act_8 : decode cX2_act 8 = .ok (.dup, 1) := by decide +kernel
theorem dX2_act_9 : decode cX2_act 9 = .ok (.getfield 56, 3) := by decide +kernel
theorem dX2_act_12 : decode cX2_act 12 = .ok (.iload_n 1, 1) := by decide +kernel
theorem dX2_act_13 : decode cX2_act 13 = .ok (.iconst 2, 1) := by decide +kernel
theorem dX2_act_14 : decode cX2_act 14 = .ok (.iand, 1) := by decide +kernel
theorem dX2_act_15 : decode cX2_act 15 = .ok (.ifCond .eq 7, 3) := by decide +kernel
theorem dX2_act_18 : decode cX2_act 18 = .ok (.iconst 1, 1) := by decide +kernel
theorem dX2_act_19 : decode cX2_act 19 = .ok (.goto 4, 3) := by decide +kernel
theorem dX2_act_22 : decode cX2_act 22 = .ok (.iconst (-1), 1) := by decide +kernel
theorem dX2_act_23 : decode cX2_act 23 = .ok (.iadd, 1) := by decide +kernel
theorem dX2_act_24 : decode cX2_act 24 = .ok (.putfield 56, 3) := by decide +kernel
theorem dX2_act_27 : decode cX2_act 27 = .ok (.aload_n 0, 1) := by decide +kernel
theorem dX2_act_28 : decode cX2_act 28 = .ok (.iload_n 1, 1) := by decide +kernel
theorem dX2_act_29 : decode cX2_act 29 = .ok (.iconst 2, 1) := by decide +kernel
theorem dX2_act_30 : decode cX2_act 30 = .ok (.ishr, 1) := by decide +kernel
theorem dX2_act_31 : decode cX2_act 31 = .ok (.putfield 53, 3) := by decide +kernel
theorem dX2_act_34 : decode cX2_act 34 = .ok (.aload_n 0, 1) := by decide +kernel
theorem dX2_act_35 : decode cX2_act 35 = .ok (.getfield 56, 3) := by decide +kernel
theorem dX2_act_38 : decode cX2_act 38 = .ok (.aload_n 0, 1) := by decide +kernel
theorem dX2_act_39 : decode cX2_act 39 = .ok (.getfield 97, 3) := by decide +kernel
theorem dX2_act_42 : decode cX2_act 42 = .ok (.if_icmp .le 7, 3) := by decide +kernel
theorem dX2_act_45 : decode cX2_act 45 = .ok (.iconst 1, 1) := by decide +kernel
theorem dX2_act_46 : decode cX2_act 46 = .ok (.goto 19, 3) := by decide +kernel
theorem dX2_act_49 : decode cX2_act 49 = .ok (.aload_n 0, 1) := by decide +kernel
theorem dX2_act_50 : decode cX2_act 50 = .ok (.getfield 56, 3) := by decide +kernel
theorem dX2_act_53 : decode cX2_act 53 = .ok (.aload_n 0, 1) := by decide +kernel
theorem dX2_act_54 : decode cX2_act 54 = .ok (.getfield 94, 3) := by decide +kernel
theorem dX2_act_57 : decode cX2_act 57 = .ok (.if_icmp .ge 7, 3) := by decide +kernel
theorem dX2_act_60 : decode cX2_act 60 = .ok (.iconst (-1), 1) := by decide +kernel
theorem dX2_act_61 : decode cX2_act 61 = .ok (.goto 4, 3) := by decide +kernel
theorem dX2_act_64 : decode cX2_act 64 = .ok (.iconst 0, 1) := by decide +kernel
theorem dX2_act_65 : decode cX2_act 65 = .ok (.istore_n 2, 1) := by decide +kernel
theorem dX2_act_66 : decode cX2_act 66 = .ok (.aload_n 0, 1) := by decide +kernel
theorem dX2_act_67 : decode cX2_act 67 = .ok (.aload_n 0, 1) := by decide +kernel
theorem dX2_act_68 : decode cX2_act 68 = .ok (.getfield 94, 3) := by decide +kernel
theorem dX2_act_71 : decode cX2_act 71 = .ok (.aload_n 0, 1) := by decide +kernel
theorem dX2_act_72 : decode cX2_act 72 = .ok (.getfield 56, 3) := by decide +kernel
theorem dX2_act_75 : decode cX2_act 75 = .ok (.invokestatic 9, 3) := by decide +kernel
theorem dX2_act_78 : decode cX2_act 78 = .ok (.putfield 94, 3) := by decide +kernel
theorem dX2_act_81 : decode cX2_act 81 = .ok (.aload_n 0, 1) := by decide +kernel
theorem dX2_act_82 : decode cX2_act 82 = .ok (.aload_n 0, 1) := by decide +kernel
theorem dX2_act_83 : decode cX2_act 83 = .ok (.getfield 97, 3) := by decide +kernel
theorem dX2_act_86 : decode cX2_act 86 = .ok (.aload_n 0, 1) := by decide +kernel
theorem dX2_act_87 : decode cX2_act 87 = .ok (.getfield 56, 3) := by decide +kernel
theorem dX2_act_90 : decode cX2_act 90 = .ok (.invokestatic 15, 3) := by decide +kernel
theorem dX2_act_93 : decode cX2_act 93 = .ok (.putfield 97, 3) := by decide +kernel
theorem dX2_act_96 : decode cX2_act 96 = .ok (.aload_n 0, 1) := by decide +kernel
theorem dX2_act_97 : decode cX2_act 97 = .ok (.iload_n 2, 1) := by decide +kernel
theorem dX2_act_98 : decode cX2_act 98 = .ok (.invokevirtual 100, 3) := by decide +kernel
theorem dX2_act_101 : decode cX2_act 101 = .ok (.return_, 1) := by decide +kernel
set_option maxRecDepth 20000 in
theorem ggX2_write_X2_symbolNow : GoodIn wsX2_write wsX2_symbolNow := goodIn_r _ [9, 3, 10, 11, 12, 8, 13, 2, 14, 15, 16, 17, 18, 19, 20, 21, 22, 23, 24, 25, 26, 27, 28, 29] (by decide +kernel) (by decide +kernel)
set_option maxRecDepth 20000 in
theorem gX2_write_X2_symbolNow : GoodIn wsX2_write (wsV RX2 59 RX2 yX2_symbolNow wsX2_symbolNow) := goodIn_app (goodIn_of _ (by decide +kernel)) ggX2_write_X2_symbolNow
theorem dX2_write_0 : decode cX2_write 0 = .ok (.aload_n 0, 1) := by decide +kernel
theorem dX2_write_1 : decode cX2_write 1 = .ok (.getfield 56, 3) := by decide +kernel
theorem dX2_write_4 : decode cX2_write 4 = .ok (.aload_n 0, 1) := by decide +kernel
theorem dX2_write_5 : decode cX2_write 5 = .ok (.getfield 18, 3) := by decide +kernel
theorem dX2_write_8 : decode cX2_write 8 = .ok (.iadd, 1) := by decide +kernel
theorem dX2_write_9 : decode cX2_write 9 = .ok (.istore_n 2, 1) := by decide +kernel
theorem dX2_write_10 : decode cX2_write 10 = .ok (.iload_n 2, 1) := by decide +kernel
theorem dX2_write_11 : decode cX2_write 11 = .ok (.bipush 6, 2) := by decide +kernel
theorem dX2_write_13 : decode cX2_write 13 = .ok (.ishr, 1) := by decide +kernel
theorem dX2_write_14 : decode cX2_write 14 = .ok (.istore_n 3, 1) := by decide +kernel
theorem dX2_write_15 : decode cX2_write 15 = .ok (.aload_n 0, 1) := by decide +kernel
theorem dX2_write_16 : decode cX2_write 16 = .ok (.aload_n 0, 1) := by decide +kernel
theorem dX2_write_17 : decode cX2_write 17 = .ok (.getfield 56, 3) := by decide +kernel
theorem dX2_write_20 : decode cX2_write 20 = .ok (.invokevirtual 59, 3) := by decide +kernel
theorem dX2_write_23 : decode cX2_write 23 = .ok (.istore 4, 2) := by decide +kernel
theorem dX2_write_25 : decode cX2_write 25 = .ok (.iload 4, 2) := by decide +kernel
theorem dX2_write_27 : decode cX2_write 27 = .ok (.iload_n 1, 1) := by decide +kernel
theorem dX2_write_28 : decode cX2_write 28 = .ok (.if_icmp .eq 44, 3) := by decide +kernel
theorem dX2_write_31 : decode cX2_write 31 = .ok (.iload_n 3, 1) := by decide +kernel
theorem dX2_write_32 : decode cX2_write 32 = .ok (.ifCond .lt 40, 3) := by decide +kernel
theorem dX2_write_35 : decode cX2_write 35 = .ok (.iload_n 3, 1) := by decide +kernel
theorem dX2_write_36 : decode cX2_write 36 = .ok (.aload_n 0, 1) := by decide +kernel
theorem dX2_write_37 : decode cX2_write 37 = .ok (.getfield 27, 3) := by decide +kernel
theorem dX2_write_40 : decode cX2_write 40 = .ok (.arraylength, 1) := by decide +kernel
theorem dX2_write_41 : decode cX2_write 41 = .ok (.if_icmp .ge 31, 3) := by decide +kernel
theorem dX2_write_44 : decode cX2_write 44 = .ok (.aload_n 0, 1) := by decide +kernel
theorem dX2_write_45 : decode cX2_write 45 = .ok (.getfield 27, 3) := by decide +kernel
theorem dX2_write_48 : decode cX2_write 48 = .ok (.iload_n 3, 1) := by decide +kernel
theorem dX2_write_49 : decode cX2_write 49 = .ok (.dup2, 1) := by decide +kernel
theorem dX2_write_50 : decode cX2_write 50 = .ok (.laload, 1) := by decide +kernel
theorem dX2_write_51 : decode cX2_write 51 = .ok (.lconst 1, 1) := by decide +kernel
theorem dX2_write_52 : decode cX2_write 52 = .ok (.iload_n 2, 1) := by decide +kernel
theorem dX2_write_53 : decode cX2_write 53 = .ok (.bipush 63, 2) := by decide +kernel
theorem dX2_write_55 : decode cX2_write 55 = .ok (.iand, 1) := by decide +kernel
theorem dX2_write_56 : decode cX2_write 56 = .ok (.lshl, 1) := by decide +kernel
theorem dX2_write_57 : decode cX2_write 57 = .ok (.lxor, 1) := by decide +kernel
theorem dX2_write_58 : decode cX2_write 58 = .ok (.lastore, 1) := by decide +kernel
theorem dX2_write_59 : decode cX2_write 59 = .ok (.aload_n 0, 1) := by decide +kernel
theorem dX2_write_60 : decode cX2_write 60 = .ok (.dup, 1) := by decide +kernel
theorem dX2_write_61 : decode cX2_write 61 = .ok (.getfield 91, 3) := by decide +kernel
theorem dX2_write_64 : decode cX2_write 64 = .ok (.iload_n 1, 1) := by decide +kernel
theorem dX2_write_65 : decode cX2_write 65 = .ok (.iload 4, 2) := by decide +kernel
theorem dX2_write_67 : decode cX2_write 67 = .ok (.isub, 1) := by decide +kernel
theorem dX2_write_68 : decode cX2_write 68 = .ok (.iadd, 1) := by decide +kernel
theorem dX2_write_69 : decode cX2_write 69 = .ok (.putfield 91, 3) := by decide +kernel
theorem dX2_write_72 : decode cX2_write 72 = .ok (.return_, 1) := by decide +kernel
theorem dX2_note_0 : decode cX2_note 0 = .ok (.aload_n 0, 1) := by decide +kernel
theorem dX2_note_1 : decode cX2_note 1 = .ok (.getfield 47, 3) := by decide +kernel
theorem dX2_note_4 : decode cX2_note 4 = .ok (.ifCond .lt 14, 3) := by decide +kernel
theorem dX2_note_7 : decode cX2_note 7 = .ok (.aload_n 0, 1) := by decide +kernel
theorem dX2_note_8 : decode cX2_note 8 = .ok (.getfield 47, 3) := by decide +kernel
theorem dX2_note_11 : decode cX2_note 11 = .ok (.aload_n 0, 1) := by decide +kernel
theorem dX2_note_12 : decode cX2_note 12 = .ok (.getfield 18, 3) := by decide +kernel
theorem dX2_note_15 : decode cX2_note 15 = .ok (.if_icmp .le 4, 3) := by decide +kernel
theorem dX2_note_18 : decode cX2_note 18 = .ok (.return_, 1) := by decide +kernel
theorem dX2_note_19 : decode cX2_note 19 = .ok (.aload_n 0, 1) := by decide +kernel
theorem dX2_note_20 : decode cX2_note 20 = .ok (.getfield 34, 3) := by decide +kernel
theorem dX2_note_23 : decode cX2_note 23 = .ok (.aload_n 0, 1) := by decide +kernel
theorem dX2_note_24 : decode cX2_note 24 = .ok (.getfield 47, 3) := by decide +kernel
theorem dX2_note_27 : decode cX2_note 27 = .ok (.aload_n 0, 1) := by decide +kernel
theorem dX2_note_28 : decode cX2_note 28 = .ok (.getfield 56, 3) := by decide +kernel
theorem dX2_note_31 : decode cX2_note 31 = .ok (.iastore, 1) := by decide +kernel
theorem dX2_note_32 : decode cX2_note 32 = .ok (.aload_n 0, 1) := by decide +kernel
theorem dX2_note_33 : decode cX2_note 33 = .ok (.getfield 38, 3) := by decide +kernel
theorem dX2_note_36 : decode cX2_note 36 = .ok (.aload_n 0, 1) := by decide +kernel
theorem dX2_note_37 : decode cX2_note 37 = .ok (.getfield 47, 3) := by decide +kernel
theorem dX2_note_40 : decode cX2_note 40 = .ok (.aload_n 0, 1) := by decide +kernel
theorem dX2_note_41 : decode cX2_note 41 = .ok (.getfield 53, 3) := by decide +kernel
theorem dX2_note_44 : decode cX2_note 44 = .ok (.iastore, 1) := by decide +kernel
theorem dX2_note_45 : decode cX2_note 45 = .ok (.aload_n 0, 1) := by decide +kernel
theorem dX2_note_46 : decode cX2_note 46 = .ok (.getfield 41, 3) := by decide +kernel
theorem dX2_note_49 : decode cX2_note 49 = .ok (.aload_n 0, 1) := by decide +kernel
theorem dX2_note_50 : decode cX2_note 50 = .ok (.getfield 47, 3) := by decide +kernel
theorem dX2_note_53 : decode cX2_note 53 = .ok (.iload_n 1, 1) := by decide +kernel
theorem dX2_note_54 : decode cX2_note 54 = .ok (.iastore, 1) := by decide +kernel
theorem dX2_note_55 : decode cX2_note 55 = .ok (.aload_n 0, 1) := by decide +kernel
theorem dX2_note_56 : decode cX2_note 56 = .ok (.getfield 27, 3) := by decide +kernel
theorem dX2_note_59 : decode cX2_note 59 = .ok (.iconst 0, 1) := by decide +kernel
theorem dX2_note_60 : decode cX2_note 60 = .ok (.aload_n 0, 1) := by decide +kernel
theorem dX2_note_61 : decode cX2_note 61 = .ok (.getfield 31, 3) := by decide +kernel
theorem dX2_note_64 : decode cX2_note 64 = .ok (.aload_n 0, 1) := by decide +kernel
theorem dX2_note_65 : decode cX2_note 65 = .ok (.getfield 47, 3) := by decide +kernel
theorem dX2_note_68 : decode cX2_note 68 = .ok (.aload_n 0, 1) := by decide +kernel
theorem dX2_note_69 : decode cX2_note 69 = .ok (.getfield 24, 3) := by decide +kernel
theorem dX2_note_72 : decode cX2_note 72 = .ok (.imul, 1) := by decide +kernel
theorem dX2_note_73 : decode cX2_note 73 = .ok (.aload_n 0, 1) := by decide +kernel
theorem dX2_note_74 : decode cX2_note 74 = .ok (.getfield 24, 3) := by decide +kernel
theorem dX2_note_77 : decode cX2_note 77 = .ok (.invokestatic 106, 3) := by decide +kernel
theorem dX2_note_80 : decode cX2_note 80 = .ok (.return_, 1) := by decide +kernel
set_option maxRecDepth 20000 in
theorem ggX2_look_X2_latestSame : GoodIn wsX2_look wsX2_latestSame := goodIn_r _ [11, 2, 12, 13, 14, 15, 16, 4, 5, 17, 18, 19, 20, 21, 10, 22, 23, 24, 25, 39, 40, 41, 42, 43, 44, 45, 46, 47, 48, 49, 50, 51, 52, 53, 54] (by decide +kernel) (by decide +kernel)
set_option maxRecDepth 20000 in
theorem gX2_look_X2_latestSame : GoodIn wsX2_look (wsV RX2 112 RX2 yX2_latestSame wsX2_latestSame) := goodIn_app (goodIn_of _ (by decide +kernel)) ggX2_look_X2_latestSame
set_option maxRecDepth 20000 in
theorem ggX2_look_X2_latestDrift : GoodIn wsX2_look wsX2_latestDrift := goodIn_r _ [29, 2, 12, 13, 14, 15, 16, 30, 5, 4, 17, 18, 31, 32, 33, 10, 34, 24, 23, 25, 35, 36, 37, 38, 39, 40, 41, 42, 43, 44, 45, 46, 47, 48, 49, 50, 51, 52, 53, 54] (by decide +kernel) (by decide +kernel)
set_option maxRecDepth 20000 in
theorem gX2_look_X2_latestDrift : GoodIn wsX2_look (wsV RX2 116 RX2 yX2_latestDrift wsX2_latestDrift) := goodIn_app (goodIn_of _ (by decide +kernel)) ggX2_look_X2_latestDrift
theorem dX2_look_0 : decode cX2_look 0 = .ok (.aload_n 0, 1) := by decide +kernel
theorem dX2_look_1 : decode cX2_look 1 = .ok (.invokevirtual 112, 3) := by decide +kernel
theorem dX2_look_4 : decode cX2_look 4 = .ok (.istore_n 1, 1) := by decide +kernel
theorem dX2_look_5 : decode cX2_look 5 = .ok (.iload_n 1, 1) := by decide +kernel
theorem dX2_look_6 : decode cX2_look 6 = .ok (.ifCond .lt 19, 3) := by decide +kernel
theorem dX2_look_9 : decode cX2_look 9 = .ok (.aload_n 0, 1) := by decide +kernel
theorem dX2_look_10 : decode cX2_look 10 = .ok (.iconst 2, 1) := by decide +kernel
theorem dX2_look_11 : decode cX2_look 11 = .ok (.putfield 50, 3) := by decide +kernel
theorem dX2_look_14 : decode cX2_look 14 = .ok (.aload_n 0, 1) := by decide +kernel
theorem dX2_look_15 : decode cX2_look 15 = .ok (.aload_n 0, 1) := by decide +kernel
theorem dX2_look_16 : decode cX2_look 16 = .ok (.getfield 47, 3) := by decide +kernel
theorem dX2_look_19 : decode cX2_look 19 = .ok (.iload_n 1, 1) := by decide +kernel
theorem dX2_look_20 : decode cX2_look 20 = .ok (.isub, 1) := by decide +kernel
theorem dX2_look_21 : decode cX2_look 21 = .ok (.putfield 85, 3) := by decide +kernel
theorem dX2_look_24 : decode cX2_look 24 = .ok (.return_, 1) := by decide +kernel
theorem dX2_look_25 : decode cX2_look 25 = .ok (.aload_n 0, 1) := by decide +kernel
theorem dX2_look_26 : decode cX2_look 26 = .ok (.invokevirtual 116, 3) := by decide +kernel
theorem dX2_look_29 : decode cX2_look 29 = .ok (.istore_n 2, 1) := by decide +kernel
theorem dX2_look_30 : decode cX2_look 30 = .ok (.iload_n 2, 1) := by decide +kernel
theorem dX2_look_31 : decode cX2_look 31 = .ok (.ifCond .lt 42, 3) := by decide +kernel
theorem dX2_look_34 : decode cX2_look 34 = .ok (.iload_n 2, 1) := by decide +kernel
theorem dX2_look_35 : decode cX2_look 35 = .ok (.aload_n 0, 1) := by decide +kernel
theorem dX2_look_36 : decode cX2_look 36 = .ok (.getfield 34, 3) := by decide +kernel
theorem dX2_look_39 : decode cX2_look 39 = .ok (.arraylength, 1) := by decide +kernel
theorem dX2_look_40 : decode cX2_look 40 = .ok (.if_icmp .ge 33, 3) := by decide +kernel
theorem dX2_look_43 : decode cX2_look 43 = .ok (.aload_n 0, 1) := by decide +kernel
theorem dX2_look_44 : decode cX2_look 44 = .ok (.iconst 3, 1) := by decide +kernel
theorem dX2_look_45 : decode cX2_look 45 = .ok (.putfield 50, 3) := by decide +kernel
theorem dX2_look_48 : decode cX2_look 48 = .ok (.aload_n 0, 1) := by decide +kernel
theorem dX2_look_49 : decode cX2_look 49 = .ok (.aload_n 0, 1) := by decide +kernel
theorem dX2_look_50 : decode cX2_look 50 = .ok (.getfield 47, 3) := by decide +kernel
theorem dX2_look_53 : decode cX2_look 53 = .ok (.iload_n 2, 1) := by decide +kernel
theorem dX2_look_54 : decode cX2_look 54 = .ok (.isub, 1) := by decide +kernel
theorem dX2_look_55 : decode cX2_look 55 = .ok (.putfield 85, 3) := by decide +kernel
theorem dX2_look_58 : decode cX2_look 58 = .ok (.aload_n 0, 1) := by decide +kernel
theorem dX2_look_59 : decode cX2_look 59 = .ok (.aload_n 0, 1) := by decide +kernel
theorem dX2_look_60 : decode cX2_look 60 = .ok (.getfield 56, 3) := by decide +kernel
theorem dX2_look_63 : decode cX2_look 63 = .ok (.aload_n 0, 1) := by decide +kernel
theorem dX2_look_64 : decode cX2_look 64 = .ok (.getfield 34, 3) := by decide +kernel
theorem dX2_look_67 : decode cX2_look 67 = .ok (.iload_n 2, 1) := by decide +kernel
theorem dX2_look_68 : decode cX2_look 68 = .ok (.iaload, 1) := by decide +kernel
theorem dX2_look_69 : decode cX2_look 69 = .ok (.isub, 1) := by decide +kernel
theorem dX2_look_70 : decode cX2_look 70 = .ok (.putfield 88, 3) := by decide +kernel
theorem dX2_look_73 : decode cX2_look 73 = .ok (.return_, 1) := by decide +kernel
set_option maxRecDepth 20000 in
theorem ggX2_latestSame_X2_sameTape : GoodIn wsX2_latestSame wsX2_sameTape := goodIn_r _ [15, 16, 17, 18, 19, 20, 21, 22, 23, 24, 25, 26, 27, 28, 29, 30, 31, 32, 33, 34] (by decide +kernel) (by decide +kernel)
set_option maxRecDepth 20000 in
theorem gX2_latestSame_X2_sameTape : GoodIn wsX2_latestSame (wsV RX2 119 RX2 yX2_sameTape wsX2_sameTape) := goodIn_app (goodIn_of _ (by decide +kernel)) ggX2_latestSame_X2_sameTape
theorem dX2_latestSame_0 : decode cX2_latestSame 0 = .ok (.aload_n 0, 1) := by decide +kernel
theorem dX2_latestSame_1 : decode cX2_latestSame 1 = .ok (.getfield 47, 3) := by decide +kernel
theorem dX2_latestSame_4 : decode cX2_latestSame 4 = .ok (.aload_n 0, 1) := by decide +kernel
theorem dX2_latestSame_5 : decode cX2_latestSame 5 = .ok (.getfield 18, 3) := by decide +kernel
theorem dX2_latestSame_8 : decode cX2_latestSame 8 = .ok (.invokestatic 9, 3) := by decide +kernel
theorem dX2_latestSame_11 : decode cX2_latestSame 11 = .ok (.iconst 2, 1) := by decide +kernel
theorem dX2_latestSame_12 : decode cX2_latestSame 12 = .ok (.isub, 1) := by decide +kernel
theorem dX2_latestSame_13 : decode cX2_latestSame 13 = .ok (.istore_n 1, 1) := by decide +kernel
theorem dX2_latestSame_14 : decode cX2_latestSame 14 = .ok (.iload_n 1, 1) := by decide +kernel
theorem dX2_latestSame_15 : decode cX2_latestSame 15 = .ok (.ifCond .lt 45, 3) := by decide +kernel
theorem dX2_latestSame_18 : decode cX2_latestSame 18 = .ok (.aload_n 0, 1) := by decide +kernel
theorem dX2_latestSame_19 : decode cX2_latestSame 19 = .ok (.getfield 34, 3) := by decide +kernel
theorem dX2_latestSame_22 : decode cX2_latestSame 22 = .ok (.iload_n 1, 1) := by decide +kernel
theorem dX2_latestSame_23 : decode cX2_latestSame 23 = .ok (.iaload, 1) := by decide +kernel
theorem dX2_latestSame_24 : decode cX2_latestSame 24 = .ok (.aload_n 0, 1) := by decide +kernel
theorem dX2_latestSame_25 : decode cX2_latestSame 25 = .ok (.getfield 56, 3) := by decide +kernel
theorem dX2_latestSame_28 : decode cX2_latestSame 28 = .ok (.if_icmp .ne 26, 3) := by decide +kernel
theorem dX2_latestSame_31 : decode cX2_latestSame 31 = .ok (.aload_n 0, 1) := by decide +kernel
theorem dX2_latestSame_32 : decode cX2_latestSame 32 = .ok (.getfield 38, 3) := by decide +kernel
theorem dX2_latestSame_35 : decode cX2_latestSame 35 = .ok (.iload_n 1, 1) := by decide +kernel
theorem dX2_latestSame_36 : decode cX2_latestSame 36 = .ok (.iaload, 1) := by decide +kernel
theorem dX2_latestSame_37 : decode cX2_latestSame 37 = .ok (.aload_n 0, 1) := by decide +kernel
theorem dX2_latestSame_38 : decode cX2_latestSame 38 = .ok (.getfield 53, 3) := by decide +kernel
theorem dX2_latestSame_41 : decode cX2_latestSame 41 = .ok (.if_icmp .ne 13, 3) := by decide +kernel
theorem dX2_latestSame_44 : decode cX2_latestSame 44 = .ok (.aload_n 0, 1) := by decide +kernel
theorem dX2_latestSame_45 : decode cX2_latestSame 45 = .ok (.iload_n 1, 1) := by decide +kernel
theorem dX2_latestSame_46 : decode cX2_latestSame 46 = .ok (.invokevirtual 119, 3) := by decide +kernel
theorem dX2_latestSame_49 : decode cX2_latestSame 49 = .ok (.ifCond .eq 5, 3) := by decide +kernel
theorem dX2_latestSame_52 : decode cX2_latestSame 52 = .ok (.iload_n 1, 1) := by decide +kernel
theorem dX2_latestSame_53 : decode cX2_latestSame 53 = .ok (.ireturn, 1) := by decide +kernel
theorem dX2_latestSame_54 : decode cX2_latestSame 54 = .ok (.iinc 1 (-2), 3) := by decide +kernel
theorem dX2_latestSame_57 : decode cX2_latestSame 57 = .ok (.goto (-43), 3) := by decide +kernel
theorem dX2_latestSame_60 : decode cX2_latestSame 60 = .ok (.iconst (-1), 1) := by decide +kernel
theorem dX2_latestSame_61 : decode cX2_latestSame 61 = .ok (.ireturn, 1) := by decide +kernel
theorem dX2_sameTape_0 : decode cX2_sameTape 0 = .ok (.iload_n 1, 1) := by decide +kernel
theorem dX2_sameTape_1 : decode cX2_sameTape 1 = .ok (.aload_n 0, 1) := by decide +kernel
theorem dX2_sameTape_2 : decode cX2_sameTape 2 = .ok (.getfield 24, 3) := by decide +kernel
theorem dX2_sameTape_5 : decode cX2_sameTape 5 = .ok (.imul, 1) := by decide +kernel
theorem dX2_sameTape_6 : decode cX2_sameTape 6 = .ok (.istore_n 2, 1) := by decide +kernel
theorem dX2_sameTape_7 : decode cX2_sameTape 7 = .ok (.iload_n 2, 1) := by decide +kernel
theorem dX2_sameTape_8 : decode cX2_sameTape 8 = .ok (.ifCond .lt 17, 3) := by decide +kernel
theorem dX2_sameTape_11 : decode cX2_sameTape 11 = .ok (.iload_n 2, 1) := by decide +kernel
theorem dX2_sameTape_12 : decode cX2_sameTape 12 = .ok (.aload_n 0, 1) := by decide +kernel
theorem dX2_sameTape_13 : decode cX2_sameTape 13 = .ok (.getfield 24, 3) := by decide +kernel
theorem dX2_sameTape_16 : decode cX2_sameTape 16 = .ok (.iadd, 1) := by decide +kernel
theorem dX2_sameTape_17 : decode cX2_sameTape 17 = .ok (.aload_n 0, 1) := by decide +kernel
theorem dX2_sameTape_18 : decode cX2_sameTape 18 = .ok (.getfield 31, 3) := by decide +kernel
theorem dX2_sameTape_21 : decode cX2_sameTape 21 = .ok (.arraylength, 1) := by decide +kernel
theorem dX2_sameTape_22 : decode cX2_sameTape 22 = .ok (.if_icmp .le 5, 3) := by decide +kernel
theorem dX2_sameTape_25 : decode cX2_sameTape 25 = .ok (.iconst 0, 1) := by decide +kernel
theorem dX2_sameTape_26 : decode cX2_sameTape 26 = .ok (.ireturn, 1) := by decide +kernel
theorem dX2_sameTape_27 : decode cX2_sameTape 27 = .ok (.iconst 0, 1) := by decide +kernel
theorem dX2_sameTape_28 : decode cX2_sameTape 28 = .ok (.istore_n 3, 1) := by decide +kernel
theorem dX2_sameTape_29 : decode cX2_sameTape 29 = .ok (.iload_n 3, 1) := by decide +kernel
theorem dX2_sameTape_30 : decode cX2_sameTape 30 = .ok (.aload_n 0, 1) := by decide +kernel
theorem dX2_sameTape_31 : decode cX2_sameTape 31 = .ok (.getfield 24, 3) := by decide +kernel
theorem dX2_sameTape_34 : decode cX2_sameTape 34 = .ok (.if_icmp .ge 29, 3) := by decide +kernel
theorem dX2_sameTape_37 : decode cX2_sameTape 37 = .ok (.aload_n 0, 1) := by decide +kernel
theorem dX2_sameTape_38 : decode cX2_sameTape 38 = .ok (.getfield 31, 3) := by decide +kernel
theorem dX2_sameTape_41 : decode cX2_sameTape 41 = .ok (.iload_n 2, 1) := by decide +kernel
theorem dX2_sameTape_42 : decode cX2_sameTape 42 = .ok (.iload_n 3, 1) := by decide +kernel
theorem dX2_sameTape_43 : decode cX2_sameTape 43 = .ok (.iadd, 1) := by decide +kernel
theorem dX2_sameTape_44 : decode cX2_sameTape 44 = .ok (.laload, 1) := by decide +kernel
theorem dX2_sameTape_45 : decode cX2_sameTape 45 = .ok (.aload_n 0, 1) := by decide +kernel
theorem dX2_sameTape_46 : decode cX2_sameTape 46 = .ok (.getfield 27, 3) := by decide +kernel
theorem dX2_sameTape_49 : decode cX2_sameTape 49 = .ok (.iload_n 3, 1) := by decide +kernel
theorem dX2_sameTape_50 : decode cX2_sameTape 50 = .ok (.laload, 1) := by decide +kernel
theorem dX2_sameTape_51 : decode cX2_sameTape 51 = .ok (.lcmp, 1) := by decide +kernel
theorem dX2_sameTape_52 : decode cX2_sameTape 52 = .ok (.ifCond .eq 5, 3) := by decide +kernel
theorem dX2_sameTape_55 : decode cX2_sameTape 55 = .ok (.iconst 0, 1) := by decide +kernel
theorem dX2_sameTape_56 : decode cX2_sameTape 56 = .ok (.ireturn, 1) := by decide +kernel
theorem dX2_sameTape_57 : decode cX2_sameTape 57 = .ok (.iinc 3 1, 3) := by decide +kernel
theorem dX2_sameTape_60 : decode cX2_sameTape 60 = .ok (.goto (-31), 3) := by decide +kernel
theorem dX2_sameTape_63 : decode cX2_sameTape 63 = .ok (.iconst 1, 1) := by decide +kernel
theorem dX2_sameTape_64 : decode cX2_sameTape 64 = .ok (.ireturn, 1) := by decide +kernel
set_option maxRecDepth 20000 in
theorem ggX2_latestDrift_X2_sameBehind : GoodIn wsX2_latestDrift wsX2_sameBehind := goodIn_r _ [16, 9, 17, 18, 19, 8, 20, 21, 22, 15, 23, 2, 24, 25, 26, 27, 28, 29, 30, 31, 32, 33, 34, 35, 36, 37, 38, 39] (by decide +kernel) (by decide +kernel)
set_option maxRecDepth 20000 in
theorem gX2_latestDrift_X2_sameBehind : GoodIn wsX2_latestDrift (wsV RX2 123 RX2 yX2_sameBehind wsX2_sameBehind) := goodIn_app (goodIn_of _ (by decide +kernel)) ggX2_latestDrift_X2_sameBehind
theorem dX2_latestDrift_0 : decode cX2_latestDrift 0 = .ok (.aload_n 0, 1) := by decide +kernel
theorem dX2_latestDrift_1 : decode cX2_latestDrift 1 = .ok (.getfield 47, 3) := by decide +kernel
theorem dX2_latestDrift_4 : decode cX2_latestDrift 4 = .ok (.aload_n 0, 1) := by decide +kernel
theorem dX2_latestDrift_5 : decode cX2_latestDrift 5 = .ok (.getfield 18, 3) := by decide +kernel
theorem dX2_latestDrift_8 : decode cX2_latestDrift 8 = .ok (.invokestatic 9, 3) := by decide +kernel
theorem dX2_latestDrift_11 : decode cX2_latestDrift 11 = .ok (.istore_n 1, 1) := by decide +kernel
theorem dX2_latestDrift_12 : decode cX2_latestDrift 12 = .ok (.iload_n 1, 1) := by decide +kernel
theorem dX2_latestDrift_13 : decode cX2_latestDrift 13 = .ok (.ifCond .lt 12, 3) := by decide +kernel
theorem dX2_latestDrift_16 : decode cX2_latestDrift 16 = .ok (.aload_n 0, 1) := by decide +kernel
theorem dX2_latestDrift_17 : decode cX2_latestDrift 17 = .ok (.getfield 41, 3) := by decide +kernel
theorem dX2_latestDrift_20 : decode cX2_latestDrift 20 = .ok (.iload_n 1, 1) := by decide +kernel
theorem dX2_latestDrift_21 : decode cX2_latestDrift 21 = .ok (.iaload, 1) := by decide +kernel
theorem dX2_latestDrift_22 : decode cX2_latestDrift 22 = .ok (.goto 4, 3) := by decide +kernel
theorem dX2_latestDrift_25 : decode cX2_latestDrift 25 = .ok (.iconst 0, 1) := by decide +kernel
theorem dX2_latestDrift_26 : decode cX2_latestDrift 26 = .ok (.istore_n 2, 1) := by decide +kernel
theorem dX2_latestDrift_27 : decode cX2_latestDrift 27 = .ok (.iload_n 2, 1) := by decide +kernel
theorem dX2_latestDrift_28 : decode cX2_latestDrift 28 = .ok (.ifCond .ne 5, 3) := by decide +kernel
theorem dX2_latestDrift_31 : decode cX2_latestDrift 31 = .ok (.iconst (-1), 1) := by decide +kernel
theorem dX2_latestDrift_32 : decode cX2_latestDrift 32 = .ok (.ireturn, 1) := by decide +kernel
theorem dX2_latestDrift_33 : decode cX2_latestDrift 33 = .ok (.iload_n 2, 1) := by decide +kernel
theorem dX2_latestDrift_34 : decode cX2_latestDrift 34 = .ok (.aload_n 0, 1) := by decide +kernel
theorem dX2_latestDrift_35 : decode cX2_latestDrift 35 = .ok (.getfield 56, 3) := by decide +kernel
theorem dX2_latestDrift_38 : decode cX2_latestDrift 38 = .ok (.imul, 1) := by decide +kernel
theorem dX2_latestDrift_39 : decode cX2_latestDrift 39 = .ok (.istore_n 3, 1) := by decide +kernel
theorem dX2_latestDrift_40 : decode cX2_latestDrift 40 = .ok (.iload_n 1, 1) := by decide +kernel
theorem dX2_latestDrift_41 : decode cX2_latestDrift 41 = .ok (.iconst 1, 1) := by decide +kernel
theorem dX2_latestDrift_42 : decode cX2_latestDrift 42 = .ok (.isub, 1) := by decide +kernel
theorem dX2_latestDrift_43 : decode cX2_latestDrift 43 = .ok (.istore 4, 2) := by decide +kernel
theorem dX2_latestDrift_45 : decode cX2_latestDrift 45 = .ok (.iload 4, 2) := by decide +kernel
theorem dX2_latestDrift_47 : decode cX2_latestDrift 47 = .ok (.ifCond .le 69, 3) := by decide +kernel
theorem dX2_latestDrift_50 : decode cX2_latestDrift 50 = .ok (.iload_n 2, 1) := by decide +kernel
theorem dX2_latestDrift_51 : decode cX2_latestDrift 51 = .ok (.aload_n 0, 1) := by decide +kernel
theorem dX2_latestDrift_52 : decode cX2_latestDrift 52 = .ok (.getfield 34, 3) := by decide +kernel
theorem dX2_latestDrift_55 : decode cX2_latestDrift 55 = .ok (.iload 4, 2) := by decide +kernel
theorem dX2_latestDrift_57 : decode cX2_latestDrift 57 = .ok (.iaload, 1) := by decide +kernel
theorem dX2_latestDrift_58 : decode cX2_latestDrift 58 = .ok (.imul, 1) := by decide +kernel
theorem dX2_latestDrift_59 : decode cX2_latestDrift 59 = .ok (.istore 5, 2) := by decide +kernel
theorem dX2_latestDrift_61 : decode cX2_latestDrift 61 = .ok (.iload_n 3, 1) := by decide +kernel
theorem dX2_latestDrift_62 : decode cX2_latestDrift 62 = .ok (.iload 5, 2) := by decide +kernel
theorem dX2_latestDrift_64 : decode cX2_latestDrift 64 = .ok (.invokestatic 9, 3) := by decide +kernel
theorem dX2_latestDrift_67 : decode cX2_latestDrift 67 = .ok (.istore_n 3, 1) := by decide +kernel
theorem dX2_latestDrift_68 : decode cX2_latestDrift 68 = .ok (.aload_n 0, 1) := by decide +kernel
theorem dX2_latestDrift_69 : decode cX2_latestDrift 69 = .ok (.getfield 41, 3) := by decide +kernel
theorem dX2_latestDrift_72 : decode cX2_latestDrift 72 = .ok (.iload 4, 2) := by decide +kernel
theorem dX2_latestDrift_74 : decode cX2_latestDrift 74 = .ok (.iaload, 1) := by decide +kernel
theorem dX2_latestDrift_75 : decode cX2_latestDrift 75 = .ok (.iload_n 2, 1) := by decide +kernel
theorem dX2_latestDrift_76 : decode cX2_latestDrift 76 = .ok (.if_icmp .ne 34, 3) := by decide +kernel
theorem dX2_latestDrift_79 : decode cX2_latestDrift 79 = .ok (.aload_n 0, 1) := by decide +kernel
theorem dX2_latestDrift_80 : decode cX2_latestDrift 80 = .ok (.getfield 38, 3) := by decide +kernel
theorem dX2_latestDrift_83 : decode cX2_latestDrift 83 = .ok (.iload 4, 2) := by decide +kernel
theorem dX2_latestDrift_85 : decode cX2_latestDrift 85 = .ok (.iaload, 1) := by decide +kernel
theorem dX2_latestDrift_86 : decode cX2_latestDrift 86 = .ok (.aload_n 0, 1) := by decide +kernel
theorem dX2_latestDrift_87 : decode cX2_latestDrift 87 = .ok (.getfield 53, 3) := by decide +kernel
theorem dX2_latestDrift_90 : decode cX2_latestDrift 90 = .ok (.if_icmp .ne 20, 3) := by decide +kernel
theorem dX2_latestDrift_93 : decode cX2_latestDrift 93 = .ok (.aload_n 0, 1) := by decide +kernel
theorem dX2_latestDrift_94 : decode cX2_latestDrift 94 = .ok (.iload 4, 2) := by decide +kernel
theorem dX2_latestDrift_96 : decode cX2_latestDrift 96 = .ok (.iload_n 2, 1) := by decide +kernel
theorem dX2_latestDrift_97 : decode cX2_latestDrift 97 = .ok (.iload 5, 2) := by decide +kernel
theorem dX2_latestDrift_99 : decode cX2_latestDrift 99 = .ok (.iload_n 3, 1) := by decide +kernel
theorem dX2_latestDrift_100 : decode cX2_latestDrift 100 = .ok (.isub, 1) := by decide +kernel
theorem dX2_latestDrift_101 : decode cX2_latestDrift 101 = .ok (.invokevirtual 123, 3) := by decide +kernel
theorem dX2_latestDrift_104 : decode cX2_latestDrift 104 = .ok (.ifCond .eq 6, 3) := by decide +kernel
theorem dX2_latestDrift_107 : decode cX2_latestDrift 107 = .ok (.iload 4, 2) := by decide +kernel
theorem dX2_latestDrift_109 : decode cX2_latestDrift 109 = .ok (.ireturn, 1) := by decide +kernel
theorem dX2_latestDrift_110 : decode cX2_latestDrift 110 = .ok (.iinc 4 (-1), 3) := by decide +kernel
theorem dX2_latestDrift_113 : decode cX2_latestDrift 113 = .ok (.goto (-68), 3) := by decide +kernel
theorem dX2_latestDrift_116 : decode cX2_latestDrift 116 = .ok (.iconst (-1), 1) := by decide +kernel
theorem dX2_latestDrift_117 : decode cX2_latestDrift 117 = .ok (.ireturn, 1) := by decide +kernel
set_option maxRecDepth 20000 in
theorem ggX2_sameBehind_X2_symbolIn : GoodIn wsX2_sameBehind wsX2_symbolIn := goodIn_r _ [10, 11, 12, 13, 14, 15, 16, 17, 18, 19, 20, 21, 22, 23, 24, 25, 26, 27] (by decide +kernel) (by decide +kernel)
set_option maxRecDepth 20000 in
theorem gX2_sameBehind_X2_symbolIn : GoodIn wsX2_sameBehind (wsV RX2 75 RX2 yX2_symbolIn wsX2_symbolIn) := goodIn_app (goodIn_of _ (by decide +kernel)) ggX2_sameBehind_X2_symbolIn
theorem dX2_sameBehind_0 : decode cX2_sameBehind 0 = .ok (.iload_n 1, 1) := by decide +kernel
theorem dX2_sameBehind_1 : decode cX2_sameBehind 1 = .ok (.ifCond .lt 12, 3) := by decide +kernel
theorem dX2_sameBehind_4 : decode cX2_sameBehind 4 = .ok (.iload_n 1, 1) := by decide +kernel
theorem dX2_sameBehind_5 : decode cX2_sameBehind 5 = .ok (.aload_n 0, 1) := by decide +kernel
theorem dX2_sameBehind_6 : decode cX2_sameBehind 6 = .ok (.getfield 34, 3) := by decide +kernel
theorem dX2_sameBehind_9 : decode cX2_sameBehind 9 = .ok (.arraylength, 1) := by decide +kernel
theorem dX2_sameBehind_10 : decode cX2_sameBehind 10 = .ok (.if_icmp .lt 5, 3) := by decide +kernel
end
section
theorem dX2_sameBehind_13 : decode cX2_sameBehind 13 = .ok (.iconst 0, 1) := by decide +kernel
theorem dX2_sameBehind_14 : decode cX2_sameBehind 14 = .ok (.ireturn, 1) := by decide +kernel
theorem dX2_sameBehind_15 : decode cX2_sameBehind 15 = .ok (.iconst 0, 1) := by decide +kernel
theorem dX2_sameBehind_16 : decode cX2_sameBehind 16 = .ok (.istore 4, 2) := by decide +kernel
theorem dX2_sameBehind_18 : decode cX2_sameBehind 18 = .ok (.iload 4, 2) := by decide +kernel
theorem dX2_sameBehind_20 : decode cX2_sameBehind 20 = .ok (.iload_n 3, 1) := by decide +kernel
theorem dX2_sameBehind_21 : decode cX2_sameBehind 21 = .ok (.if_icmp .gt 61, 3) := by decide +kernel
theorem dX2_sameBehind_24 : decode cX2_sameBehind 24 = .ok (.aload_n 0, 1) := by decide +kernel
theorem dX2_sameBehind_25 : decode cX2_sameBehind 25 = .ok (.aload_n 0, 1) := by decide +kernel
theorem dX2_sameBehind_26 : decode cX2_sameBehind 26 = .ok (.getfield 31, 3) := by decide +kernel
theorem dX2_sameBehind_29 : decode cX2_sameBehind 29 = .ok (.iload_n 1, 1) := by decide +kernel
theorem dX2_sameBehind_30 : decode cX2_sameBehind 30 = .ok (.aload_n 0, 1) := by decide +kernel
theorem dX2_sameBehind_31 : decode cX2_sameBehind 31 = .ok (.getfield 24, 3) := by decide +kernel
theorem dX2_sameBehind_34 : decode cX2_sameBehind 34 = .ok (.imul, 1) := by decide +kernel
theorem dX2_sameBehind_35 : decode cX2_sameBehind 35 = .ok (.aload_n 0, 1) := by decide +kernel
theorem dX2_sameBehind_36 : decode cX2_sameBehind 36 = .ok (.getfield 34, 3) := by decide +kernel
theorem dX2_sameBehind_39 : decode cX2_sameBehind 39 = .ok (.iload_n 1, 1) := by decide +kernel
theorem dX2_sameBehind_40 : decode cX2_sameBehind 40 = .ok (.iaload, 1) := by decide +kernel
theorem dX2_sameBehind_41 : decode cX2_sameBehind 41 = .ok (.iload_n 2, 1) := by decide +kernel
theorem dX2_sameBehind_42 : decode cX2_sameBehind 42 = .ok (.iload 4, 2) := by decide +kernel
theorem dX2_sameBehind_44 : decode cX2_sameBehind 44 = .ok (.imul, 1) := by decide +kernel
theorem dX2_sameBehind_45 : decode cX2_sameBehind 45 = .ok (.isub, 1) := by decide +kernel
theorem dX2_sameBehind_46 : decode cX2_sameBehind 46 = .ok (.invokevirtual 75, 3) := by decide +kernel
theorem dX2_sameBehind_49 : decode cX2_sameBehind 49 = .ok (.istore 5, 2) := by decide +kernel
theorem dX2_sameBehind_51 : decode cX2_sameBehind 51 = .ok (.iload 5, 2) := by decide +kernel
theorem dX2_sameBehind_53 : decode cX2_sameBehind 53 = .ok (.aload_n 0, 1) := by decide +kernel
theorem dX2_sameBehind_54 : decode cX2_sameBehind 54 = .ok (.aload_n 0, 1) := by decide +kernel
theorem dX2_sameBehind_55 : decode cX2_sameBehind 55 = .ok (.getfield 27, 3) := by decide +kernel
theorem dX2_sameBehind_58 : decode cX2_sameBehind 58 = .ok (.iconst 0, 1) := by decide +kernel
theorem dX2_sameBehind_59 : decode cX2_sameBehind 59 = .ok (.aload_n 0, 1) := by decide +kernel
theorem dX2_sameBehind_60 : decode cX2_sameBehind 60 = .ok (.getfield 56, 3) := by decide +kernel
theorem dX2_sameBehind_63 : decode cX2_sameBehind 63 = .ok (.iload_n 2, 1) := by decide +kernel
theorem dX2_sameBehind_64 : decode cX2_sameBehind 64 = .ok (.iload 4, 2) := by decide +kernel
theorem dX2_sameBehind_66 : decode cX2_sameBehind 66 = .ok (.imul, 1) := by decide +kernel
theorem dX2_sameBehind_67 : decode cX2_sameBehind 67 = .ok (.isub, 1) := by decide +kernel
theorem dX2_sameBehind_68 : decode cX2_sameBehind 68 = .ok (.invokevirtual 75, 3) := by decide +kernel
theorem dX2_sameBehind_71 : decode cX2_sameBehind 71 = .ok (.if_icmp .eq 5, 3) := by decide +kernel
theorem dX2_sameBehind_74 : decode cX2_sameBehind 74 = .ok (.iconst 0, 1) := by decide +kernel
theorem dX2_sameBehind_75 : decode cX2_sameBehind 75 = .ok (.ireturn, 1) := by decide +kernel
theorem dX2_sameBehind_76 : decode cX2_sameBehind 76 = .ok (.iinc 4 1, 3) := by decide +kernel
theorem dX2_sameBehind_79 : decode cX2_sameBehind 79 = .ok (.goto (-61), 3) := by decide +kernel
theorem dX2_sameBehind_82 : decode cX2_sameBehind 82 = .ok (.iconst 1, 1) := by decide +kernel
theorem dX2_sameBehind_83 : decode cX2_sameBehind 83 = .ok (.ireturn, 1) := by decide +kernel
theorem dX2_symbolIn_0 : decode cX2_symbolIn 0 = .ok (.iload_n 3, 1) := by decide +kernel
theorem dX2_symbolIn_1 : decode cX2_symbolIn 1 = .ok (.aload_n 0, 1) := by decide +kernel
theorem dX2_symbolIn_2 : decode cX2_symbolIn 2 = .ok (.getfield 18, 3) := by decide +kernel
theorem dX2_symbolIn_5 : decode cX2_symbolIn 5 = .ok (.ineg, 1) := by decide +kernel
theorem dX2_symbolIn_6 : decode cX2_symbolIn 6 = .ok (.if_icmp .lt 11, 3) := by decide +kernel
theorem dX2_symbolIn_9 : decode cX2_symbolIn 9 = .ok (.iload_n 3, 1) := by decide +kernel
theorem dX2_symbolIn_10 : decode cX2_symbolIn 10 = .ok (.aload_n 0, 1) := by decide +kernel
theorem dX2_symbolIn_11 : decode cX2_symbolIn 11 = .ok (.getfield 18, 3) := by decide +kernel
theorem dX2_symbolIn_14 : decode cX2_symbolIn 14 = .ok (.if_icmp .le 5, 3) := by decide +kernel
theorem dX2_symbolIn_17 : decode cX2_symbolIn 17 = .ok (.iconst 0, 1) := by decide +kernel
theorem dX2_symbolIn_18 : decode cX2_symbolIn 18 = .ok (.ireturn, 1) := by decide +kernel
theorem dX2_symbolIn_19 : decode cX2_symbolIn 19 = .ok (.iload_n 3, 1) := by decide +kernel
theorem dX2_symbolIn_20 : decode cX2_symbolIn 20 = .ok (.aload_n 0, 1) := by decide +kernel
theorem dX2_symbolIn_21 : decode cX2_symbolIn 21 = .ok (.getfield 18, 3) := by decide +kernel
theorem dX2_symbolIn_24 : decode cX2_symbolIn 24 = .ok (.iadd, 1) := by decide +kernel
theorem dX2_symbolIn_25 : decode cX2_symbolIn 25 = .ok (.istore 4, 2) := by decide +kernel
theorem dX2_symbolIn_27 : decode cX2_symbolIn 27 = .ok (.iload_n 2, 1) := by decide +kernel
theorem dX2_symbolIn_28 : decode cX2_symbolIn 28 = .ok (.iload 4, 2) := by decide +kernel
theorem dX2_symbolIn_30 : decode cX2_symbolIn 30 = .ok (.bipush 6, 2) := by decide +kernel
theorem dX2_symbolIn_32 : decode cX2_symbolIn 32 = .ok (.ishr, 1) := by decide +kernel
theorem dX2_symbolIn_33 : decode cX2_symbolIn 33 = .ok (.iadd, 1) := by decide +kernel
theorem dX2_symbolIn_34 : decode cX2_symbolIn 34 = .ok (.istore 5, 2) := by decide +kernel
theorem dX2_symbolIn_36 : decode cX2_symbolIn 36 = .ok (.iload 5, 2) := by decide +kernel
theorem dX2_symbolIn_38 : decode cX2_symbolIn 38 = .ok (.ifCond .lt 26, 3) := by decide +kernel
theorem dX2_symbolIn_41 : decode cX2_symbolIn 41 = .ok (.iload 5, 2) := by decide +kernel
theorem dX2_symbolIn_43 : decode cX2_symbolIn 43 = .ok (.aload_n 1, 1) := by decide +kernel
theorem dX2_symbolIn_44 : decode cX2_symbolIn 44 = .ok (.arraylength, 1) := by decide +kernel
theorem dX2_symbolIn_45 : decode cX2_symbolIn 45 = .ok (.if_icmp .ge 19, 3) := by decide +kernel
theorem dX2_symbolIn_48 : decode cX2_symbolIn 48 = .ok (.aload_n 1, 1) := by decide +kernel
theorem dX2_symbolIn_49 : decode cX2_symbolIn 49 = .ok (.iload 5, 2) := by decide +kernel
theorem dX2_symbolIn_51 : decode cX2_symbolIn 51 = .ok (.laload, 1) := by decide +kernel
theorem dX2_symbolIn_52 : decode cX2_symbolIn 52 = .ok (.iload 4, 2) := by decide +kernel
theorem dX2_symbolIn_54 : decode cX2_symbolIn 54 = .ok (.bipush 63, 2) := by decide +kernel
theorem dX2_symbolIn_56 : decode cX2_symbolIn 56 = .ok (.iand, 1) := by decide +kernel
theorem dX2_symbolIn_57 : decode cX2_symbolIn 57 = .ok (.lushr, 1) := by decide +kernel
theorem dX2_symbolIn_58 : decode cX2_symbolIn 58 = .ok (.l2i, 1) := by decide +kernel
theorem dX2_symbolIn_59 : decode cX2_symbolIn 59 = .ok (.iconst 1, 1) := by decide +kernel
theorem dX2_symbolIn_60 : decode cX2_symbolIn 60 = .ok (.iand, 1) := by decide +kernel
theorem dX2_symbolIn_61 : decode cX2_symbolIn 61 = .ok (.goto 4, 3) := by decide +kernel
theorem dX2_symbolIn_64 : decode cX2_symbolIn 64 = .ok (.iconst 0, 1) := by decide +kernel
theorem dX2_symbolIn_65 : decode cX2_symbolIn 65 = .ok (.ireturn, 1) := by decide +kernel
set_option maxRecDepth 20000 in
theorem ggX3_init_X0_init : GoodIn wsX3_init wsX0_init := goodIn_r _ [26, 27, 2, 3, 28, 29, 30, 31, 32, 33, 34, 64, 65] (by decide +kernel) (by decide +kernel)
set_option maxRecDepth 20000 in
theorem gX3_init_X0_init : GoodIn wsX3_init (wsX0_init) := ggX3_init_X0_init
set_option maxRecDepth 20000 in
theorem ggX3_init_X2_init : GoodIn wsX3_init wsX2_init := goodIn_r _ [37, 38, 2, 3, 39, 5, 6, 7, 40, 9, 10, 41, 42, 43, 44, 45, 29, 46, 47, 48, 70, 71, 72, 73, 74, 75, 76, 77, 78, 79, 80, 81, 82, 83, 84, 85] (by decide +kernel) (by decide +kernel)
set_option maxRecDepth 20000 in
theorem gX3_init_X2_init : GoodIn wsX3_init (wsX2_init) := ggX3_init_X2_init
set_option maxRecDepth 20000 in
theorem ggX3_init_X1_init : GoodIn wsX3_init wsX1_init := goodIn_r _ [51, 52, 2, 3, 53, 54, 12, 13, 55, 56, 57, 16, 17, 58, 29, 59, 60, 61, 62, 25, 26, 27, 28, 30, 31, 32, 33, 34, 63, 36, 37, 38, 39, 5, 6, 7, 40, 9, 10, 41, 42, 43, 44, 45, 46, 47, 48, 86, 87, 88, 89, 90, 91, 92, 93, 94, 95, 96, 97, 98, 99, 100, 101, 102, 103, 64, 65, 70, 71, 72, 73, 74, 75, 76, 77, 78, 79, 80, 81, 82, 83, 84, 85] (by decide +kernel) (by decide +kernel)
set_option maxRecDepth 20000 in
theorem gX3_init_X1_init : GoodIn wsX3_init (wsX1_init) := ggX3_init_X1_init
theorem dX3_init_0 : decode cX3_init 0 = .ok (.aload_n 0, 1) := by decide +kernel
theorem dX3_init_1 : decode cX3_init 1 = .ok (.invokespecial 1, 3) := by decide +kernel
theorem dX3_init_4 : decode cX3_init 4 = .ok (.iconst 2, 1) := by decide +kernel
theorem dX3_init_5 : decode cX3_init 5 = .ok (.iconst 4, 1) := by decide +kernel
theorem dX3_init_6 : decode cX3_init 6 = .ok (.iload_n 1, 1) := by decide +kernel
theorem dX3_init_7 : decode cX3_init 7 = .ok (.invokestatic 9, 3) := by decide +kernel
theorem dX3_init_10 : decode cX3_init 10 = .ok (.invokestatic 15, 3) := by decide +kernel
theorem dX3_init_13 : decode cX3_init 13 = .ok (.istore_n 2, 1) := by decide +kernel
theorem dX3_init_14 : decode cX3_init 14 = .ok (.aload_n 0, 1) := by decide +kernel
theorem dX3_init_15 : decode cX3_init 15 = .ok (.new 18, 3) := by decide +kernel
theorem dX3_init_18 : decode cX3_init 18 = .ok (.dup, 1) := by decide +kernel
theorem dX3_init_19 : decode cX3_init 19 = .ok (.iload_n 2, 1) := by decide +kernel
theorem dX3_init_20 : decode cX3_init 20 = .ok (.invokespecial 20, 3) := by decide +kernel
theorem dX3_init_23 : decode cX3_init 23 = .ok (.putfield 23, 3) := by decide +kernel
theorem dX3_init_26 : decode cX3_init 26 = .ok (.aload_n 0, 1) := by decide +kernel
theorem dX3_init_27 : decode cX3_init 27 = .ok (.new 27, 3) := by decide +kernel
theorem dX3_init_30 : decode cX3_init 30 = .ok (.dup, 1) := by decide +kernel
theorem dX3_init_31 : decode cX3_init 31 = .ok (.sipush 300, 3) := by decide +kernel
theorem dX3_init_34 : decode cX3_init 34 = .ok (.invokespecial 29, 3) := by decide +kernel
theorem dX3_init_37 : decode cX3_init 37 = .ok (.putfield 30, 3) := by decide +kernel
theorem dX3_init_40 : decode cX3_init 40 = .ok (.aload_n 0, 1) := by decide +kernel
theorem dX3_init_41 : decode cX3_init 41 = .ok (.new 34, 3) := by decide +kernel
theorem dX3_init_44 : decode cX3_init 44 = .ok (.dup, 1) := by decide +kernel
theorem dX3_init_45 : decode cX3_init 45 = .ok (.iload_n 2, 1) := by decide +kernel
theorem dX3_init_46 : decode cX3_init 46 = .ok (.invokespecial 36, 3) := by decide +kernel
theorem dX3_init_49 : decode cX3_init 49 = .ok (.putfield 37, 3) := by decide +kernel
theorem dX3_init_52 : decode cX3_init 52 = .ok (.aload_n 0, 1) := by decide +kernel
theorem dX3_init_53 : decode cX3_init 53 = .ok (.iconst 0, 1) := by decide +kernel
theorem dX3_init_54 : decode cX3_init 54 = .ok (.putfield 41, 3) := by decide +kernel
theorem dX3_init_57 : decode cX3_init 57 = .ok (.return_, 1) := by decide +kernel
set_option maxRecDepth 20000 in
theorem ggX3_set_X0_hasPlace : GoodIn wsX3_set wsX0_hasPlace := goodIn_r _ [9, 10, 28, 29] (by decide +kernel) (by decide +kernel)
set_option maxRecDepth 20000 in
theorem gX3_set_X0_hasPlace : GoodIn wsX3_set (wsV RX3 45 RX0 yX0_hasPlace wsX0_hasPlace) := goodIn_app (goodIn_of _ (by decide +kernel)) ggX3_set_X0_hasPlace
set_option maxRecDepth 20000 in
theorem ggX3_set_X0_allows : GoodIn wsX3_set wsX0_allows := goodIn_r _ [14, 10, 28, 29] (by decide +kernel) (by decide +kernel)
set_option maxRecDepth 20000 in
theorem gX3_set_X0_allows : GoodIn wsX3_set (wsV RX3 56 RX0 yX0_allows wsX0_allows) := goodIn_app (goodIn_of _ (by decide +kernel)) ggX3_set_X0_allows
set_option maxRecDepth 20000 in
theorem ggX3_set_X0_codeAt : GoodIn wsX3_set wsX0_codeAt := goodIn_r _ [18, 19, 28, 29] (by decide +kernel) (by decide +kernel)
set_option maxRecDepth 20000 in
theorem gX3_set_X0_codeAt : GoodIn wsX3_set (wsV RX3 62 RX0 yX0_codeAt wsX0_codeAt) := goodIn_app (goodIn_of _ (by decide +kernel)) ggX3_set_X0_codeAt
set_option maxRecDepth 20000 in
theorem ggX3_set_X0_put : GoodIn wsX3_set wsX0_put := goodIn_r _ [23, 19, 28, 29] (by decide +kernel) (by decide +kernel)
set_option maxRecDepth 20000 in
theorem gX3_set_X0_put : GoodIn wsX3_set (wsV RX3 65 RX0 yX0_put wsX0_put) := goodIn_app (goodIn_of _ (by decide +kernel)) ggX3_set_X0_put
theorem dX3_set_0 : decode cX3_set 0 = .ok (.aload_n 0, 1) := by decide +kernel
theorem dX3_set_1 : decode cX3_set 1 = .ok (.getfield 23, 3) := by decide +kernel
theorem dX3_set_4 : decode cX3_set 4 = .ok (.iload_n 1, 1) := by decide +kernel
theorem dX3_set_5 : decode cX3_set 5 = .ok (.iload_n 2, 1) := by decide +kernel
theorem dX3_set_6 : decode cX3_set 6 = .ok (.invokevirtual 45, 3) := by decide +kernel
theorem dX3_set_9 : decode cX3_set 9 = .ok (.ifCond .ne 13, 3) := by decide +kernel
theorem dX3_set_12 : decode cX3_set 12 = .ok (.new 49, 3) := by decide +kernel
theorem dX3_set_15 : decode cX3_set 15 = .ok (.dup, 1) := by decide +kernel
theorem dX3_set_16 : decode cX3_set 16 = .ok (.ldc 51, 2) := by decide +kernel
theorem dX3_set_18 : decode cX3_set 18 = .ok (.invokespecial 53, 3) := by decide +kernel
theorem dX3_set_21 : decode cX3_set 21 = .ok (.athrow, 1) := by decide +kernel
theorem dX3_set_22 : decode cX3_set 22 = .ok (.aload_n 0, 1) := by decide +kernel
theorem dX3_set_23 : decode cX3_set 23 = .ok (.getfield 23, 3) := by decide +kernel
theorem dX3_set_26 : decode cX3_set 26 = .ok (.iload_n 3, 1) := by decide +kernel
theorem dX3_set_27 : decode cX3_set 27 = .ok (.invokevirtual 56, 3) := by decide +kernel
theorem dX3_set_30 : decode cX3_set 30 = .ok (.ifCond .ne 13, 3) := by decide +kernel
theorem dX3_set_33 : decode cX3_set 33 = .ok (.new 49, 3) := by decide +kernel
theorem dX3_set_36 : decode cX3_set 36 = .ok (.dup, 1) := by decide +kernel
theorem dX3_set_37 : decode cX3_set 37 = .ok (.ldc 60, 2) := by decide +kernel
theorem dX3_set_39 : decode cX3_set 39 = .ok (.invokespecial 53, 3) := by decide +kernel
theorem dX3_set_42 : decode cX3_set 42 = .ok (.athrow, 1) := by decide +kernel
theorem dX3_set_43 : decode cX3_set 43 = .ok (.aload_n 0, 1) := by decide +kernel
theorem dX3_set_44 : decode cX3_set 44 = .ok (.getfield 23, 3) := by decide +kernel
theorem dX3_set_47 : decode cX3_set 47 = .ok (.iload_n 1, 1) := by decide +kernel
theorem dX3_set_48 : decode cX3_set 48 = .ok (.iload_n 2, 1) := by decide +kernel
theorem dX3_set_49 : decode cX3_set 49 = .ok (.invokevirtual 62, 3) := by decide +kernel
theorem dX3_set_52 : decode cX3_set 52 = .ok (.istore 4, 2) := by decide +kernel
theorem dX3_set_54 : decode cX3_set 54 = .ok (.aload_n 0, 1) := by decide +kernel
theorem dX3_set_55 : decode cX3_set 55 = .ok (.getfield 23, 3) := by decide +kernel
theorem dX3_set_58 : decode cX3_set 58 = .ok (.iload_n 1, 1) := by decide +kernel
theorem dX3_set_59 : decode cX3_set 59 = .ok (.iload_n 2, 1) := by decide +kernel
theorem dX3_set_60 : decode cX3_set 60 = .ok (.iload_n 3, 1) := by decide +kernel
theorem dX3_set_61 : decode cX3_set 61 = .ok (.invokevirtual 65, 3) := by decide +kernel
theorem dX3_set_64 : decode cX3_set 64 = .ok (.aload_n 0, 1) := by decide +kernel
theorem dX3_set_65 : decode cX3_set 65 = .ok (.iconst 0, 1) := by decide +kernel
theorem dX3_set_66 : decode cX3_set 66 = .ok (.putfield 41, 3) := by decide +kernel
theorem dX3_set_69 : decode cX3_set 69 = .ok (.iload 4, 2) := by decide +kernel
theorem dX3_set_71 : decode cX3_set 71 = .ok (.ireturn, 1) := by decide +kernel
set_option maxRecDepth 20000 in
theorem ggX3_run_X2_follow : GoodIn wsX3_run wsX2_follow := goodIn_r _ [10, 11, 12, 13, 14, 15, 16, 17, 18, 19, 20, 21, 22, 9, 23, 24, 25, 26, 27, 28, 29, 30, 31, 32, 33, 34, 35, 36, 37, 38, 39, 40, 41, 42, 43, 44, 45, 46, 47, 48, 49, 50, 51, 52, 53, 54, 55, 56, 57, 58, 59, 60, 61, 62, 63, 64, 65, 66, 67, 68, 69, 70, 71, 72, 73, 74, 75, 76, 77, 78, 79, 80, 81, 82, 83, 84, 85, 86, 87, 88, 89, 90, 91, 96, 97, 98, 99, 100, 101, 102, 103, 104, 105, 106, 107, 108, 109, 110, 111, 112, 113] (by decide +kernel) (by decide +kernel)
set_option maxRecDepth 20000 in
theorem gX3_run_X2_follow : GoodIn wsX3_run (wsV RX3 71 RX2 yX2_follow wsX2_follow) := goodIn_app (goodIn_of _ (by decide +kernel)) ggX3_run_X2_follow
theorem dX3_run_0 : decode cX3_run 0 = .ok (.iload_n 1, 1) := by decide +kernel
theorem dX3_run_1 : decode cX3_run 1 = .ok (.iconst 1, 1) := by decide +kernel
theorem dX3_run_2 : decode cX3_run 2 = .ok (.if_icmp .lt 10, 3) := by decide +kernel
theorem dX3_run_5 : decode cX3_run 5 = .ok (.iload_n 1, 1) := by decide +kernel
theorem dX3_run_6 : decode cX3_run 6 = .ok (.sipush 300, 3) := by decide +kernel
theorem dX3_run_9 : decode cX3_run 9 = .ok (.if_icmp .le 13, 3) := by decide +kernel
theorem dX3_run_12 : decode cX3_run 12 = .ok (.new 49, 3) := by decide +kernel
theorem dX3_run_15 : decode cX3_run 15 = .ok (.dup, 1) := by decide +kernel
theorem dX3_run_16 : decode cX3_run 16 = .ok (.ldc 69, 2) := by decide +kernel
theorem dX3_run_18 : decode cX3_run 18 = .ok (.invokespecial 53, 3) := by decide +kernel
theorem dX3_run_21 : decode cX3_run 21 = .ok (.athrow, 1) := by decide +kernel
theorem dX3_run_22 : decode cX3_run 22 = .ok (.aload_n 0, 1) := by decide +kernel
theorem dX3_run_23 : decode cX3_run 23 = .ok (.getfield 30, 3) := by decide +kernel
theorem dX3_run_26 : decode cX3_run 26 = .ok (.aload_n 0, 1) := by decide +kernel
theorem dX3_run_27 : decode cX3_run 27 = .ok (.getfield 23, 3) := by decide +kernel
theorem dX3_run_30 : decode cX3_run 30 = .ok (.iload_n 1, 1) := by decide +kernel
theorem dX3_run_31 : decode cX3_run 31 = .ok (.invokevirtual 71, 3) := by decide +kernel
theorem dX3_run_34 : decode cX3_run 34 = .ok (.aload_n 0, 1) := by decide +kernel
theorem dX3_run_35 : decode cX3_run 35 = .ok (.iconst 1, 1) := by decide +kernel
theorem dX3_run_36 : decode cX3_run 36 = .ok (.putfield 41, 3) := by decide +kernel
theorem dX3_run_39 : decode cX3_run 39 = .ok (.aload_n 0, 1) := by decide +kernel
theorem dX3_run_40 : decode cX3_run 40 = .ok (.getfield 30, 3) := by decide +kernel
theorem dX3_run_43 : decode cX3_run 43 = .ok (.getfield 75, 3) := by decide +kernel
theorem dX3_run_46 : decode cX3_run 46 = .ok (.ireturn, 1) := by decide +kernel
set_option maxRecDepth 20000 in
theorem ggX3_figure_X3_needWalk : GoodIn wsX3_figure wsX3_needWalk := goodIn_ca (goodIn_r _ [8, 9, 10, 11, 12, 13, 14, 15] (by decide +kernel) (by decide +kernel)) (goodIn_sub (fun _ h => List.mem_cons_of_mem _ (List.mem_append_right _ h)) (by decide +kernel))
set_option maxRecDepth 20000 in
theorem gX3_figure_X3_needWalk : GoodIn wsX3_figure (wsV RX3 81 RX3 yX3_needWalk wsX3_needWalk) := goodIn_app (goodIn_of _ (by decide +kernel)) ggX3_figure_X3_needWalk
theorem dX3_figure_0 : decode cX3_figure 0 = .ok (.iload_n 1, 1) := by decide +kernel
theorem dX3_figure_1 : decode cX3_figure 1 = .ok (.ifCond .lt 9, 3) := by decide +kernel
theorem dX3_figure_4 : decode cX3_figure 4 = .ok (.iload_n 1, 1) := by decide +kernel
theorem dX3_figure_5 : decode cX3_figure 5 = .ok (.bipush 8, 2) := by decide +kernel
theorem dX3_figure_7 : decode cX3_figure 7 = .ok (.if_icmp .le 13, 3) := by decide +kernel
theorem dX3_figure_10 : decode cX3_figure 10 = .ok (.new 49, 3) := by decide +kernel
theorem dX3_figure_13 : decode cX3_figure 13 = .ok (.dup, 1) := by decide +kernel
theorem dX3_figure_14 : decode cX3_figure 14 = .ok (.ldc 79, 2) := by decide +kernel
theorem dX3_figure_16 : decode cX3_figure 16 = .ok (.invokespecial 53, 3) := by decide +kernel
theorem dX3_figure_19 : decode cX3_figure 19 = .ok (.athrow, 1) := by decide +kernel
theorem dX3_figure_20 : decode cX3_figure 20 = .ok (.aload_n 0, 1) := by decide +kernel
theorem dX3_figure_21 : decode cX3_figure 21 = .ok (.invokevirtual 81, 3) := by decide +kernel
theorem dX3_figure_24 : decode cX3_figure 24 = .ok (.iload_n 1, 1) := by decide +kernel
theorem dX3_figure_25 : decode cX3_figure 25 = .ok (.tableswitch 111 0 7 #[47, 55, 63, 71, 79, 87, 95, 103], 47) := by decide +kernel
theorem dX3_figure_72 : decode cX3_figure 72 = .ok (.aload_n 0, 1) := by decide +kernel
theorem dX3_figure_73 : decode cX3_figure 73 = .ok (.getfield 30, 3) := by decide +kernel
theorem dX3_figure_76 : decode cX3_figure 76 = .ok (.getfield 75, 3) := by decide +kernel
theorem dX3_figure_79 : decode cX3_figure 79 = .ok (.ireturn, 1) := by decide +kernel
theorem dX3_figure_80 : decode cX3_figure 80 = .ok (.aload_n 0, 1) := by decide +kernel
theorem dX3_figure_81 : decode cX3_figure 81 = .ok (.getfield 30, 3) := by decide +kernel
theorem dX3_figure_84 : decode cX3_figure 84 = .ok (.getfield 84, 3) := by decide +kernel
theorem dX3_figure_87 : decode cX3_figure 87 = .ok (.ireturn, 1) := by decide +kernel
theorem dX3_figure_88 : decode cX3_figure 88 = .ok (.aload_n 0, 1) := by decide +kernel
theorem dX3_figure_89 : decode cX3_figure 89 = .ok (.getfield 30, 3) := by decide +kernel
theorem dX3_figure_92 : decode cX3_figure 92 = .ok (.getfield 87, 3) := by decide +kernel
theorem dX3_figure_95 : decode cX3_figure 95 = .ok (.ireturn, 1) := by decide +kernel
theorem dX3_figure_96 : decode cX3_figure 96 = .ok (.aload_n 0, 1) := by decide +kernel
theorem dX3_figure_97 : decode cX3_figure 97 = .ok (.getfield 30, 3) := by decide +kernel
theorem dX3_figure_100 : decode cX3_figure 100 = .ok (.getfield 90, 3) := by decide +kernel
theorem dX3_figure_103 : decode cX3_figure 103 = .ok (.ireturn, 1) := by decide +kernel
theorem dX3_figure_104 : decode cX3_figure 104 = .ok (.aload_n 0, 1) := by decide +kernel
theorem dX3_figure_105 : decode cX3_figure 105 = .ok (.getfield 30, 3) := by decide +kernel
theorem dX3_figure_108 : decode cX3_figure 108 = .ok (.getfield 93, 3) := by decide +kernel
theorem dX3_figure_111 : decode cX3_figure 111 = .ok (.ireturn, 1) := by decide +kernel
theorem dX3_figure_112 : decode cX3_figure 112 = .ok (.aload_n 0, 1) := by decide +kernel
theorem dX3_figure_113 : decode cX3_figure 113 = .ok (.getfield 30, 3) := by decide +kernel
theorem dX3_figure_116 : decode cX3_figure 116 = .ok (.getfield 96, 3) := by decide +kernel
theorem dX3_figure_119 : decode cX3_figure 119 = .ok (.ireturn, 1) := by decide +kernel
theorem dX3_figure_120 : decode cX3_figure 120 = .ok (.aload_n 0, 1) := by decide +kernel
theorem dX3_figure_121 : decode cX3_figure 121 = .ok (.getfield 30, 3) := by decide +kernel
theorem dX3_figure_124 : decode cX3_figure 124 = .ok (.getfield 99, 3) := by decide +kernel
theorem dX3_figure_127 : decode cX3_figure 127 = .ok (.ireturn, 1) := by decide +kernel
theorem dX3_figure_128 : decode cX3_figure 128 = .ok (.aload_n 0, 1) := by decide +kernel
theorem dX3_figure_129 : decode cX3_figure 129 = .ok (.getfield 30, 3) := by decide +kernel
theorem dX3_figure_132 : decode cX3_figure 132 = .ok (.getfield 102, 3) := by decide +kernel
theorem dX3_figure_135 : decode cX3_figure 135 = .ok (.ireturn, 1) := by decide +kernel
theorem dX3_figure_136 : decode cX3_figure 136 = .ok (.aload_n 0, 1) := by decide +kernel
theorem dX3_figure_137 : decode cX3_figure 137 = .ok (.getfield 30, 3) := by decide +kernel
theorem dX3_figure_140 : decode cX3_figure 140 = .ok (.getfield 105, 3) := by decide +kernel
theorem dX3_figure_143 : decode cX3_figure 143 = .ok (.ireturn, 1) := by decide +kernel
set_option maxRecDepth 20000 in
theorem ggX3_cell_X3_needWalk : GoodIn wsX3_cell wsX3_needWalk := goodIn_ca (goodIn_r _ [6, 7, 8, 9, 21, 22, 23, 24] (by decide +kernel) (by decide +kernel)) (goodIn_sub (fun _ h => List.mem_cons_of_mem _ (List.mem_append_right _ h)) (by decide +kernel))
set_option maxRecDepth 20000 in
theorem gX3_cell_X3_needWalk : GoodIn wsX3_cell (wsV RX3 81 RX3 yX3_needWalk wsX3_needWalk) := goodIn_app (goodIn_of _ (by decide +kernel)) ggX3_cell_X3_needWalk
set_option maxRecDepth 20000 in
theorem ggX3_cell_X2_symbolNow : GoodIn wsX3_cell wsX2_symbolNow := goodIn_r _ [14, 15, 16, 17, 18, 13, 19, 20, 25, 26, 27, 28, 29, 30, 31, 32, 33, 34, 35, 36, 37, 38, 39, 40] (by decide +kernel) (by decide +kernel)
set_option maxRecDepth 20000 in
theorem gX3_cell_X2_symbolNow : GoodIn wsX3_cell (wsV RX3 108 RX2 yX2_symbolNow wsX2_symbolNow) := goodIn_app (goodIn_of _ (by decide +kernel)) ggX3_cell_X2_symbolNow
theorem dX3_cell_0 : decode cX3_cell 0 = .ok (.aload_n 0, 1) := by decide +kernel
theorem dX3_cell_1 : decode cX3_cell 1 = .ok (.invokevirtual 81, 3) := by decide +kernel
theorem dX3_cell_4 : decode cX3_cell 4 = .ok (.aload_n 0, 1) := by decide +kernel
theorem dX3_cell_5 : decode cX3_cell 5 = .ok (.getfield 30, 3) := by decide +kernel
theorem dX3_cell_8 : decode cX3_cell 8 = .ok (.iload_n 1, 1) := by decide +kernel
theorem dX3_cell_9 : decode cX3_cell 9 = .ok (.invokevirtual 108, 3) := by decide +kernel
theorem dX3_cell_12 : decode cX3_cell 12 = .ok (.ireturn, 1) := by decide +kernel
set_option maxRecDepth 20000 in
theorem ggX3_share_X3_needWalk : GoodIn wsX3_share wsX3_needWalk := goodIn_ca (goodIn_r _ [6, 7, 8, 9, 10, 11, 12, 13] (by decide +kernel) (by decide +kernel)) (goodIn_sub (fun _ h => List.mem_cons_of_mem _ (List.mem_append_right _ h)) (by decide +kernel))
set_option maxRecDepth 20000 in
theorem gX3_share_X3_needWalk : GoodIn wsX3_share (wsV RX3 81 RX3 yX3_needWalk wsX3_needWalk) := goodIn_app (goodIn_of _ (by decide +kernel)) ggX3_share_X3_needWalk
theorem dX3_share_0 : decode cX3_share 0 = .ok (.aload_n 0, 1) := by decide +kernel
theorem dX3_share_1 : decode cX3_share 1 = .ok (.invokevirtual 81, 3) := by decide +kernel
theorem dX3_share_4 : decode cX3_share 4 = .ok (.aload_n 0, 1) := by decide +kernel
theorem dX3_share_5 : decode cX3_share 5 = .ok (.getfield 30, 3) := by decide +kernel
theorem dX3_share_8 : decode cX3_share 8 = .ok (.getfield 105, 3) := by decide +kernel
theorem dX3_share_11 : decode cX3_share 11 = .ok (.aload_n 0, 1) := by decide +kernel
theorem dX3_share_12 : decode cX3_share 12 = .ok (.getfield 30, 3) := by decide +kernel
theorem dX3_share_15 : decode cX3_share 15 = .ok (.getfield 102, 3) := by decide +kernel
theorem dX3_share_18 : decode cX3_share 18 = .ok (.isub, 1) := by decide +kernel
theorem dX3_share_19 : decode cX3_share 19 = .ok (.iconst 1, 1) := by decide +kernel
theorem dX3_share_20 : decode cX3_share 20 = .ok (.iadd, 1) := by decide +kernel
theorem dX3_share_21 : decode cX3_share 21 = .ok (.istore_n 1, 1) := by decide +kernel
theorem dX3_share_22 : decode cX3_share 22 = .ok (.iload_n 1, 1) := by decide +kernel
theorem dX3_share_23 : decode cX3_share 23 = .ok (.ifCond .le 17, 3) := by decide +kernel
theorem dX3_share_26 : decode cX3_share 26 = .ok (.aload_n 0, 1) := by decide +kernel
theorem dX3_share_27 : decode cX3_share 27 = .ok (.getfield 30, 3) := by decide +kernel
theorem dX3_share_30 : decode cX3_share 30 = .ok (.getfield 99, 3) := by decide +kernel
theorem dX3_share_33 : decode cX3_share 33 = .ok (.i2f, 1) := by decide +kernel
theorem dX3_share_34 : decode cX3_share 34 = .ok (.iload_n 1, 1) := by decide +kernel
theorem dX3_share_35 : decode cX3_share 35 = .ok (.i2f, 1) := by decide +kernel
theorem dX3_share_36 : decode cX3_share 36 = .ok (.fdiv, 1) := by decide +kernel
theorem dX3_share_37 : decode cX3_share 37 = .ok (.goto 4, 3) := by decide +kernel
theorem dX3_share_40 : decode cX3_share 40 = .ok (.fconst 0, 1) := by decide +kernel
theorem dX3_share_41 : decode cX3_share 41 = .ok (.freturn, 1) := by decide +kernel
set_option maxRecDepth 20000 in
theorem ggX3_grow_X1_takeNext : GoodIn wsX3_grow wsX1_takeNext := goodIn_r _ [8, 9, 10, 11, 12, 13, 14, 15, 16, 7, 17, 18, 19, 20, 21, 22, 23, 24, 25, 26, 27, 28, 29, 30, 31, 32, 33, 34, 35, 36, 37, 38, 39, 40, 41, 42, 43, 44, 45, 46, 47, 48, 49, 50, 51, 52, 53, 54, 55, 56, 57, 58, 59, 60, 61, 62, 63, 64, 65, 66, 67, 68, 69, 70, 71, 72, 73, 74, 75, 76, 77, 78, 79, 80, 81, 82, 83, 84, 85, 86, 87, 88, 89, 90, 91, 92, 93, 94, 95, 96, 97, 98, 99, 100, 101, 102, 103, 104, 105, 106, 107, 108, 109, 110, 111, 112, 113, 114, 115, 116, 117, 118, 119, 120, 121, 122, 123, 124, 125, 126, 127, 128, 129, 130, 131, 132, 133, 134, 135, 136, 137, 138, 139, 140, 141, 142, 143, 144, 145, 146, 147, 148, 149, 150, 151, 156, 157, 158, 159, 160, 161, 162, 163, 164, 165, 166, 167, 168, 169, 170, 171, 172, 173, 174, 175, 176, 177, 178, 179, 180, 181, 182, 183, 184, 185, 186, 187, 188, 189, 190, 191] (by decide +kernel) (by decide +kernel)
set_option maxRecDepth 20000 in
theorem gX3_grow_X1_takeNext : GoodIn wsX3_grow (wsV RX3 114 RX1 yX1_takeNext wsX1_takeNext) := goodIn_app (goodIn_of _ (by decide +kernel)) ggX3_grow_X1_takeNext
theorem dX3_grow_0 : decode cX3_grow 0 = .ok (.iload_n 1, 1) := by decide +kernel
theorem dX3_grow_1 : decode cX3_grow 1 = .ok (.iconst 1, 1) := by decide +kernel
theorem dX3_grow_2 : decode cX3_grow 2 = .ok (.if_icmp .lt 9, 3) := by decide +kernel
theorem dX3_grow_5 : decode cX3_grow 5 = .ok (.iload_n 1, 1) := by decide +kernel
theorem dX3_grow_6 : decode cX3_grow 6 = .ok (.bipush 40, 2) := by decide +kernel
theorem dX3_grow_8 : decode cX3_grow 8 = .ok (.if_icmp .le 13, 3) := by decide +kernel
theorem dX3_grow_11 : decode cX3_grow 11 = .ok (.new 49, 3) := by decide +kernel
theorem dX3_grow_14 : decode cX3_grow 14 = .ok (.dup, 1) := by decide +kernel
theorem dX3_grow_15 : decode cX3_grow 15 = .ok (.ldc 112, 2) := by decide +kernel
theorem dX3_grow_17 : decode cX3_grow 17 = .ok (.invokespecial 53, 3) := by decide +kernel
theorem dX3_grow_20 : decode cX3_grow 20 = .ok (.athrow, 1) := by decide +kernel
theorem dX3_grow_21 : decode cX3_grow 21 = .ok (.iconst 0, 1) := by decide +kernel
theorem dX3_grow_22 : decode cX3_grow 22 = .ok (.istore_n 2, 1) := by decide +kernel
theorem dX3_grow_23 : decode cX3_grow 23 = .ok (.iload_n 2, 1) := by decide +kernel
theorem dX3_grow_24 : decode cX3_grow 24 = .ok (.iload_n 1, 1) := by decide +kernel
theorem dX3_grow_25 : decode cX3_grow 25 = .ok (.if_icmp .ge 19, 3) := by decide +kernel
theorem dX3_grow_28 : decode cX3_grow 28 = .ok (.aload_n 0, 1) := by decide +kernel
theorem dX3_grow_29 : decode cX3_grow 29 = .ok (.getfield 37, 3) := by decide +kernel
theorem dX3_grow_32 : decode cX3_grow 32 = .ok (.invokevirtual 114, 3) := by decide +kernel
theorem dX3_grow_35 : decode cX3_grow 35 = .ok (.ifCond .eq 9, 3) := by decide +kernel
theorem dX3_grow_38 : decode cX3_grow 38 = .ok (.iinc 2 1, 3) := by decide +kernel
theorem dX3_grow_41 : decode cX3_grow 41 = .ok (.goto (-18), 3) := by decide +kernel
theorem dX3_grow_44 : decode cX3_grow 44 = .ok (.iload_n 2, 1) := by decide +kernel
theorem dX3_grow_45 : decode cX3_grow 45 = .ok (.ireturn, 1) := by decide +kernel
theorem dX3_taken_0 : decode cX3_taken 0 = .ok (.iload_n 1, 1) := by decide +kernel
theorem dX3_taken_1 : decode cX3_taken 1 = .ok (.tableswitch 99 0 6 #[43, 51, 59, 67, 75, 83, 91], 43) := by decide +kernel
theorem dX3_taken_44 : decode cX3_taken 44 = .ok (.aload_n 0, 1) := by decide +kernel
theorem dX3_taken_45 : decode cX3_taken 45 = .ok (.getfield 37, 3) := by decide +kernel
theorem dX3_taken_48 : decode cX3_taken 48 = .ok (.getfield 118, 3) := by decide +kernel
theorem dX3_taken_51 : decode cX3_taken 51 = .ok (.ireturn, 1) := by decide +kernel
theorem dX3_taken_52 : decode cX3_taken 52 = .ok (.aload_n 0, 1) := by decide +kernel
theorem dX3_taken_53 : decode cX3_taken 53 = .ok (.getfield 37, 3) := by decide +kernel
theorem dX3_taken_56 : decode cX3_taken 56 = .ok (.getfield 121, 3) := by decide +kernel
theorem dX3_taken_59 : decode cX3_taken 59 = .ok (.ireturn, 1) := by decide +kernel
theorem dX3_taken_60 : decode cX3_taken 60 = .ok (.aload_n 0, 1) := by decide +kernel
theorem dX3_taken_61 : decode cX3_taken 61 = .ok (.getfield 37, 3) := by decide +kernel
theorem dX3_taken_64 : decode cX3_taken 64 = .ok (.getfield 124, 3) := by decide +kernel
theorem dX3_taken_67 : decode cX3_taken 67 = .ok (.ireturn, 1) := by decide +kernel
theorem dX3_taken_68 : decode cX3_taken 68 = .ok (.aload_n 0, 1) := by decide +kernel
theorem dX3_taken_69 : decode cX3_taken 69 = .ok (.getfield 37, 3) := by decide +kernel
theorem dX3_taken_72 : decode cX3_taken 72 = .ok (.getfield 127, 3) := by decide +kernel
theorem dX3_taken_75 : decode cX3_taken 75 = .ok (.ireturn, 1) := by decide +kernel
theorem dX3_taken_76 : decode cX3_taken 76 = .ok (.aload_n 0, 1) := by decide +kernel
theorem dX3_taken_77 : decode cX3_taken 77 = .ok (.getfield 37, 3) := by decide +kernel
theorem dX3_taken_80 : decode cX3_taken 80 = .ok (.getfield 130, 3) := by decide +kernel
theorem dX3_taken_83 : decode cX3_taken 83 = .ok (.ireturn, 1) := by decide +kernel
theorem dX3_taken_84 : decode cX3_taken 84 = .ok (.aload_n 0, 1) := by decide +kernel
theorem dX3_taken_85 : decode cX3_taken 85 = .ok (.getfield 37, 3) := by decide +kernel
theorem dX3_taken_88 : decode cX3_taken 88 = .ok (.getfield 133, 3) := by decide +kernel
theorem dX3_taken_91 : decode cX3_taken 91 = .ok (.ireturn, 1) := by decide +kernel
theorem dX3_taken_92 : decode cX3_taken 92 = .ok (.aload_n 0, 1) := by decide +kernel
theorem dX3_taken_93 : decode cX3_taken 93 = .ok (.getfield 37, 3) := by decide +kernel
theorem dX3_taken_96 : decode cX3_taken 96 = .ok (.getfield 136, 3) := by decide +kernel
theorem dX3_taken_99 : decode cX3_taken 99 = .ok (.ireturn, 1) := by decide +kernel
theorem dX3_taken_100 : decode cX3_taken 100 = .ok (.new 49, 3) := by decide +kernel
theorem dX3_taken_103 : decode cX3_taken 103 = .ok (.dup, 1) := by decide +kernel
theorem dX3_taken_104 : decode cX3_taken 104 = .ok (.ldc 139, 2) := by decide +kernel
theorem dX3_taken_106 : decode cX3_taken 106 = .ok (.invokespecial 53, 3) := by decide +kernel
theorem dX3_taken_109 : decode cX3_taken 109 = .ok (.athrow, 1) := by decide +kernel
set_option maxRecDepth 20000 in
theorem ggX3_champion_X0_hasPlace : GoodIn wsX3_champion wsX0_hasPlace := goodIn_r _ [8, 9, 37, 38] (by decide +kernel) (by decide +kernel)
set_option maxRecDepth 20000 in
theorem gX3_champion_X0_hasPlace : GoodIn wsX3_champion (wsV RX3 45 RX0 yX0_hasPlace wsX0_hasPlace) := goodIn_app (goodIn_of _ (by decide +kernel)) ggX3_champion_X0_hasPlace
set_option maxRecDepth 20000 in
theorem ggX3_champion_X0_codeAt : GoodIn wsX3_champion wsX0_codeAt := goodIn_r _ [13, 14, 37, 38] (by decide +kernel) (by decide +kernel)
set_option maxRecDepth 20000 in
theorem gX3_champion_X0_codeAt : GoodIn wsX3_champion (wsV RX3 62 RX0 yX0_codeAt wsX0_codeAt) := goodIn_app (goodIn_of _ (by decide +kernel)) ggX3_champion_X0_codeAt
theorem dX3_champion_0 : decode cX3_champion 0 = .ok (.aload_n 0, 1) := by decide +kernel
theorem dX3_champion_1 : decode cX3_champion 1 = .ok (.getfield 37, 3) := by decide +kernel
theorem dX3_champion_4 : decode cX3_champion 4 = .ok (.getfield 141, 3) := by decide +kernel
theorem dX3_champion_7 : decode cX3_champion 7 = .ok (.iload_n 1, 1) := by decide +kernel
theorem dX3_champion_8 : decode cX3_champion 8 = .ok (.iload_n 2, 1) := by decide +kernel
theorem dX3_champion_9 : decode cX3_champion 9 = .ok (.invokevirtual 45, 3) := by decide +kernel
theorem dX3_champion_12 : decode cX3_champion 12 = .ok (.ifCond .ne 13, 3) := by decide +kernel
theorem dX3_champion_15 : decode cX3_champion 15 = .ok (.new 49, 3) := by decide +kernel
theorem dX3_champion_18 : decode cX3_champion 18 = .ok (.dup, 1) := by decide +kernel
theorem dX3_champion_19 : decode cX3_champion 19 = .ok (.ldc 51, 2) := by decide +kernel
theorem dX3_champion_21 : decode cX3_champion 21 = .ok (.invokespecial 53, 3) := by decide +kernel
theorem dX3_champion_24 : decode cX3_champion 24 = .ok (.athrow, 1) := by decide +kernel
theorem dX3_champion_25 : decode cX3_champion 25 = .ok (.aload_n 0, 1) := by decide +kernel
theorem dX3_champion_26 : decode cX3_champion 26 = .ok (.getfield 37, 3) := by decide +kernel
theorem dX3_champion_29 : decode cX3_champion 29 = .ok (.getfield 141, 3) := by decide +kernel
theorem dX3_champion_32 : decode cX3_champion 32 = .ok (.iload_n 1, 1) := by decide +kernel
theorem dX3_champion_33 : decode cX3_champion 33 = .ok (.iload_n 2, 1) := by decide +kernel
theorem dX3_champion_34 : decode cX3_champion 34 = .ok (.invokevirtual 62, 3) := by decide +kernel
theorem dX3_champion_37 : decode cX3_champion 37 = .ok (.ireturn, 1) := by decide +kernel
theorem dX3_mean_0 : decode cX3_mean 0 = .ok (.aload_n 0, 1) := by decide +kernel
theorem dX3_mean_1 : decode cX3_mean 1 = .ok (.getfield 37, 3) := by decide +kernel
theorem dX3_mean_4 : decode cX3_mean 4 = .ok (.getfield 121, 3) := by decide +kernel
theorem dX3_mean_7 : decode cX3_mean 7 = .ok (.ifCond .gt 13, 3) := by decide +kernel
theorem dX3_mean_10 : decode cX3_mean 10 = .ok (.new 144, 3) := by decide +kernel
theorem dX3_mean_13 : decode cX3_mean 13 = .ok (.dup, 1) := by decide +kernel
theorem dX3_mean_14 : decode cX3_mean 14 = .ok (.ldc 146, 2) := by decide +kernel
theorem dX3_mean_16 : decode cX3_mean 16 = .ok (.invokespecial 148, 3) := by decide +kernel
theorem dX3_mean_19 : decode cX3_mean 19 = .ok (.athrow, 1) := by decide +kernel
theorem dX3_mean_20 : decode cX3_mean 20 = .ok (.aload_n 0, 1) := by decide +kernel
theorem dX3_mean_21 : decode cX3_mean 21 = .ok (.getfield 37, 3) := by decide +kernel
theorem dX3_mean_24 : decode cX3_mean 24 = .ok (.getfield 149, 3) := by decide +kernel
theorem dX3_mean_27 : decode cX3_mean 27 = .ok (.i2f, 1) := by decide +kernel
theorem dX3_mean_28 : decode cX3_mean 28 = .ok (.aload_n 0, 1) := by decide +kernel
theorem dX3_mean_29 : decode cX3_mean 29 = .ok (.getfield 37, 3) := by decide +kernel
theorem dX3_mean_32 : decode cX3_mean 32 = .ok (.getfield 121, 3) := by decide +kernel
theorem dX3_mean_35 : decode cX3_mean 35 = .ok (.i2f, 1) := by decide +kernel
theorem dX3_mean_36 : decode cX3_mean 36 = .ok (.fdiv, 1) := by decide +kernel
theorem dX3_mean_37 : decode cX3_mean 37 = .ok (.freturn, 1) := by decide +kernel
theorem dX3_needWalk_0 : decode cX3_needWalk 0 = .ok (.aload_n 0, 1) := by decide +kernel
theorem dX3_needWalk_1 : decode cX3_needWalk 1 = .ok (.getfield 41, 3) := by decide +kernel
theorem dX3_needWalk_4 : decode cX3_needWalk 4 = .ok (.ifCond .ne 13, 3) := by decide +kernel
theorem dX3_needWalk_7 : decode cX3_needWalk 7 = .ok (.new 144, 3) := by decide +kernel
theorem dX3_needWalk_10 : decode cX3_needWalk 10 = .ok (.dup, 1) := by decide +kernel
theorem dX3_needWalk_11 : decode cX3_needWalk 11 = .ok (.ldc 152, 2) := by decide +kernel
theorem dX3_needWalk_13 : decode cX3_needWalk 13 = .ok (.invokespecial 148, 3) := by decide +kernel
theorem dX3_needWalk_16 : decode cX3_needWalk 16 = .ok (.athrow, 1) := by decide +kernel
theorem dX3_needWalk_17 : decode cX3_needWalk 17 = .ok (.return_, 1) := by decide +kernel
theorem dX4_init_0 : decode cX4_init 0 = .ok (.aload_n 0, 1) := by decide +kernel
theorem dX4_init_1 : decode cX4_init 1 = .ok (.invokespecial 1, 3) := by decide +kernel
theorem dX4_init_4 : decode cX4_init 4 = .ok (.aload_n 0, 1) := by decide +kernel
theorem dX4_init_5 : decode cX4_init 5 = .ok (.bipush 8, 2) := by decide +kernel
theorem dX4_init_7 : decode cX4_init 7 = .ok (.newarray .int, 2) := by decide +kernel
theorem dX4_init_9 : decode cX4_init 9 = .ok (.putfield 7, 3) := by decide +kernel
theorem dX4_init_12 : decode cX4_init 12 = .ok (.aload_n 0, 1) := by decide +kernel
theorem dX4_init_13 : decode cX4_init 13 = .ok (.bipush 8, 2) := by decide +kernel
theorem dX4_init_15 : decode cX4_init 15 = .ok (.newarray .int, 2) := by decide +kernel
theorem dX4_init_17 : decode cX4_init 17 = .ok (.putfield 13, 3) := by decide +kernel
theorem dX4_init_20 : decode cX4_init 20 = .ok (.aload_n 0, 1) := by decide +kernel
theorem dX4_init_21 : decode cX4_init 21 = .ok (.bipush 8, 2) := by decide +kernel
theorem dX4_init_23 : decode cX4_init 23 = .ok (.newarray .int, 2) := by decide +kernel
theorem dX4_init_25 : decode cX4_init 25 = .ok (.putfield 16, 3) := by decide +kernel
theorem dX4_init_28 : decode cX4_init 28 = .ok (.aload_n 0, 1) := by decide +kernel
theorem dX4_init_29 : decode cX4_init 29 = .ok (.sipush 620, 3) := by decide +kernel
theorem dX4_init_32 : decode cX4_init 32 = .ok (.newarray .int, 2) := by decide +kernel
theorem dX4_init_34 : decode cX4_init 34 = .ok (.putfield 19, 3) := by decide +kernel
theorem dX4_init_37 : decode cX4_init 37 = .ok (.aload_n 0, 1) := by decide +kernel
theorem dX4_init_38 : decode cX4_init 38 = .ok (.sipush 620, 3) := by decide +kernel
theorem dX4_init_41 : decode cX4_init 41 = .ok (.newarray .int, 2) := by decide +kernel
theorem dX4_init_43 : decode cX4_init 43 = .ok (.putfield 22, 3) := by decide +kernel
theorem dX4_init_46 : decode cX4_init 46 = .ok (.aload_n 0, 1) := by decide +kernel
theorem dX4_init_47 : decode cX4_init 47 = .ok (.sipush 301, 3) := by decide +kernel
theorem dX4_init_50 : decode cX4_init 50 = .ok (.newarray .int, 2) := by decide +kernel
theorem dX4_init_52 : decode cX4_init 52 = .ok (.putfield 25, 3) := by decide +kernel
theorem dX4_init_55 : decode cX4_init 55 = .ok (.aload_n 0, 1) := by decide +kernel
theorem dX4_init_56 : decode cX4_init 56 = .ok (.sipush 301, 3) := by decide +kernel
theorem dX4_init_59 : decode cX4_init 59 = .ok (.newarray .int, 2) := by decide +kernel
theorem dX4_init_61 : decode cX4_init 61 = .ok (.putfield 28, 3) := by decide +kernel
theorem dX4_init_64 : decode cX4_init 64 = .ok (.aload_n 0, 1) := by decide +kernel
theorem dX4_init_65 : decode cX4_init 65 = .ok (.sipush 301, 3) := by decide +kernel
theorem dX4_init_68 : decode cX4_init 68 = .ok (.newarray .int, 2) := by decide +kernel
theorem dX4_init_70 : decode cX4_init 70 = .ok (.putfield 31, 3) := by decide +kernel
theorem dX4_init_73 : decode cX4_init 73 = .ok (.aload_n 0, 1) := by decide +kernel
theorem dX4_init_74 : decode cX4_init 74 = .ok (.sipush 301, 3) := by decide +kernel
theorem dX4_init_77 : decode cX4_init 77 = .ok (.newarray .int, 2) := by decide +kernel
theorem dX4_init_79 : decode cX4_init 79 = .ok (.putfield 34, 3) := by decide +kernel
theorem dX4_init_82 : decode cX4_init 82 = .ok (.aload_n 0, 1) := by decide +kernel
theorem dX4_init_83 : decode cX4_init 83 = .ok (.bipush 9, 2) := by decide +kernel
theorem dX4_init_85 : decode cX4_init 85 = .ok (.newarray .int, 2) := by decide +kernel
theorem dX4_init_87 : decode cX4_init 87 = .ok (.putfield 37, 3) := by decide +kernel
theorem dX4_init_90 : decode cX4_init 90 = .ok (.aload_n 0, 1) := by decide +kernel
theorem dX4_init_91 : decode cX4_init 91 = .ok (.sipush 620, 3) := by decide +kernel
theorem dX4_init_94 : decode cX4_init 94 = .ok (.newarray .int, 2) := by decide +kernel
theorem dX4_init_96 : decode cX4_init 96 = .ok (.putfield 40, 3) := by decide +kernel
theorem dX4_init_99 : decode cX4_init 99 = .ok (.aload_n 0, 1) := by decide +kernel
theorem dX4_init_100 : decode cX4_init 100 = .ok (.iconst (-1), 1) := by decide +kernel
theorem dX4_init_101 : decode cX4_init 101 = .ok (.putfield 43, 3) := by decide +kernel
theorem dX4_init_104 : decode cX4_init 104 = .ok (.aload_n 0, 1) := by decide +kernel
theorem dX4_init_105 : decode cX4_init 105 = .ok (.bipush 8, 2) := by decide +kernel
theorem dX4_init_107 : decode cX4_init 107 = .ok (.newarray .int, 2) := by decide +kernel
theorem dX4_init_109 : decode cX4_init 109 = .ok (.putfield 47, 3) := by decide +kernel
theorem dX4_init_112 : decode cX4_init 112 = .ok (.aload_n 0, 1) := by decide +kernel
theorem dX4_init_113 : decode cX4_init 113 = .ok (.bipush 8, 2) := by decide +kernel
theorem dX4_init_115 : decode cX4_init 115 = .ok (.newarray .int, 2) := by decide +kernel
theorem dX4_init_117 : decode cX4_init 117 = .ok (.putfield 50, 3) := by decide +kernel
theorem dX4_init_120 : decode cX4_init 120 = .ok (.aload_n 0, 1) := by decide +kernel
theorem dX4_init_121 : decode cX4_init 121 = .ok (.iconst 4, 1) := by decide +kernel
theorem dX4_init_122 : decode cX4_init 122 = .ok (.newarray .int, 2) := by decide +kernel
theorem dX4_init_124 : decode cX4_init 124 = .ok (.putfield 53, 3) := by decide +kernel
theorem dX4_init_127 : decode cX4_init 127 = .ok (.aload_n 0, 1) := by decide +kernel
theorem dX4_init_128 : decode cX4_init 128 = .ok (.iload_n 1, 1) := by decide +kernel
theorem dX4_init_129 : decode cX4_init 129 = .ok (.iconst 2, 1) := by decide +kernel
theorem dX4_init_130 : decode cX4_init 130 = .ok (.if_icmp .ge 7, 3) := by decide +kernel
theorem dX4_init_133 : decode cX4_init 133 = .ok (.iconst 2, 1) := by decide +kernel
theorem dX4_init_134 : decode cX4_init 134 = .ok (.goto 13, 3) := by decide +kernel
theorem dX4_init_137 : decode cX4_init 137 = .ok (.iload_n 1, 1) := by decide +kernel
theorem dX4_init_138 : decode cX4_init 138 = .ok (.iconst 4, 1) := by decide +kernel
theorem dX4_init_139 : decode cX4_init 139 = .ok (.if_icmp .le 7, 3) := by decide +kernel
theorem dX4_init_142 : decode cX4_init 142 = .ok (.iconst 4, 1) := by decide +kernel
theorem dX4_init_143 : decode cX4_init 143 = .ok (.goto 4, 3) := by decide +kernel
theorem dX4_init_146 : decode cX4_init 146 = .ok (.iload_n 1, 1) := by decide +kernel
theorem dX4_init_147 : decode cX4_init 147 = .ok (.putfield 56, 3) := by decide +kernel
theorem dX4_init_150 : decode cX4_init 150 = .ok (.iconst 0, 1) := by decide +kernel
theorem dX4_init_151 : decode cX4_init 151 = .ok (.istore_n 2, 1) := by decide +kernel
theorem dX4_init_152 : decode cX4_init 152 = .ok (.iload_n 2, 1) := by decide +kernel
theorem dX4_init_153 : decode cX4_init 153 = .ok (.bipush 8, 2) := by decide +kernel
theorem dX4_init_155 : decode cX4_init 155 = .ok (.if_icmp .ge 30, 3) := by decide +kernel
theorem dX4_init_158 : decode cX4_init 158 = .ok (.aload_n 0, 1) := by decide +kernel
theorem dX4_init_159 : decode cX4_init 159 = .ok (.getfield 7, 3) := by decide +kernel
theorem dX4_init_162 : decode cX4_init 162 = .ok (.iload_n 2, 1) := by decide +kernel
theorem dX4_init_163 : decode cX4_init 163 = .ok (.iconst (-1), 1) := by decide +kernel
theorem dX4_init_164 : decode cX4_init 164 = .ok (.iastore, 1) := by decide +kernel
theorem dX4_init_165 : decode cX4_init 165 = .ok (.aload_n 0, 1) := by decide +kernel
theorem dX4_init_166 : decode cX4_init 166 = .ok (.getfield 13, 3) := by decide +kernel
theorem dX4_init_169 : decode cX4_init 169 = .ok (.iload_n 2, 1) := by decide +kernel
theorem dX4_init_170 : decode cX4_init 170 = .ok (.iconst (-1), 1) := by decide +kernel
theorem dX4_init_171 : decode cX4_init 171 = .ok (.iastore, 1) := by decide +kernel
theorem dX4_init_172 : decode cX4_init 172 = .ok (.aload_n 0, 1) := by decide +kernel
theorem dX4_init_173 : decode cX4_init 173 = .ok (.getfield 16, 3) := by decide +kernel
theorem dX4_init_176 : decode cX4_init 176 = .ok (.iload_n 2, 1) := by decide +kernel
theorem dX4_init_177 : decode cX4_init 177 = .ok (.iconst (-1), 1) := by decide +kernel
theorem dX4_init_178 : decode cX4_init 178 = .ok (.iastore, 1) := by decide +kernel
theorem dX4_init_179 : decode cX4_init 179 = .ok (.iinc 2 1, 3) := by decide +kernel
theorem dX4_init_182 : decode cX4_init 182 = .ok (.goto (-30), 3) := by decide +kernel
theorem dX4_init_185 : decode cX4_init 185 = .ok (.return_, 1) := by decide +kernel
theorem dX4_thrown_0 : decode cX4_thrown 0 = .ok (.aload_n 0, 1) := by decide +kernel
theorem dX4_thrown_1 : decode cX4_thrown 1 = .ok (.getfield 59, 3) := by decide +kernel
theorem dX4_thrown_4 : decode cX4_thrown 4 = .ok (.ireturn, 1) := by decide +kernel
theorem dX4_refuse_0 : decode cX4_refuse 0 = .ok (.aload_n 0, 1) := by decide +kernel
theorem dX4_refuse_1 : decode cX4_refuse 1 = .ok (.iload_n 1, 1) := by decide +kernel
theorem dX4_refuse_2 : decode cX4_refuse 2 = .ok (.putfield 59, 3) := by decide +kernel
theorem dX4_refuse_5 : decode cX4_refuse 5 = .ok (.iconst 0, 1) := by decide +kernel
theorem dX4_refuse_6 : decode cX4_refuse 6 = .ok (.ireturn, 1) := by decide +kernel
set_option maxRecDepth 20000 in
theorem ggX4_set_X4_refuse : GoodIn wsX4_set wsX4_refuse := goodIn_r _ [9, 1, 10, 11, 12, 13, 14, 15, 16, 17, 18, 19, 20, 21, 22, 23, 24, 25, 26, 27, 28, 29, 30, 31, 32, 33, 34, 35, 36, 37] (by decide +kernel) (by decide +kernel)
set_option maxRecDepth 20000 in
theorem gX4_set_X4_refuse : GoodIn wsX4_set (wsV RX4 62 RX4 yX4_refuse wsX4_refuse) := goodIn_app (goodIn_of _ (by decide +kernel)) ggX4_set_X4_refuse
theorem dX4_set_0 : decode cX4_set 0 = .ok (.aload_n 0, 1) := by decide +kernel
theorem dX4_set_1 : decode cX4_set 1 = .ok (.iconst 0, 1) := by decide +kernel
theorem dX4_set_2 : decode cX4_set 2 = .ok (.putfield 59, 3) := by decide +kernel
theorem dX4_set_5 : decode cX4_set 5 = .ok (.iload_n 1, 1) := by decide +kernel
theorem dX4_set_6 : decode cX4_set 6 = .ok (.ifCond .lt 35, 3) := by decide +kernel
theorem dX4_set_9 : decode cX4_set 9 = .ok (.iload_n 1, 1) := by decide +kernel
theorem dX4_set_10 : decode cX4_set 10 = .ok (.aload_n 0, 1) := by decide +kernel
theorem dX4_set_11 : decode cX4_set 11 = .ok (.getfield 56, 3) := by decide +kernel
theorem dX4_set_14 : decode cX4_set 14 = .ok (.if_icmp .ge 27, 3) := by decide +kernel
theorem dX4_set_17 : decode cX4_set 17 = .ok (.iload_n 2, 1) := by decide +kernel
theorem dX4_set_18 : decode cX4_set 18 = .ok (.ifCond .lt 23, 3) := by decide +kernel
theorem dX4_set_21 : decode cX4_set 21 = .ok (.iload_n 2, 1) := by decide +kernel
theorem dX4_set_22 : decode cX4_set 22 = .ok (.iconst 1, 1) := by decide +kernel
theorem dX4_set_23 : decode cX4_set 23 = .ok (.if_icmp .gt 18, 3) := by decide +kernel
theorem dX4_set_26 : decode cX4_set 26 = .ok (.iload_n 3, 1) := by decide +kernel
theorem dX4_set_27 : decode cX4_set 27 = .ok (.iconst (-1), 1) := by decide +kernel
theorem dX4_set_28 : decode cX4_set 28 = .ok (.if_icmp .lt 13, 3) := by decide +kernel
theorem dX4_set_31 : decode cX4_set 31 = .ok (.iload_n 3, 1) := by decide +kernel
end
section
theorem dX4_set_32 : decode cX4_set 32 = .ok (.iconst 4, 1) := by decide +kernel
theorem dX4_set_33 : decode cX4_set 33 = .ok (.aload_n 0, 1) := by decide +kernel
theorem dX4_set_34 : decode cX4_set 34 = .ok (.getfield 56, 3) := by decide +kernel
theorem dX4_set_37 : decode cX4_set 37 = .ok (.imul, 1) := by decide +kernel
theorem dX4_set_38 : decode cX4_set 38 = .ok (.if_icmp .lt 9, 3) := by decide +kernel
theorem dX4_set_41 : decode cX4_set 41 = .ok (.aload_n 0, 1) := by decide +kernel
theorem dX4_set_42 : decode cX4_set 42 = .ok (.iconst 1, 1) := by decide +kernel
theorem dX4_set_43 : decode cX4_set 43 = .ok (.invokevirtual 62, 3) := by decide +kernel
theorem dX4_set_46 : decode cX4_set 46 = .ok (.ireturn, 1) := by decide +kernel
theorem dX4_set_47 : decode cX4_set 47 = .ok (.aload_n 0, 1) := by decide +kernel
theorem dX4_set_48 : decode cX4_set 48 = .ok (.getfield 7, 3) := by decide +kernel
theorem dX4_set_51 : decode cX4_set 51 = .ok (.iconst 2, 1) := by decide +kernel
theorem dX4_set_52 : decode cX4_set 52 = .ok (.iload_n 1, 1) := by decide +kernel
theorem dX4_set_53 : decode cX4_set 53 = .ok (.imul, 1) := by decide +kernel
theorem dX4_set_54 : decode cX4_set 54 = .ok (.iload_n 2, 1) := by decide +kernel
theorem dX4_set_55 : decode cX4_set 55 = .ok (.iadd, 1) := by decide +kernel
theorem dX4_set_56 : decode cX4_set 56 = .ok (.iaload, 1) := by decide +kernel
theorem dX4_set_57 : decode cX4_set 57 = .ok (.istore 4, 2) := by decide +kernel
theorem dX4_set_59 : decode cX4_set 59 = .ok (.aload_n 0, 1) := by decide +kernel
theorem dX4_set_60 : decode cX4_set 60 = .ok (.getfield 7, 3) := by decide +kernel
theorem dX4_set_63 : decode cX4_set 63 = .ok (.iconst 2, 1) := by decide +kernel
theorem dX4_set_64 : decode cX4_set 64 = .ok (.iload_n 1, 1) := by decide +kernel
theorem dX4_set_65 : decode cX4_set 65 = .ok (.imul, 1) := by decide +kernel
theorem dX4_set_66 : decode cX4_set 66 = .ok (.iload_n 2, 1) := by decide +kernel
theorem dX4_set_67 : decode cX4_set 67 = .ok (.iadd, 1) := by decide +kernel
theorem dX4_set_68 : decode cX4_set 68 = .ok (.iload_n 3, 1) := by decide +kernel
theorem dX4_set_69 : decode cX4_set 69 = .ok (.iastore, 1) := by decide +kernel
theorem dX4_set_70 : decode cX4_set 70 = .ok (.aload_n 0, 1) := by decide +kernel
theorem dX4_set_71 : decode cX4_set 71 = .ok (.iconst 0, 1) := by decide +kernel
theorem dX4_set_72 : decode cX4_set 72 = .ok (.putfield 66, 3) := by decide +kernel
theorem dX4_set_75 : decode cX4_set 75 = .ok (.iload 4, 2) := by decide +kernel
theorem dX4_set_77 : decode cX4_set 77 = .ok (.ireturn, 1) := by decide +kernel
theorem dX4_begin_0 : decode cX4_begin 0 = .ok (.iconst 0, 1) := by decide +kernel
theorem dX4_begin_1 : decode cX4_begin 1 = .ok (.istore_n 1, 1) := by decide +kernel
theorem dX4_begin_2 : decode cX4_begin 2 = .ok (.iload_n 1, 1) := by decide +kernel
theorem dX4_begin_3 : decode cX4_begin 3 = .ok (.sipush 620, 3) := by decide +kernel
theorem dX4_begin_6 : decode cX4_begin 6 = .ok (.if_icmp .ge 16, 3) := by decide +kernel
theorem dX4_begin_9 : decode cX4_begin 9 = .ok (.aload_n 0, 1) := by decide +kernel
theorem dX4_begin_10 : decode cX4_begin 10 = .ok (.getfield 19, 3) := by decide +kernel
theorem dX4_begin_13 : decode cX4_begin 13 = .ok (.iload_n 1, 1) := by decide +kernel
theorem dX4_begin_14 : decode cX4_begin 14 = .ok (.iconst 0, 1) := by decide +kernel
theorem dX4_begin_15 : decode cX4_begin 15 = .ok (.iastore, 1) := by decide +kernel
theorem dX4_begin_16 : decode cX4_begin 16 = .ok (.iinc 1 1, 3) := by decide +kernel
theorem dX4_begin_19 : decode cX4_begin 19 = .ok (.goto (-17), 3) := by decide +kernel
theorem dX4_begin_22 : decode cX4_begin 22 = .ok (.aload_n 0, 1) := by decide +kernel
theorem dX4_begin_23 : decode cX4_begin 23 = .ok (.iconst 0, 1) := by decide +kernel
theorem dX4_begin_24 : decode cX4_begin 24 = .ok (.putfield 70, 3) := by decide +kernel
theorem dX4_begin_27 : decode cX4_begin 27 = .ok (.aload_n 0, 1) := by decide +kernel
theorem dX4_begin_28 : decode cX4_begin 28 = .ok (.iconst 0, 1) := by decide +kernel
theorem dX4_begin_29 : decode cX4_begin 29 = .ok (.putfield 73, 3) := by decide +kernel
theorem dX4_begin_32 : decode cX4_begin 32 = .ok (.aload_n 0, 1) := by decide +kernel
theorem dX4_begin_33 : decode cX4_begin 33 = .ok (.iconst 0, 1) := by decide +kernel
theorem dX4_begin_34 : decode cX4_begin 34 = .ok (.putfield 76, 3) := by decide +kernel
theorem dX4_begin_37 : decode cX4_begin 37 = .ok (.aload_n 0, 1) := by decide +kernel
theorem dX4_begin_38 : decode cX4_begin 38 = .ok (.iconst 0, 1) := by decide +kernel
theorem dX4_begin_39 : decode cX4_begin 39 = .ok (.putfield 79, 3) := by decide +kernel
theorem dX4_begin_42 : decode cX4_begin 42 = .ok (.aload_n 0, 1) := by decide +kernel
theorem dX4_begin_43 : decode cX4_begin 43 = .ok (.iconst 0, 1) := by decide +kernel
theorem dX4_begin_44 : decode cX4_begin 44 = .ok (.putfield 82, 3) := by decide +kernel
theorem dX4_begin_47 : decode cX4_begin 47 = .ok (.aload_n 0, 1) := by decide +kernel
theorem dX4_begin_48 : decode cX4_begin 48 = .ok (.getfield 25, 3) := by decide +kernel
theorem dX4_begin_51 : decode cX4_begin 51 = .ok (.iconst 0, 1) := by decide +kernel
theorem dX4_begin_52 : decode cX4_begin 52 = .ok (.iconst 0, 1) := by decide +kernel
theorem dX4_begin_53 : decode cX4_begin 53 = .ok (.iastore, 1) := by decide +kernel
theorem dX4_begin_54 : decode cX4_begin 54 = .ok (.aload_n 0, 1) := by decide +kernel
theorem dX4_begin_55 : decode cX4_begin 55 = .ok (.getfield 28, 3) := by decide +kernel
theorem dX4_begin_58 : decode cX4_begin 58 = .ok (.iconst 0, 1) := by decide +kernel
theorem dX4_begin_59 : decode cX4_begin 59 = .ok (.iconst 0, 1) := by decide +kernel
theorem dX4_begin_60 : decode cX4_begin 60 = .ok (.iastore, 1) := by decide +kernel
theorem dX4_begin_61 : decode cX4_begin 61 = .ok (.aload_n 0, 1) := by decide +kernel
theorem dX4_begin_62 : decode cX4_begin 62 = .ok (.getfield 31, 3) := by decide +kernel
theorem dX4_begin_65 : decode cX4_begin 65 = .ok (.iconst 0, 1) := by decide +kernel
theorem dX4_begin_66 : decode cX4_begin 66 = .ok (.iconst 0, 1) := by decide +kernel
theorem dX4_begin_67 : decode cX4_begin 67 = .ok (.iastore, 1) := by decide +kernel
theorem dX4_begin_68 : decode cX4_begin 68 = .ok (.return_, 1) := by decide +kernel
theorem dX4_step_0 : decode cX4_step 0 = .ok (.aload_n 0, 1) := by decide +kernel
theorem dX4_step_1 : decode cX4_step 1 = .ok (.getfield 28, 3) := by decide +kernel
theorem dX4_step_4 : decode cX4_step 4 = .ok (.aload_n 0, 1) := by decide +kernel
theorem dX4_step_5 : decode cX4_step 5 = .ok (.getfield 70, 3) := by decide +kernel
theorem dX4_step_8 : decode cX4_step 8 = .ok (.iaload, 1) := by decide +kernel
theorem dX4_step_9 : decode cX4_step 9 = .ok (.istore_n 2, 1) := by decide +kernel
theorem dX4_step_10 : decode cX4_step 10 = .ok (.aload_n 0, 1) := by decide +kernel
theorem dX4_step_11 : decode cX4_step 11 = .ok (.getfield 19, 3) := by decide +kernel
theorem dX4_step_14 : decode cX4_step 14 = .ok (.sipush 310, 3) := by decide +kernel
theorem dX4_step_17 : decode cX4_step 17 = .ok (.iload_n 2, 1) := by decide +kernel
theorem dX4_step_18 : decode cX4_step 18 = .ok (.iadd, 1) := by decide +kernel
theorem dX4_step_19 : decode cX4_step 19 = .ok (.iaload, 1) := by decide +kernel
theorem dX4_step_20 : decode cX4_step 20 = .ok (.istore_n 3, 1) := by decide +kernel
theorem dX4_step_21 : decode cX4_step 21 = .ok (.aload_n 1, 1) := by decide +kernel
theorem dX4_step_22 : decode cX4_step 22 = .ok (.iconst 2, 1) := by decide +kernel
theorem dX4_step_23 : decode cX4_step 23 = .ok (.aload_n 0, 1) := by decide +kernel
theorem dX4_step_24 : decode cX4_step 24 = .ok (.getfield 25, 3) := by decide +kernel
theorem dX4_step_27 : decode cX4_step 27 = .ok (.aload_n 0, 1) := by decide +kernel
theorem dX4_step_28 : decode cX4_step 28 = .ok (.getfield 70, 3) := by decide +kernel
theorem dX4_step_31 : decode cX4_step 31 = .ok (.iaload, 1) := by decide +kernel
theorem dX4_step_32 : decode cX4_step 32 = .ok (.imul, 1) := by decide +kernel
theorem dX4_step_33 : decode cX4_step 33 = .ok (.iload_n 3, 1) := by decide +kernel
theorem dX4_step_34 : decode cX4_step 34 = .ok (.iadd, 1) := by decide +kernel
theorem dX4_step_35 : decode cX4_step 35 = .ok (.iaload, 1) := by decide +kernel
theorem dX4_step_36 : decode cX4_step 36 = .ok (.istore 4, 2) := by decide +kernel
theorem dX4_step_38 : decode cX4_step 38 = .ok (.aload_n 0, 1) := by decide +kernel
theorem dX4_step_39 : decode cX4_step 39 = .ok (.dup, 1) := by decide +kernel
theorem dX4_step_40 : decode cX4_step 40 = .ok (.getfield 70, 3) := by decide +kernel
theorem dX4_step_43 : decode cX4_step 43 = .ok (.iconst 1, 1) := by decide +kernel
theorem dX4_step_44 : decode cX4_step 44 = .ok (.iadd, 1) := by decide +kernel
theorem dX4_step_45 : decode cX4_step 45 = .ok (.putfield 70, 3) := by decide +kernel
theorem dX4_step_48 : decode cX4_step 48 = .ok (.aload_n 0, 1) := by decide +kernel
theorem dX4_step_49 : decode cX4_step 49 = .ok (.getfield 25, 3) := by decide +kernel
theorem dX4_step_52 : decode cX4_step 52 = .ok (.aload_n 0, 1) := by decide +kernel
theorem dX4_step_53 : decode cX4_step 53 = .ok (.getfield 70, 3) := by decide +kernel
theorem dX4_step_56 : decode cX4_step 56 = .ok (.iload 4, 2) := by decide +kernel
theorem dX4_step_58 : decode cX4_step 58 = .ok (.ifCond .ge 17, 3) := by decide +kernel
theorem dX4_step_61 : decode cX4_step 61 = .ok (.aload_n 0, 1) := by decide +kernel
theorem dX4_step_62 : decode cX4_step 62 = .ok (.getfield 25, 3) := by decide +kernel
theorem dX4_step_65 : decode cX4_step 65 = .ok (.aload_n 0, 1) := by decide +kernel
theorem dX4_step_66 : decode cX4_step 66 = .ok (.getfield 70, 3) := by decide +kernel
theorem dX4_step_69 : decode cX4_step 69 = .ok (.iconst 1, 1) := by decide +kernel
theorem dX4_step_70 : decode cX4_step 70 = .ok (.isub, 1) := by decide +kernel
theorem dX4_step_71 : decode cX4_step 71 = .ok (.iaload, 1) := by decide +kernel
theorem dX4_step_72 : decode cX4_step 72 = .ok (.goto 7, 3) := by decide +kernel
theorem dX4_step_75 : decode cX4_step 75 = .ok (.iload 4, 2) := by decide +kernel
theorem dX4_step_77 : decode cX4_step 77 = .ok (.iconst 4, 1) := by decide +kernel
theorem dX4_step_78 : decode cX4_step 78 = .ok (.idiv, 1) := by decide +kernel
theorem dX4_step_79 : decode cX4_step 79 = .ok (.iastore, 1) := by decide +kernel
theorem dX4_step_80 : decode cX4_step 80 = .ok (.aload_n 0, 1) := by decide +kernel
theorem dX4_step_81 : decode cX4_step 81 = .ok (.getfield 28, 3) := by decide +kernel
theorem dX4_step_84 : decode cX4_step 84 = .ok (.aload_n 0, 1) := by decide +kernel
theorem dX4_step_85 : decode cX4_step 85 = .ok (.getfield 70, 3) := by decide +kernel
theorem dX4_step_88 : decode cX4_step 88 = .ok (.iload 4, 2) := by decide +kernel
theorem dX4_step_90 : decode cX4_step 90 = .ok (.ifCond .ge 7, 3) := by decide +kernel
theorem dX4_step_93 : decode cX4_step 93 = .ok (.iload_n 2, 1) := by decide +kernel
theorem dX4_step_94 : decode cX4_step 94 = .ok (.goto 19, 3) := by decide +kernel
theorem dX4_step_97 : decode cX4_step 97 = .ok (.iload 4, 2) := by decide +kernel
theorem dX4_step_99 : decode cX4_step 99 = .ok (.iconst 2, 1) := by decide +kernel
theorem dX4_step_100 : decode cX4_step 100 = .ok (.iand, 1) := by decide +kernel
theorem dX4_step_101 : decode cX4_step 101 = .ok (.ifCond .eq 9, 3) := by decide +kernel
theorem dX4_step_104 : decode cX4_step 104 = .ok (.iload_n 2, 1) := by decide +kernel
theorem dX4_step_105 : decode cX4_step 105 = .ok (.iconst 1, 1) := by decide +kernel
theorem dX4_step_106 : decode cX4_step 106 = .ok (.iadd, 1) := by decide +kernel
theorem dX4_step_107 : decode cX4_step 107 = .ok (.goto 6, 3) := by decide +kernel
theorem dX4_step_110 : decode cX4_step 110 = .ok (.iload_n 2, 1) := by decide +kernel
theorem dX4_step_111 : decode cX4_step 111 = .ok (.iconst 1, 1) := by decide +kernel
theorem dX4_step_112 : decode cX4_step 112 = .ok (.isub, 1) := by decide +kernel
theorem dX4_step_113 : decode cX4_step 113 = .ok (.iastore, 1) := by decide +kernel
theorem dX4_step_114 : decode cX4_step 114 = .ok (.aload_n 0, 1) := by decide +kernel
theorem dX4_step_115 : decode cX4_step 115 = .ok (.getfield 34, 3) := by decide +kernel
theorem dX4_step_118 : decode cX4_step 118 = .ok (.aload_n 0, 1) := by decide +kernel
theorem dX4_step_119 : decode cX4_step 119 = .ok (.getfield 70, 3) := by decide +kernel
theorem dX4_step_122 : decode cX4_step 122 = .ok (.iload 4, 2) := by decide +kernel
theorem dX4_step_124 : decode cX4_step 124 = .ok (.ifCond .lt 19, 3) := by decide +kernel
theorem dX4_step_127 : decode cX4_step 127 = .ok (.iload 4, 2) := by decide +kernel
theorem dX4_step_129 : decode cX4_step 129 = .ok (.iconst 1, 1) := by decide +kernel
theorem dX4_step_130 : decode cX4_step 130 = .ok (.iand, 1) := by decide +kernel
theorem dX4_step_131 : decode cX4_step 131 = .ok (.iload_n 3, 1) := by decide +kernel
theorem dX4_step_132 : decode cX4_step 132 = .ok (.if_icmp .eq 11, 3) := by decide +kernel
theorem dX4_step_135 : decode cX4_step 135 = .ok (.sipush 311, 3) := by decide +kernel
theorem dX4_step_138 : decode cX4_step 138 = .ok (.iload_n 2, 1) := by decide +kernel
theorem dX4_step_139 : decode cX4_step 139 = .ok (.iadd, 1) := by decide +kernel
theorem dX4_step_140 : decode cX4_step 140 = .ok (.goto 4, 3) := by decide +kernel
theorem dX4_step_143 : decode cX4_step 143 = .ok (.iconst 0, 1) := by decide +kernel
theorem dX4_step_144 : decode cX4_step 144 = .ok (.iastore, 1) := by decide +kernel
theorem dX4_step_145 : decode cX4_step 145 = .ok (.iload 4, 2) := by decide +kernel
theorem dX4_step_147 : decode cX4_step 147 = .ok (.ifCond .lt 17, 3) := by decide +kernel
theorem dX4_step_150 : decode cX4_step 150 = .ok (.aload_n 0, 1) := by decide +kernel
theorem dX4_step_151 : decode cX4_step 151 = .ok (.getfield 19, 3) := by decide +kernel
theorem dX4_step_154 : decode cX4_step 154 = .ok (.sipush 310, 3) := by decide +kernel
theorem dX4_step_157 : decode cX4_step 157 = .ok (.iload_n 2, 1) := by decide +kernel
theorem dX4_step_158 : decode cX4_step 158 = .ok (.iadd, 1) := by decide +kernel
theorem dX4_step_159 : decode cX4_step 159 = .ok (.iload 4, 2) := by decide +kernel
theorem dX4_step_161 : decode cX4_step 161 = .ok (.iconst 1, 1) := by decide +kernel
theorem dX4_step_162 : decode cX4_step 162 = .ok (.iand, 1) := by decide +kernel
theorem dX4_step_163 : decode cX4_step 163 = .ok (.iastore, 1) := by decide +kernel
theorem dX4_step_164 : decode cX4_step 164 = .ok (.aload_n 0, 1) := by decide +kernel
theorem dX4_step_165 : decode cX4_step 165 = .ok (.getfield 28, 3) := by decide +kernel
theorem dX4_step_168 : decode cX4_step 168 = .ok (.aload_n 0, 1) := by decide +kernel
theorem dX4_step_169 : decode cX4_step 169 = .ok (.getfield 70, 3) := by decide +kernel
theorem dX4_step_172 : decode cX4_step 172 = .ok (.iaload, 1) := by decide +kernel
theorem dX4_step_173 : decode cX4_step 173 = .ok (.istore 5, 2) := by decide +kernel
theorem dX4_step_175 : decode cX4_step 175 = .ok (.aload_n 0, 1) := by decide +kernel
theorem dX4_step_176 : decode cX4_step 176 = .ok (.getfield 31, 3) := by decide +kernel
theorem dX4_step_179 : decode cX4_step 179 = .ok (.aload_n 0, 1) := by decide +kernel
theorem dX4_step_180 : decode cX4_step 180 = .ok (.getfield 70, 3) := by decide +kernel
theorem dX4_step_183 : decode cX4_step 183 = .ok (.iload 5, 2) := by decide +kernel
theorem dX4_step_185 : decode cX4_step 185 = .ok (.aload_n 0, 1) := by decide +kernel
theorem dX4_step_186 : decode cX4_step 186 = .ok (.getfield 82, 3) := by decide +kernel
theorem dX4_step_189 : decode cX4_step 189 = .ok (.if_icmp .le 7, 3) := by decide +kernel
theorem dX4_step_192 : decode cX4_step 192 = .ok (.iconst 1, 1) := by decide +kernel
theorem dX4_step_193 : decode cX4_step 193 = .ok (.goto 17, 3) := by decide +kernel
theorem dX4_step_196 : decode cX4_step 196 = .ok (.iload 5, 2) := by decide +kernel
theorem dX4_step_198 : decode cX4_step 198 = .ok (.aload_n 0, 1) := by decide +kernel
theorem dX4_step_199 : decode cX4_step 199 = .ok (.getfield 79, 3) := by decide +kernel
theorem dX4_step_202 : decode cX4_step 202 = .ok (.if_icmp .ge 7, 3) := by decide +kernel
theorem dX4_step_205 : decode cX4_step 205 = .ok (.iconst (-1), 1) := by decide +kernel
theorem dX4_step_206 : decode cX4_step 206 = .ok (.goto 4, 3) := by decide +kernel
theorem dX4_step_209 : decode cX4_step 209 = .ok (.iconst 0, 1) := by decide +kernel
theorem dX4_step_210 : decode cX4_step 210 = .ok (.iastore, 1) := by decide +kernel
theorem dX4_step_211 : decode cX4_step 211 = .ok (.aload_n 0, 1) := by decide +kernel
theorem dX4_step_212 : decode cX4_step 212 = .ok (.iload 5, 2) := by decide +kernel
theorem dX4_step_214 : decode cX4_step 214 = .ok (.aload_n 0, 1) := by decide +kernel
theorem dX4_step_215 : decode cX4_step 215 = .ok (.getfield 82, 3) := by decide +kernel
theorem dX4_step_218 : decode cX4_step 218 = .ok (.if_icmp .le 8, 3) := by decide +kernel
theorem dX4_step_221 : decode cX4_step 221 = .ok (.iload 5, 2) := by decide +kernel
theorem dX4_step_223 : decode cX4_step 223 = .ok (.goto 7, 3) := by decide +kernel
theorem dX4_step_226 : decode cX4_step 226 = .ok (.aload_n 0, 1) := by decide +kernel
theorem dX4_step_227 : decode cX4_step 227 = .ok (.getfield 82, 3) := by decide +kernel
theorem dX4_step_230 : decode cX4_step 230 = .ok (.putfield 82, 3) := by decide +kernel
theorem dX4_step_233 : decode cX4_step 233 = .ok (.aload_n 0, 1) := by decide +kernel
theorem dX4_step_234 : decode cX4_step 234 = .ok (.iload 5, 2) := by decide +kernel
theorem dX4_step_236 : decode cX4_step 236 = .ok (.aload_n 0, 1) := by decide +kernel
theorem dX4_step_237 : decode cX4_step 237 = .ok (.getfield 79, 3) := by decide +kernel
theorem dX4_step_240 : decode cX4_step 240 = .ok (.if_icmp .ge 8, 3) := by decide +kernel
theorem dX4_step_243 : decode cX4_step 243 = .ok (.iload 5, 2) := by decide +kernel
theorem dX4_step_245 : decode cX4_step 245 = .ok (.goto 7, 3) := by decide +kernel
theorem dX4_step_248 : decode cX4_step 248 = .ok (.aload_n 0, 1) := by decide +kernel
theorem dX4_step_249 : decode cX4_step 249 = .ok (.getfield 79, 3) := by decide +kernel
theorem dX4_step_252 : decode cX4_step 252 = .ok (.putfield 79, 3) := by decide +kernel
theorem dX4_step_255 : decode cX4_step 255 = .ok (.iload 4, 2) := by decide +kernel
theorem dX4_step_257 : decode cX4_step 257 = .ok (.ifCond .lt 7, 3) := by decide +kernel
theorem dX4_step_260 : decode cX4_step 260 = .ok (.iconst 1, 1) := by decide +kernel
theorem dX4_step_261 : decode cX4_step 261 = .ok (.goto 4, 3) := by decide +kernel
theorem dX4_step_264 : decode cX4_step 264 = .ok (.iconst 0, 1) := by decide +kernel
theorem dX4_step_265 : decode cX4_step 265 = .ok (.ireturn, 1) := by decide +kernel
theorem dX4_cycles_0 : decode cX4_cycles 0 = .ok (.iconst 0, 1) := by decide +kernel
theorem dX4_cycles_1 : decode cX4_cycles 1 = .ok (.istore_n 1, 1) := by decide +kernel
theorem dX4_cycles_2 : decode cX4_cycles 2 = .ok (.iconst 0, 1) := by decide +kernel
theorem dX4_cycles_3 : decode cX4_cycles 3 = .ok (.istore_n 2, 1) := by decide +kernel
theorem dX4_cycles_4 : decode cX4_cycles 4 = .ok (.iload_n 2, 1) := by decide +kernel
theorem dX4_cycles_5 : decode cX4_cycles 5 = .ok (.sipush 620, 3) := by decide +kernel
theorem dX4_cycles_8 : decode cX4_cycles 8 = .ok (.if_icmp .ge 16, 3) := by decide +kernel
theorem dX4_cycles_11 : decode cX4_cycles 11 = .ok (.aload_n 0, 1) := by decide +kernel
theorem dX4_cycles_12 : decode cX4_cycles 12 = .ok (.getfield 22, 3) := by decide +kernel
theorem dX4_cycles_15 : decode cX4_cycles 15 = .ok (.iload_n 2, 1) := by decide +kernel
theorem dX4_cycles_16 : decode cX4_cycles 16 = .ok (.iconst 0, 1) := by decide +kernel
theorem dX4_cycles_17 : decode cX4_cycles 17 = .ok (.iastore, 1) := by decide +kernel
theorem dX4_cycles_18 : decode cX4_cycles 18 = .ok (.iinc 2 1, 3) := by decide +kernel
theorem dX4_cycles_21 : decode cX4_cycles 21 = .ok (.goto (-17), 3) := by decide +kernel
theorem dX4_cycles_24 : decode cX4_cycles 24 = .ok (.aload_n 0, 1) := by decide +kernel
theorem dX4_cycles_25 : decode cX4_cycles 25 = .ok (.getfield 70, 3) := by decide +kernel
theorem dX4_cycles_28 : decode cX4_cycles 28 = .ok (.iconst 1, 1) := by decide +kernel
theorem dX4_cycles_29 : decode cX4_cycles 29 = .ok (.isub, 1) := by decide +kernel
theorem dX4_cycles_30 : decode cX4_cycles 30 = .ok (.istore_n 2, 1) := by decide +kernel
theorem dX4_cycles_31 : decode cX4_cycles 31 = .ok (.iload_n 2, 1) := by decide +kernel
theorem dX4_cycles_32 : decode cX4_cycles 32 = .ok (.ifCond .lt 112, 3) := by decide +kernel
theorem dX4_cycles_35 : decode cX4_cycles 35 = .ok (.aload_n 0, 1) := by decide +kernel
theorem dX4_cycles_36 : decode cX4_cycles 36 = .ok (.getfield 34, 3) := by decide +kernel
theorem dX4_cycles_39 : decode cX4_cycles 39 = .ok (.iload_n 2, 1) := by decide +kernel
theorem dX4_cycles_40 : decode cX4_cycles 40 = .ok (.iconst 1, 1) := by decide +kernel
theorem dX4_cycles_41 : decode cX4_cycles 41 = .ok (.iadd, 1) := by decide +kernel
theorem dX4_cycles_42 : decode cX4_cycles 42 = .ok (.iaload, 1) := by decide +kernel
theorem dX4_cycles_43 : decode cX4_cycles 43 = .ok (.istore_n 3, 1) := by decide +kernel
theorem dX4_cycles_44 : decode cX4_cycles 44 = .ok (.iload_n 3, 1) := by decide +kernel
theorem dX4_cycles_45 : decode cX4_cycles 45 = .ok (.ifCond .le 41, 3) := by decide +kernel
theorem dX4_cycles_48 : decode cX4_cycles 48 = .ok (.aload_n 0, 1) := by decide +kernel
theorem dX4_cycles_49 : decode cX4_cycles 49 = .ok (.getfield 22, 3) := by decide +kernel
theorem dX4_cycles_52 : decode cX4_cycles 52 = .ok (.iload_n 3, 1) := by decide +kernel
theorem dX4_cycles_53 : decode cX4_cycles 53 = .ok (.iconst 1, 1) := by decide +kernel
theorem dX4_cycles_54 : decode cX4_cycles 54 = .ok (.isub, 1) := by decide +kernel
theorem dX4_cycles_55 : decode cX4_cycles 55 = .ok (.iconst 1, 1) := by decide +kernel
theorem dX4_cycles_56 : decode cX4_cycles 56 = .ok (.aload_n 0, 1) := by decide +kernel
theorem dX4_cycles_57 : decode cX4_cycles 57 = .ok (.getfield 22, 3) := by decide +kernel
theorem dX4_cycles_60 : decode cX4_cycles 60 = .ok (.iload_n 3, 1) := by decide +kernel
theorem dX4_cycles_61 : decode cX4_cycles 61 = .ok (.iconst 1, 1) := by decide +kernel
theorem dX4_cycles_62 : decode cX4_cycles 62 = .ok (.isub, 1) := by decide +kernel
theorem dX4_cycles_63 : decode cX4_cycles 63 = .ok (.iaload, 1) := by decide +kernel
theorem dX4_cycles_64 : decode cX4_cycles 64 = .ok (.isub, 1) := by decide +kernel
theorem dX4_cycles_65 : decode cX4_cycles 65 = .ok (.iastore, 1) := by decide +kernel
theorem dX4_cycles_66 : decode cX4_cycles 66 = .ok (.iload_n 1, 1) := by decide +kernel
theorem dX4_cycles_67 : decode cX4_cycles 67 = .ok (.aload_n 0, 1) := by decide +kernel
theorem dX4_cycles_68 : decode cX4_cycles 68 = .ok (.getfield 22, 3) := by decide +kernel
theorem dX4_cycles_71 : decode cX4_cycles 71 = .ok (.iload_n 3, 1) := by decide +kernel
theorem dX4_cycles_72 : decode cX4_cycles 72 = .ok (.iconst 1, 1) := by decide +kernel
theorem dX4_cycles_73 : decode cX4_cycles 73 = .ok (.isub, 1) := by decide +kernel
theorem dX4_cycles_74 : decode cX4_cycles 74 = .ok (.iaload, 1) := by decide +kernel
theorem dX4_cycles_75 : decode cX4_cycles 75 = .ok (.iconst 1, 1) := by decide +kernel
theorem dX4_cycles_76 : decode cX4_cycles 76 = .ok (.if_icmp .ne 7, 3) := by decide +kernel
theorem dX4_cycles_79 : decode cX4_cycles 79 = .ok (.iconst 1, 1) := by decide +kernel
theorem dX4_cycles_80 : decode cX4_cycles 80 = .ok (.goto 4, 3) := by decide +kernel
theorem dX4_cycles_83 : decode cX4_cycles 83 = .ok (.iconst (-1), 1) := by decide +kernel
theorem dX4_cycles_84 : decode cX4_cycles 84 = .ok (.iadd, 1) := by decide +kernel
theorem dX4_cycles_85 : decode cX4_cycles 85 = .ok (.istore_n 1, 1) := by decide +kernel
theorem dX4_cycles_86 : decode cX4_cycles 86 = .ok (.iload_n 1, 1) := by decide +kernel
theorem dX4_cycles_87 : decode cX4_cycles 87 = .ok (.ifCond .ne 51, 3) := by decide +kernel
theorem dX4_cycles_90 : decode cX4_cycles 90 = .ok (.aload_n 0, 1) := by decide +kernel
theorem dX4_cycles_91 : decode cX4_cycles 91 = .ok (.getfield 25, 3) := by decide +kernel
theorem dX4_cycles_94 : decode cX4_cycles 94 = .ok (.iload_n 2, 1) := by decide +kernel
theorem dX4_cycles_95 : decode cX4_cycles 95 = .ok (.iaload, 1) := by decide +kernel
theorem dX4_cycles_96 : decode cX4_cycles 96 = .ok (.aload_n 0, 1) := by decide +kernel
theorem dX4_cycles_97 : decode cX4_cycles 97 = .ok (.getfield 25, 3) := by decide +kernel
theorem dX4_cycles_100 : decode cX4_cycles 100 = .ok (.aload_n 0, 1) := by decide +kernel
theorem dX4_cycles_101 : decode cX4_cycles 101 = .ok (.getfield 70, 3) := by decide +kernel
theorem dX4_cycles_104 : decode cX4_cycles 104 = .ok (.iaload, 1) := by decide +kernel
theorem dX4_cycles_105 : decode cX4_cycles 105 = .ok (.if_icmp .ne 33, 3) := by decide +kernel
theorem dX4_cycles_108 : decode cX4_cycles 108 = .ok (.aload_n 0, 1) := by decide +kernel
theorem dX4_cycles_109 : decode cX4_cycles 109 = .ok (.getfield 28, 3) := by decide +kernel
theorem dX4_cycles_112 : decode cX4_cycles 112 = .ok (.iload_n 2, 1) := by decide +kernel
theorem dX4_cycles_113 : decode cX4_cycles 113 = .ok (.iaload, 1) := by decide +kernel
theorem dX4_cycles_114 : decode cX4_cycles 114 = .ok (.aload_n 0, 1) := by decide +kernel
theorem dX4_cycles_115 : decode cX4_cycles 115 = .ok (.getfield 28, 3) := by decide +kernel
theorem dX4_cycles_118 : decode cX4_cycles 118 = .ok (.aload_n 0, 1) := by decide +kernel
theorem dX4_cycles_119 : decode cX4_cycles 119 = .ok (.getfield 70, 3) := by decide +kernel
theorem dX4_cycles_122 : decode cX4_cycles 122 = .ok (.iaload, 1) := by decide +kernel
theorem dX4_cycles_123 : decode cX4_cycles 123 = .ok (.if_icmp .ne 15, 3) := by decide +kernel
theorem dX4_cycles_126 : decode cX4_cycles 126 = .ok (.aload_n 0, 1) := by decide +kernel
theorem dX4_cycles_127 : decode cX4_cycles 127 = .ok (.aload_n 0, 1) := by decide +kernel
theorem dX4_cycles_128 : decode cX4_cycles 128 = .ok (.getfield 70, 3) := by decide +kernel
theorem dX4_cycles_131 : decode cX4_cycles 131 = .ok (.iload_n 2, 1) := by decide +kernel
theorem dX4_cycles_132 : decode cX4_cycles 132 = .ok (.isub, 1) := by decide +kernel
theorem dX4_cycles_133 : decode cX4_cycles 133 = .ok (.putfield 73, 3) := by decide +kernel
theorem dX4_cycles_136 : decode cX4_cycles 136 = .ok (.iconst 1, 1) := by decide +kernel
theorem dX4_cycles_137 : decode cX4_cycles 137 = .ok (.ireturn, 1) := by decide +kernel
theorem dX4_cycles_138 : decode cX4_cycles 138 = .ok (.iinc 2 (-1), 3) := by decide +kernel
theorem dX4_cycles_141 : decode cX4_cycles 141 = .ok (.goto (-110), 3) := by decide +kernel
theorem dX4_cycles_144 : decode cX4_cycles 144 = .ok (.iconst 0, 1) := by decide +kernel
theorem dX4_cycles_145 : decode cX4_cycles 145 = .ok (.ireturn, 1) := by decide +kernel
set_option maxRecDepth 20000 in
theorem ggX4_drifts_X4_alike : GoodIn wsX4_drifts wsX4_alike := goodIn_r _ [14, 3, 4, 5, 2, 15, 16, 17, 18, 19, 20, 21, 22, 23, 24, 25, 26, 27, 28, 29, 30, 31, 32, 33, 34, 35, 36, 37, 38, 39, 40, 41, 42] (by decide +kernel) (by decide +kernel)
set_option maxRecDepth 20000 in
theorem gX4_drifts_X4_alike : GoodIn wsX4_drifts (wsV RX4 85 RX4 yX4_alike wsX4_alike) := goodIn_app (goodIn_of _ (by decide +kernel)) ggX4_drifts_X4_alike
theorem dX4_drifts_0 : decode cX4_drifts 0 = .ok (.aload_n 0, 1) := by decide +kernel
theorem dX4_drifts_1 : decode cX4_drifts 1 = .ok (.getfield 31, 3) := by decide +kernel
theorem dX4_drifts_4 : decode cX4_drifts 4 = .ok (.aload_n 0, 1) := by decide +kernel
theorem dX4_drifts_5 : decode cX4_drifts 5 = .ok (.getfield 70, 3) := by decide +kernel
theorem dX4_drifts_8 : decode cX4_drifts 8 = .ok (.iaload, 1) := by decide +kernel
theorem dX4_drifts_9 : decode cX4_drifts 9 = .ok (.istore_n 1, 1) := by decide +kernel
theorem dX4_drifts_10 : decode cX4_drifts 10 = .ok (.iload_n 1, 1) := by decide +kernel
theorem dX4_drifts_11 : decode cX4_drifts 11 = .ok (.ifCond .ne 5, 3) := by decide +kernel
theorem dX4_drifts_14 : decode cX4_drifts 14 = .ok (.iconst 0, 1) := by decide +kernel
theorem dX4_drifts_15 : decode cX4_drifts 15 = .ok (.ireturn, 1) := by decide +kernel
theorem dX4_drifts_16 : decode cX4_drifts 16 = .ok (.iconst 0, 1) := by decide +kernel
theorem dX4_drifts_17 : decode cX4_drifts 17 = .ok (.istore_n 2, 1) := by decide +kernel
theorem dX4_drifts_18 : decode cX4_drifts 18 = .ok (.iload_n 2, 1) := by decide +kernel
theorem dX4_drifts_19 : decode cX4_drifts 19 = .ok (.sipush 620, 3) := by decide +kernel
theorem dX4_drifts_22 : decode cX4_drifts 22 = .ok (.if_icmp .ge 21, 3) := by decide +kernel
theorem dX4_drifts_25 : decode cX4_drifts 25 = .ok (.aload_n 0, 1) := by decide +kernel
theorem dX4_drifts_26 : decode cX4_drifts 26 = .ok (.getfield 22, 3) := by decide +kernel
theorem dX4_drifts_29 : decode cX4_drifts 29 = .ok (.iload_n 2, 1) := by decide +kernel
theorem dX4_drifts_30 : decode cX4_drifts 30 = .ok (.aload_n 0, 1) := by decide +kernel
theorem dX4_drifts_31 : decode cX4_drifts 31 = .ok (.getfield 19, 3) := by decide +kernel
theorem dX4_drifts_34 : decode cX4_drifts 34 = .ok (.iload_n 2, 1) := by decide +kernel
theorem dX4_drifts_35 : decode cX4_drifts 35 = .ok (.iaload, 1) := by decide +kernel
theorem dX4_drifts_36 : decode cX4_drifts 36 = .ok (.iastore, 1) := by decide +kernel
theorem dX4_drifts_37 : decode cX4_drifts 37 = .ok (.iinc 2 1, 3) := by decide +kernel
theorem dX4_drifts_40 : decode cX4_drifts 40 = .ok (.goto (-22), 3) := by decide +kernel
theorem dX4_drifts_43 : decode cX4_drifts 43 = .ok (.aload_n 0, 1) := by decide +kernel
theorem dX4_drifts_44 : decode cX4_drifts 44 = .ok (.getfield 28, 3) := by decide +kernel
theorem dX4_drifts_47 : decode cX4_drifts 47 = .ok (.aload_n 0, 1) := by decide +kernel
theorem dX4_drifts_48 : decode cX4_drifts 48 = .ok (.getfield 70, 3) := by decide +kernel
theorem dX4_drifts_51 : decode cX4_drifts 51 = .ok (.iaload, 1) := by decide +kernel
theorem dX4_drifts_52 : decode cX4_drifts 52 = .ok (.iload_n 1, 1) := by decide +kernel
theorem dX4_drifts_53 : decode cX4_drifts 53 = .ok (.imul, 1) := by decide +kernel
theorem dX4_drifts_54 : decode cX4_drifts 54 = .ok (.istore_n 2, 1) := by decide +kernel
theorem dX4_drifts_55 : decode cX4_drifts 55 = .ok (.aload_n 0, 1) := by decide +kernel
theorem dX4_drifts_56 : decode cX4_drifts 56 = .ok (.getfield 70, 3) := by decide +kernel
theorem dX4_drifts_59 : decode cX4_drifts 59 = .ok (.iconst 1, 1) := by decide +kernel
theorem dX4_drifts_60 : decode cX4_drifts 60 = .ok (.isub, 1) := by decide +kernel
theorem dX4_drifts_61 : decode cX4_drifts 61 = .ok (.istore_n 3, 1) := by decide +kernel
theorem dX4_drifts_62 : decode cX4_drifts 62 = .ok (.iload_n 3, 1) := by decide +kernel
theorem dX4_drifts_63 : decode cX4_drifts 63 = .ok (.ifCond .le 153, 3) := by decide +kernel
theorem dX4_drifts_66 : decode cX4_drifts 66 = .ok (.aload_n 0, 1) := by decide +kernel
theorem dX4_drifts_67 : decode cX4_drifts 67 = .ok (.getfield 34, 3) := by decide +kernel
theorem dX4_drifts_70 : decode cX4_drifts 70 = .ok (.iload_n 3, 1) := by decide +kernel
theorem dX4_drifts_71 : decode cX4_drifts 71 = .ok (.iconst 1, 1) := by decide +kernel
theorem dX4_drifts_72 : decode cX4_drifts 72 = .ok (.iadd, 1) := by decide +kernel
theorem dX4_drifts_73 : decode cX4_drifts 73 = .ok (.iaload, 1) := by decide +kernel
theorem dX4_drifts_74 : decode cX4_drifts 74 = .ok (.istore 4, 2) := by decide +kernel
theorem dX4_drifts_76 : decode cX4_drifts 76 = .ok (.iload 4, 2) := by decide +kernel
theorem dX4_drifts_78 : decode cX4_drifts 78 = .ok (.ifCond .le 23, 3) := by decide +kernel
theorem dX4_drifts_81 : decode cX4_drifts 81 = .ok (.aload_n 0, 1) := by decide +kernel
theorem dX4_drifts_82 : decode cX4_drifts 82 = .ok (.getfield 22, 3) := by decide +kernel
theorem dX4_drifts_85 : decode cX4_drifts 85 = .ok (.iload 4, 2) := by decide +kernel
theorem dX4_drifts_87 : decode cX4_drifts 87 = .ok (.iconst 1, 1) := by decide +kernel
theorem dX4_drifts_88 : decode cX4_drifts 88 = .ok (.isub, 1) := by decide +kernel
theorem dX4_drifts_89 : decode cX4_drifts 89 = .ok (.iconst 1, 1) := by decide +kernel
theorem dX4_drifts_90 : decode cX4_drifts 90 = .ok (.aload_n 0, 1) := by decide +kernel
theorem dX4_drifts_91 : decode cX4_drifts 91 = .ok (.getfield 22, 3) := by decide +kernel
theorem dX4_drifts_94 : decode cX4_drifts 94 = .ok (.iload 4, 2) := by decide +kernel
theorem dX4_drifts_96 : decode cX4_drifts 96 = .ok (.iconst 1, 1) := by decide +kernel
theorem dX4_drifts_97 : decode cX4_drifts 97 = .ok (.isub, 1) := by decide +kernel
theorem dX4_drifts_98 : decode cX4_drifts 98 = .ok (.iaload, 1) := by decide +kernel
theorem dX4_drifts_99 : decode cX4_drifts 99 = .ok (.isub, 1) := by decide +kernel
theorem dX4_drifts_100 : decode cX4_drifts 100 = .ok (.iastore, 1) := by decide +kernel
theorem dX4_drifts_101 : decode cX4_drifts 101 = .ok (.aload_n 0, 1) := by decide +kernel
theorem dX4_drifts_102 : decode cX4_drifts 102 = .ok (.getfield 28, 3) := by decide +kernel
theorem dX4_drifts_105 : decode cX4_drifts 105 = .ok (.iload_n 3, 1) := by decide +kernel
theorem dX4_drifts_106 : decode cX4_drifts 106 = .ok (.iaload, 1) := by decide +kernel
theorem dX4_drifts_107 : decode cX4_drifts 107 = .ok (.iload_n 1, 1) := by decide +kernel
theorem dX4_drifts_108 : decode cX4_drifts 108 = .ok (.imul, 1) := by decide +kernel
theorem dX4_drifts_109 : decode cX4_drifts 109 = .ok (.iload_n 2, 1) := by decide +kernel
theorem dX4_drifts_110 : decode cX4_drifts 110 = .ok (.if_icmp .ge 14, 3) := by decide +kernel
theorem dX4_drifts_113 : decode cX4_drifts 113 = .ok (.aload_n 0, 1) := by decide +kernel
theorem dX4_drifts_114 : decode cX4_drifts 114 = .ok (.getfield 28, 3) := by decide +kernel
theorem dX4_drifts_117 : decode cX4_drifts 117 = .ok (.iload_n 3, 1) := by decide +kernel
theorem dX4_drifts_118 : decode cX4_drifts 118 = .ok (.iaload, 1) := by decide +kernel
theorem dX4_drifts_119 : decode cX4_drifts 119 = .ok (.iload_n 1, 1) := by decide +kernel
theorem dX4_drifts_120 : decode cX4_drifts 120 = .ok (.imul, 1) := by decide +kernel
theorem dX4_drifts_121 : decode cX4_drifts 121 = .ok (.goto 4, 3) := by decide +kernel
theorem dX4_drifts_124 : decode cX4_drifts 124 = .ok (.iload_n 2, 1) := by decide +kernel
theorem dX4_drifts_125 : decode cX4_drifts 125 = .ok (.istore_n 2, 1) := by decide +kernel
theorem dX4_drifts_126 : decode cX4_drifts 126 = .ok (.aload_n 0, 1) := by decide +kernel
theorem dX4_drifts_127 : decode cX4_drifts 127 = .ok (.getfield 31, 3) := by decide +kernel
theorem dX4_drifts_130 : decode cX4_drifts 130 = .ok (.iload_n 3, 1) := by decide +kernel
theorem dX4_drifts_131 : decode cX4_drifts 131 = .ok (.iaload, 1) := by decide +kernel
theorem dX4_drifts_132 : decode cX4_drifts 132 = .ok (.iload_n 1, 1) := by decide +kernel
theorem dX4_drifts_133 : decode cX4_drifts 133 = .ok (.if_icmp .ne 77, 3) := by decide +kernel
theorem dX4_drifts_136 : decode cX4_drifts 136 = .ok (.aload_n 0, 1) := by decide +kernel
theorem dX4_drifts_137 : decode cX4_drifts 137 = .ok (.getfield 25, 3) := by decide +kernel
theorem dX4_drifts_140 : decode cX4_drifts 140 = .ok (.iload_n 3, 1) := by decide +kernel
theorem dX4_drifts_141 : decode cX4_drifts 141 = .ok (.iaload, 1) := by decide +kernel
theorem dX4_drifts_142 : decode cX4_drifts 142 = .ok (.aload_n 0, 1) := by decide +kernel
theorem dX4_drifts_143 : decode cX4_drifts 143 = .ok (.getfield 25, 3) := by decide +kernel
theorem dX4_drifts_146 : decode cX4_drifts 146 = .ok (.aload_n 0, 1) := by decide +kernel
theorem dX4_drifts_147 : decode cX4_drifts 147 = .ok (.getfield 70, 3) := by decide +kernel
theorem dX4_drifts_150 : decode cX4_drifts 150 = .ok (.iaload, 1) := by decide +kernel
theorem dX4_drifts_151 : decode cX4_drifts 151 = .ok (.if_icmp .ne 59, 3) := by decide +kernel
theorem dX4_drifts_154 : decode cX4_drifts 154 = .ok (.aload_n 0, 1) := by decide +kernel
theorem dX4_drifts_155 : decode cX4_drifts 155 = .ok (.iload_n 1, 1) := by decide +kernel
theorem dX4_drifts_156 : decode cX4_drifts 156 = .ok (.aload_n 0, 1) := by decide +kernel
theorem dX4_drifts_157 : decode cX4_drifts 157 = .ok (.getfield 28, 3) := by decide +kernel
theorem dX4_drifts_160 : decode cX4_drifts 160 = .ok (.iload_n 3, 1) := by decide +kernel
theorem dX4_drifts_161 : decode cX4_drifts 161 = .ok (.iaload, 1) := by decide +kernel
theorem dX4_drifts_162 : decode cX4_drifts 162 = .ok (.aload_n 0, 1) := by decide +kernel
theorem dX4_drifts_163 : decode cX4_drifts 163 = .ok (.getfield 28, 3) := by decide +kernel
theorem dX4_drifts_166 : decode cX4_drifts 166 = .ok (.iload_n 3, 1) := by decide +kernel
theorem dX4_drifts_167 : decode cX4_drifts 167 = .ok (.iaload, 1) := by decide +kernel
theorem dX4_drifts_168 : decode cX4_drifts 168 = .ok (.iload_n 1, 1) := by decide +kernel
theorem dX4_drifts_169 : decode cX4_drifts 169 = .ok (.imul, 1) := by decide +kernel
theorem dX4_drifts_170 : decode cX4_drifts 170 = .ok (.iload_n 2, 1) := by decide +kernel
theorem dX4_drifts_171 : decode cX4_drifts 171 = .ok (.isub, 1) := by decide +kernel
theorem dX4_drifts_172 : decode cX4_drifts 172 = .ok (.invokevirtual 85, 3) := by decide +kernel
theorem dX4_drifts_175 : decode cX4_drifts 175 = .ok (.ifCond .eq 35, 3) := by decide +kernel
theorem dX4_drifts_178 : decode cX4_drifts 178 = .ok (.aload_n 0, 1) := by decide +kernel
theorem dX4_drifts_179 : decode cX4_drifts 179 = .ok (.aload_n 0, 1) := by decide +kernel
theorem dX4_drifts_180 : decode cX4_drifts 180 = .ok (.getfield 70, 3) := by decide +kernel
theorem dX4_drifts_183 : decode cX4_drifts 183 = .ok (.iload_n 3, 1) := by decide +kernel
theorem dX4_drifts_184 : decode cX4_drifts 184 = .ok (.isub, 1) := by decide +kernel
theorem dX4_drifts_185 : decode cX4_drifts 185 = .ok (.putfield 73, 3) := by decide +kernel
theorem dX4_drifts_188 : decode cX4_drifts 188 = .ok (.aload_n 0, 1) := by decide +kernel
theorem dX4_drifts_189 : decode cX4_drifts 189 = .ok (.aload_n 0, 1) := by decide +kernel
theorem dX4_drifts_190 : decode cX4_drifts 190 = .ok (.getfield 28, 3) := by decide +kernel
theorem dX4_drifts_193 : decode cX4_drifts 193 = .ok (.aload_n 0, 1) := by decide +kernel
theorem dX4_drifts_194 : decode cX4_drifts 194 = .ok (.getfield 70, 3) := by decide +kernel
theorem dX4_drifts_197 : decode cX4_drifts 197 = .ok (.iaload, 1) := by decide +kernel
theorem dX4_drifts_198 : decode cX4_drifts 198 = .ok (.aload_n 0, 1) := by decide +kernel
theorem dX4_drifts_199 : decode cX4_drifts 199 = .ok (.getfield 28, 3) := by decide +kernel
theorem dX4_drifts_202 : decode cX4_drifts 202 = .ok (.iload_n 3, 1) := by decide +kernel
theorem dX4_drifts_203 : decode cX4_drifts 203 = .ok (.iaload, 1) := by decide +kernel
theorem dX4_drifts_204 : decode cX4_drifts 204 = .ok (.isub, 1) := by decide +kernel
theorem dX4_drifts_205 : decode cX4_drifts 205 = .ok (.putfield 76, 3) := by decide +kernel
theorem dX4_drifts_208 : decode cX4_drifts 208 = .ok (.iconst 1, 1) := by decide +kernel
theorem dX4_drifts_209 : decode cX4_drifts 209 = .ok (.ireturn, 1) := by decide +kernel
theorem dX4_drifts_210 : decode cX4_drifts 210 = .ok (.iinc 3 (-1), 3) := by decide +kernel
theorem dX4_drifts_213 : decode cX4_drifts 213 = .ok (.goto (-151), 3) := by decide +kernel
theorem dX4_drifts_216 : decode cX4_drifts 216 = .ok (.iconst 0, 1) := by decide +kernel
theorem dX4_drifts_217 : decode cX4_drifts 217 = .ok (.ireturn, 1) := by decide +kernel
theorem dX4_alike_0 : decode cX4_alike 0 = .ok (.iconst 1, 1) := by decide +kernel
theorem dX4_alike_1 : decode cX4_alike 1 = .ok (.istore 4, 2) := by decide +kernel
theorem dX4_alike_3 : decode cX4_alike 3 = .ok (.iconst 0, 1) := by decide +kernel
theorem dX4_alike_4 : decode cX4_alike 4 = .ok (.istore 5, 2) := by decide +kernel
theorem dX4_alike_6 : decode cX4_alike 6 = .ok (.iload 5, 2) := by decide +kernel
theorem dX4_alike_8 : decode cX4_alike 8 = .ok (.iload_n 3, 1) := by decide +kernel
theorem dX4_alike_9 : decode cX4_alike 9 = .ok (.if_icmp .gt 62, 3) := by decide +kernel
theorem dX4_alike_12 : decode cX4_alike 12 = .ok (.iload 4, 2) := by decide +kernel
theorem dX4_alike_14 : decode cX4_alike 14 = .ok (.ifCond .eq 48, 3) := by decide +kernel
theorem dX4_alike_17 : decode cX4_alike 17 = .ok (.aload_n 0, 1) := by decide +kernel
theorem dX4_alike_18 : decode cX4_alike 18 = .ok (.getfield 22, 3) := by decide +kernel
theorem dX4_alike_21 : decode cX4_alike 21 = .ok (.sipush 310, 3) := by decide +kernel
theorem dX4_alike_24 : decode cX4_alike 24 = .ok (.iload_n 2, 1) := by decide +kernel
theorem dX4_alike_25 : decode cX4_alike 25 = .ok (.iadd, 1) := by decide +kernel
theorem dX4_alike_26 : decode cX4_alike 26 = .ok (.iload_n 1, 1) := by decide +kernel
theorem dX4_alike_27 : decode cX4_alike 27 = .ok (.iload 5, 2) := by decide +kernel
theorem dX4_alike_29 : decode cX4_alike 29 = .ok (.imul, 1) := by decide +kernel
theorem dX4_alike_30 : decode cX4_alike 30 = .ok (.isub, 1) := by decide +kernel
theorem dX4_alike_31 : decode cX4_alike 31 = .ok (.iaload, 1) := by decide +kernel
theorem dX4_alike_32 : decode cX4_alike 32 = .ok (.aload_n 0, 1) := by decide +kernel
theorem dX4_alike_33 : decode cX4_alike 33 = .ok (.getfield 19, 3) := by decide +kernel
theorem dX4_alike_36 : decode cX4_alike 36 = .ok (.sipush 310, 3) := by decide +kernel
theorem dX4_alike_39 : decode cX4_alike 39 = .ok (.aload_n 0, 1) := by decide +kernel
theorem dX4_alike_40 : decode cX4_alike 40 = .ok (.getfield 28, 3) := by decide +kernel
theorem dX4_alike_43 : decode cX4_alike 43 = .ok (.aload_n 0, 1) := by decide +kernel
theorem dX4_alike_44 : decode cX4_alike 44 = .ok (.getfield 70, 3) := by decide +kernel
theorem dX4_alike_47 : decode cX4_alike 47 = .ok (.iaload, 1) := by decide +kernel
theorem dX4_alike_48 : decode cX4_alike 48 = .ok (.iadd, 1) := by decide +kernel
theorem dX4_alike_49 : decode cX4_alike 49 = .ok (.iload_n 1, 1) := by decide +kernel
theorem dX4_alike_50 : decode cX4_alike 50 = .ok (.iload 5, 2) := by decide +kernel
theorem dX4_alike_52 : decode cX4_alike 52 = .ok (.imul, 1) := by decide +kernel
theorem dX4_alike_53 : decode cX4_alike 53 = .ok (.isub, 1) := by decide +kernel
theorem dX4_alike_54 : decode cX4_alike 54 = .ok (.iaload, 1) := by decide +kernel
theorem dX4_alike_55 : decode cX4_alike 55 = .ok (.if_icmp .ne 7, 3) := by decide +kernel
theorem dX4_alike_58 : decode cX4_alike 58 = .ok (.iconst 1, 1) := by decide +kernel
theorem dX4_alike_59 : decode cX4_alike 59 = .ok (.goto 4, 3) := by decide +kernel
theorem dX4_alike_62 : decode cX4_alike 62 = .ok (.iconst 0, 1) := by decide +kernel
theorem dX4_alike_63 : decode cX4_alike 63 = .ok (.istore 4, 2) := by decide +kernel
theorem dX4_alike_65 : decode cX4_alike 65 = .ok (.iinc 5 1, 3) := by decide +kernel
theorem dX4_alike_68 : decode cX4_alike 68 = .ok (.goto (-62), 3) := by decide +kernel
theorem dX4_alike_71 : decode cX4_alike 71 = .ok (.iload 4, 2) := by decide +kernel
theorem dX4_alike_73 : decode cX4_alike 73 = .ok (.ireturn, 1) := by decide +kernel
set_option maxRecDepth 20000 in
theorem ggX4_outcome_X4_begin : GoodIn wsX4_outcome wsX4_begin := goodIn_r _ [6, 7, 1, 8, 9, 10, 11, 12, 13, 14, 33, 34, 35, 36, 37, 38, 39, 40, 41, 42, 43, 44, 45, 46, 47, 48, 49, 50, 51, 52, 53, 54, 55, 56, 57, 58, 59, 60] (by decide +kernel) (by decide +kernel)
set_option maxRecDepth 20000 in
theorem gX4_outcome_X4_begin : GoodIn wsX4_outcome (wsV RX4 89 RX4 yX4_begin wsX4_begin) := goodIn_app (goodIn_of _ (by decide +kernel)) ggX4_outcome_X4_begin
set_option maxRecDepth 20000 in
theorem ggX4_outcome_X4_step : GoodIn wsX4_outcome wsX4_step := goodIn_r _ [18, 13, 1, 7, 12, 19, 14, 11, 10, 33, 34, 35, 36, 37, 38, 39, 40, 41, 42, 43, 44, 45, 46, 47, 48, 49, 50, 51, 52, 53, 54, 55, 56, 57, 58, 59, 60] (by decide +kernel) (by decide +kernel)
set_option maxRecDepth 20000 in
theorem gX4_outcome_X4_step : GoodIn wsX4_outcome (wsV RX4 92 RX4 yX4_step wsX4_step) := goodIn_app (goodIn_of _ (by decide +kernel)) ggX4_outcome_X4_step
set_option maxRecDepth 20000 in
theorem ggX4_outcome_X4_cycles : GoodIn wsX4_outcome wsX4_cycles := goodIn_r _ [23, 24, 1, 19, 12, 13, 8, 33, 34, 35, 36, 37, 38, 39, 40, 41, 42, 43, 44, 45, 46, 47, 48, 49, 50, 51, 52, 53, 54, 55, 56, 57, 58, 59, 60] (by decide +kernel) (by decide +kernel)
set_option maxRecDepth 20000 in
theorem gX4_outcome_X4_cycles : GoodIn wsX4_outcome (wsV RX4 96 RX4 yX4_cycles wsX4_cycles) := goodIn_app (goodIn_of _ (by decide +kernel)) ggX4_outcome_X4_cycles
set_option maxRecDepth 20000 in
theorem ggX4_outcome_X4_drifts : GoodIn wsX4_outcome wsX4_drifts := goodIn_r _ [28, 14, 1, 24, 7, 13, 19, 12, 8, 9, 29, 30, 31, 5, 32, 33, 34, 35, 36, 37, 38, 39, 40, 41, 42, 43, 44, 45, 46, 47, 48, 49, 50, 51, 52, 53, 54, 55, 56, 57, 58, 59, 60] (by decide +kernel) (by decide +kernel)
set_option maxRecDepth 20000 in
theorem gX4_outcome_X4_drifts : GoodIn wsX4_outcome (wsV RX4 100 RX4 yX4_drifts wsX4_drifts) := goodIn_app (goodIn_of _ (by decide +kernel)) ggX4_outcome_X4_drifts
theorem dX4_outcome_0 : decode cX4_outcome 0 = .ok (.aload_n 0, 1) := by decide +kernel
theorem dX4_outcome_1 : decode cX4_outcome 1 = .ok (.invokevirtual 89, 3) := by decide +kernel
theorem dX4_outcome_4 : decode cX4_outcome 4 = .ok (.aload_n 0, 1) := by decide +kernel
theorem dX4_outcome_5 : decode cX4_outcome 5 = .ok (.getfield 70, 3) := by decide +kernel
theorem dX4_outcome_8 : decode cX4_outcome 8 = .ok (.iload_n 2, 1) := by decide +kernel
theorem dX4_outcome_9 : decode cX4_outcome 9 = .ok (.if_icmp .ge 31, 3) := by decide +kernel
theorem dX4_outcome_12 : decode cX4_outcome 12 = .ok (.aload_n 0, 1) := by decide +kernel
theorem dX4_outcome_13 : decode cX4_outcome 13 = .ok (.aload_n 1, 1) := by decide +kernel
theorem dX4_outcome_14 : decode cX4_outcome 14 = .ok (.invokevirtual 92, 3) := by decide +kernel
theorem dX4_outcome_17 : decode cX4_outcome 17 = .ok (.ifCond .ne 5, 3) := by decide +kernel
theorem dX4_outcome_20 : decode cX4_outcome 20 = .ok (.iconst 1, 1) := by decide +kernel
theorem dX4_outcome_21 : decode cX4_outcome 21 = .ok (.ireturn, 1) := by decide +kernel
theorem dX4_outcome_22 : decode cX4_outcome 22 = .ok (.aload_n 0, 1) := by decide +kernel
theorem dX4_outcome_23 : decode cX4_outcome 23 = .ok (.invokevirtual 96, 3) := by decide +kernel
theorem dX4_outcome_26 : decode cX4_outcome 26 = .ok (.ifCond .eq 5, 3) := by decide +kernel
theorem dX4_outcome_29 : decode cX4_outcome 29 = .ok (.iconst 2, 1) := by decide +kernel
theorem dX4_outcome_30 : decode cX4_outcome 30 = .ok (.ireturn, 1) := by decide +kernel
theorem dX4_outcome_31 : decode cX4_outcome 31 = .ok (.aload_n 0, 1) := by decide +kernel
theorem dX4_outcome_32 : decode cX4_outcome 32 = .ok (.invokevirtual 100, 3) := by decide +kernel
theorem dX4_outcome_35 : decode cX4_outcome 35 = .ok (.ifCond .eq (-31), 3) := by decide +kernel
theorem dX4_outcome_38 : decode cX4_outcome 38 = .ok (.iconst 3, 1) := by decide +kernel
theorem dX4_outcome_39 : decode cX4_outcome 39 = .ok (.ireturn, 1) := by decide +kernel
theorem dX4_outcome_40 : decode cX4_outcome 40 = .ok (.iconst 0, 1) := by decide +kernel
theorem dX4_outcome_41 : decode cX4_outcome 41 = .ok (.ireturn, 1) := by decide +kernel
theorem dX4_ones_0 : decode cX4_ones 0 = .ok (.iconst 0, 1) := by decide +kernel
theorem dX4_ones_1 : decode cX4_ones 1 = .ok (.istore_n 1, 1) := by decide +kernel
theorem dX4_ones_2 : decode cX4_ones 2 = .ok (.iconst 0, 1) := by decide +kernel
theorem dX4_ones_3 : decode cX4_ones 3 = .ok (.istore_n 2, 1) := by decide +kernel
theorem dX4_ones_4 : decode cX4_ones 4 = .ok (.iload_n 2, 1) := by decide +kernel
theorem dX4_ones_5 : decode cX4_ones 5 = .ok (.sipush 620, 3) := by decide +kernel
theorem dX4_ones_8 : decode cX4_ones 8 = .ok (.if_icmp .ge 18, 3) := by decide +kernel
theorem dX4_ones_11 : decode cX4_ones 11 = .ok (.iload_n 1, 1) := by decide +kernel
theorem dX4_ones_12 : decode cX4_ones 12 = .ok (.aload_n 0, 1) := by decide +kernel
theorem dX4_ones_13 : decode cX4_ones 13 = .ok (.getfield 19, 3) := by decide +kernel
theorem dX4_ones_16 : decode cX4_ones 16 = .ok (.iload_n 2, 1) := by decide +kernel
theorem dX4_ones_17 : decode cX4_ones 17 = .ok (.iaload, 1) := by decide +kernel
theorem dX4_ones_18 : decode cX4_ones 18 = .ok (.iadd, 1) := by decide +kernel
theorem dX4_ones_19 : decode cX4_ones 19 = .ok (.istore_n 1, 1) := by decide +kernel
end
section
theorem dX4_ones_20 : decode cX4_ones 20 = .ok (.iinc 2 1, 3) := by decide +kernel
theorem dX4_ones_23 : decode cX4_ones 23 = .ok (.goto (-19), 3) := by decide +kernel
theorem dX4_ones_26 : decode cX4_ones 26 = .ok (.iload_n 1, 1) := by decide +kernel
theorem dX4_ones_27 : decode cX4_ones 27 = .ok (.ireturn, 1) := by decide +kernel
set_option maxRecDepth 20000 in
theorem ggX4_run_X4_refuse : GoodIn wsX4_run wsX4_refuse := goodIn_r _ [18, 1, 50, 51, 52, 53, 54, 55, 56, 57, 58, 59, 60, 61, 62, 63, 64, 65, 66, 67, 68, 69, 70, 71, 72, 73, 74, 75, 76, 77] (by decide +kernel) (by decide +kernel)
set_option maxRecDepth 20000 in
theorem gX4_run_X4_refuse : GoodIn wsX4_run (wsV RX4 62 RX4 yX4_refuse wsX4_refuse) := goodIn_app (goodIn_of _ (by decide +kernel)) ggX4_run_X4_refuse
set_option maxRecDepth 20000 in
theorem ggX4_run_X4_outcome : GoodIn wsX4_run wsX4_outcome := goodIn_r _ [22, 5, 23, 24, 25, 17, 26, 13, 6, 7, 10, 11, 8, 9, 27, 28, 29, 30, 31, 32, 33, 34, 35, 36, 37, 38, 39, 40, 41, 42, 43, 44, 45, 50, 51, 52, 53, 54, 55, 56, 57, 58, 59, 60, 61, 62, 63, 64, 65, 66, 67, 68, 69, 70, 71, 72, 73, 74, 75, 76, 77] (by decide +kernel) (by decide +kernel)
set_option maxRecDepth 20000 in
theorem gX4_run_X4_outcome : GoodIn wsX4_run (wsV RX4 103 RX4 yX4_outcome wsX4_outcome) := goodIn_app (goodIn_of _ (by decide +kernel)) ggX4_run_X4_outcome
set_option maxRecDepth 20000 in
theorem ggX4_run_X4_ones : GoodIn wsX4_run wsX4_ones := goodIn_r _ [49, 13, 50, 51, 52, 53, 54, 55, 56, 57, 58, 59, 60, 61, 62, 63, 64, 65, 66, 67, 68, 69, 70, 71, 72, 73, 74, 75, 76, 77] (by decide +kernel) (by decide +kernel)
set_option maxRecDepth 20000 in
theorem gX4_run_X4_ones : GoodIn wsX4_run (wsV RX4 107 RX4 yX4_ones wsX4_ones) := goodIn_app (goodIn_of _ (by decide +kernel)) ggX4_run_X4_ones
theorem dX4_run_0 : decode cX4_run 0 = .ok (.aload_n 0, 1) := by decide +kernel
theorem dX4_run_1 : decode cX4_run 1 = .ok (.iconst 0, 1) := by decide +kernel
theorem dX4_run_2 : decode cX4_run 2 = .ok (.putfield 59, 3) := by decide +kernel
theorem dX4_run_5 : decode cX4_run 5 = .ok (.iload_n 1, 1) := by decide +kernel
theorem dX4_run_6 : decode cX4_run 6 = .ok (.iconst 1, 1) := by decide +kernel
theorem dX4_run_7 : decode cX4_run 7 = .ok (.if_icmp .lt 10, 3) := by decide +kernel
theorem dX4_run_10 : decode cX4_run 10 = .ok (.iload_n 1, 1) := by decide +kernel
theorem dX4_run_11 : decode cX4_run 11 = .ok (.sipush 300, 3) := by decide +kernel
theorem dX4_run_14 : decode cX4_run 14 = .ok (.if_icmp .le 9, 3) := by decide +kernel
theorem dX4_run_17 : decode cX4_run 17 = .ok (.aload_n 0, 1) := by decide +kernel
theorem dX4_run_18 : decode cX4_run 18 = .ok (.iconst 1, 1) := by decide +kernel
theorem dX4_run_19 : decode cX4_run 19 = .ok (.invokevirtual 62, 3) := by decide +kernel
theorem dX4_run_22 : decode cX4_run 22 = .ok (.ireturn, 1) := by decide +kernel
theorem dX4_run_23 : decode cX4_run 23 = .ok (.aload_n 0, 1) := by decide +kernel
theorem dX4_run_24 : decode cX4_run 24 = .ok (.aload_n 0, 1) := by decide +kernel
theorem dX4_run_25 : decode cX4_run 25 = .ok (.getfield 7, 3) := by decide +kernel
theorem dX4_run_28 : decode cX4_run 28 = .ok (.iload_n 1, 1) := by decide +kernel
theorem dX4_run_29 : decode cX4_run 29 = .ok (.invokevirtual 103, 3) := by decide +kernel
theorem dX4_run_32 : decode cX4_run 32 = .ok (.istore_n 2, 1) := by decide +kernel
theorem dX4_run_33 : decode cX4_run 33 = .ok (.aload_n 0, 1) := by decide +kernel
theorem dX4_run_34 : decode cX4_run 34 = .ok (.iconst 1, 1) := by decide +kernel
theorem dX4_run_35 : decode cX4_run 35 = .ok (.putfield 66, 3) := by decide +kernel
theorem dX4_run_38 : decode cX4_run 38 = .ok (.aload_n 0, 1) := by decide +kernel
theorem dX4_run_39 : decode cX4_run 39 = .ok (.getfield 37, 3) := by decide +kernel
theorem dX4_run_42 : decode cX4_run 42 = .ok (.iconst 0, 1) := by decide +kernel
theorem dX4_run_43 : decode cX4_run 43 = .ok (.iload_n 2, 1) := by decide +kernel
theorem dX4_run_44 : decode cX4_run 44 = .ok (.iastore, 1) := by decide +kernel
theorem dX4_run_45 : decode cX4_run 45 = .ok (.aload_n 0, 1) := by decide +kernel
theorem dX4_run_46 : decode cX4_run 46 = .ok (.getfield 37, 3) := by decide +kernel
theorem dX4_run_49 : decode cX4_run 49 = .ok (.iconst 1, 1) := by decide +kernel
theorem dX4_run_50 : decode cX4_run 50 = .ok (.aload_n 0, 1) := by decide +kernel
theorem dX4_run_51 : decode cX4_run 51 = .ok (.getfield 70, 3) := by decide +kernel
theorem dX4_run_54 : decode cX4_run 54 = .ok (.iastore, 1) := by decide +kernel
theorem dX4_run_55 : decode cX4_run 55 = .ok (.aload_n 0, 1) := by decide +kernel
theorem dX4_run_56 : decode cX4_run 56 = .ok (.getfield 37, 3) := by decide +kernel
theorem dX4_run_59 : decode cX4_run 59 = .ok (.iconst 2, 1) := by decide +kernel
theorem dX4_run_60 : decode cX4_run 60 = .ok (.aload_n 0, 1) := by decide +kernel
theorem dX4_run_61 : decode cX4_run 61 = .ok (.getfield 73, 3) := by decide +kernel
theorem dX4_run_64 : decode cX4_run 64 = .ok (.iastore, 1) := by decide +kernel
theorem dX4_run_65 : decode cX4_run 65 = .ok (.aload_n 0, 1) := by decide +kernel
theorem dX4_run_66 : decode cX4_run 66 = .ok (.getfield 37, 3) := by decide +kernel
theorem dX4_run_69 : decode cX4_run 69 = .ok (.iconst 3, 1) := by decide +kernel
theorem dX4_run_70 : decode cX4_run 70 = .ok (.aload_n 0, 1) := by decide +kernel
theorem dX4_run_71 : decode cX4_run 71 = .ok (.getfield 76, 3) := by decide +kernel
theorem dX4_run_74 : decode cX4_run 74 = .ok (.iastore, 1) := by decide +kernel
theorem dX4_run_75 : decode cX4_run 75 = .ok (.aload_n 0, 1) := by decide +kernel
theorem dX4_run_76 : decode cX4_run 76 = .ok (.getfield 37, 3) := by decide +kernel
theorem dX4_run_79 : decode cX4_run 79 = .ok (.iconst 4, 1) := by decide +kernel
theorem dX4_run_80 : decode cX4_run 80 = .ok (.aload_n 0, 1) := by decide +kernel
theorem dX4_run_81 : decode cX4_run 81 = .ok (.getfield 25, 3) := by decide +kernel
theorem dX4_run_84 : decode cX4_run 84 = .ok (.aload_n 0, 1) := by decide +kernel
theorem dX4_run_85 : decode cX4_run 85 = .ok (.getfield 70, 3) := by decide +kernel
theorem dX4_run_88 : decode cX4_run 88 = .ok (.iaload, 1) := by decide +kernel
theorem dX4_run_89 : decode cX4_run 89 = .ok (.iastore, 1) := by decide +kernel
theorem dX4_run_90 : decode cX4_run 90 = .ok (.aload_n 0, 1) := by decide +kernel
theorem dX4_run_91 : decode cX4_run 91 = .ok (.getfield 37, 3) := by decide +kernel
theorem dX4_run_94 : decode cX4_run 94 = .ok (.iconst 5, 1) := by decide +kernel
theorem dX4_run_95 : decode cX4_run 95 = .ok (.aload_n 0, 1) := by decide +kernel
theorem dX4_run_96 : decode cX4_run 96 = .ok (.getfield 28, 3) := by decide +kernel
theorem dX4_run_99 : decode cX4_run 99 = .ok (.aload_n 0, 1) := by decide +kernel
theorem dX4_run_100 : decode cX4_run 100 = .ok (.getfield 70, 3) := by decide +kernel
theorem dX4_run_103 : decode cX4_run 103 = .ok (.iaload, 1) := by decide +kernel
theorem dX4_run_104 : decode cX4_run 104 = .ok (.iastore, 1) := by decide +kernel
theorem dX4_run_105 : decode cX4_run 105 = .ok (.aload_n 0, 1) := by decide +kernel
theorem dX4_run_106 : decode cX4_run 106 = .ok (.getfield 37, 3) := by decide +kernel
theorem dX4_run_109 : decode cX4_run 109 = .ok (.bipush 6, 2) := by decide +kernel
theorem dX4_run_111 : decode cX4_run 111 = .ok (.aload_n 0, 1) := by decide +kernel
theorem dX4_run_112 : decode cX4_run 112 = .ok (.invokevirtual 107, 3) := by decide +kernel
theorem dX4_run_115 : decode cX4_run 115 = .ok (.iastore, 1) := by decide +kernel
theorem dX4_run_116 : decode cX4_run 116 = .ok (.aload_n 0, 1) := by decide +kernel
theorem dX4_run_117 : decode cX4_run 117 = .ok (.getfield 37, 3) := by decide +kernel
theorem dX4_run_120 : decode cX4_run 120 = .ok (.bipush 7, 2) := by decide +kernel
theorem dX4_run_122 : decode cX4_run 122 = .ok (.aload_n 0, 1) := by decide +kernel
theorem dX4_run_123 : decode cX4_run 123 = .ok (.getfield 79, 3) := by decide +kernel
theorem dX4_run_126 : decode cX4_run 126 = .ok (.iastore, 1) := by decide +kernel
theorem dX4_run_127 : decode cX4_run 127 = .ok (.aload_n 0, 1) := by decide +kernel
theorem dX4_run_128 : decode cX4_run 128 = .ok (.getfield 37, 3) := by decide +kernel
theorem dX4_run_131 : decode cX4_run 131 = .ok (.bipush 8, 2) := by decide +kernel
theorem dX4_run_133 : decode cX4_run 133 = .ok (.aload_n 0, 1) := by decide +kernel
theorem dX4_run_134 : decode cX4_run 134 = .ok (.getfield 82, 3) := by decide +kernel
theorem dX4_run_137 : decode cX4_run 137 = .ok (.iastore, 1) := by decide +kernel
theorem dX4_run_138 : decode cX4_run 138 = .ok (.iconst 0, 1) := by decide +kernel
theorem dX4_run_139 : decode cX4_run 139 = .ok (.istore_n 3, 1) := by decide +kernel
theorem dX4_run_140 : decode cX4_run 140 = .ok (.iload_n 3, 1) := by decide +kernel
theorem dX4_run_141 : decode cX4_run 141 = .ok (.sipush 620, 3) := by decide +kernel
theorem dX4_run_144 : decode cX4_run 144 = .ok (.if_icmp .ge 21, 3) := by decide +kernel
theorem dX4_run_147 : decode cX4_run 147 = .ok (.aload_n 0, 1) := by decide +kernel
theorem dX4_run_148 : decode cX4_run 148 = .ok (.getfield 40, 3) := by decide +kernel
theorem dX4_run_151 : decode cX4_run 151 = .ok (.iload_n 3, 1) := by decide +kernel
theorem dX4_run_152 : decode cX4_run 152 = .ok (.aload_n 0, 1) := by decide +kernel
theorem dX4_run_153 : decode cX4_run 153 = .ok (.getfield 19, 3) := by decide +kernel
theorem dX4_run_156 : decode cX4_run 156 = .ok (.iload_n 3, 1) := by decide +kernel
theorem dX4_run_157 : decode cX4_run 157 = .ok (.iaload, 1) := by decide +kernel
theorem dX4_run_158 : decode cX4_run 158 = .ok (.iastore, 1) := by decide +kernel
theorem dX4_run_159 : decode cX4_run 159 = .ok (.iinc 3 1, 3) := by decide +kernel
theorem dX4_run_162 : decode cX4_run 162 = .ok (.goto (-22), 3) := by decide +kernel
theorem dX4_run_165 : decode cX4_run 165 = .ok (.iload_n 2, 1) := by decide +kernel
theorem dX4_run_166 : decode cX4_run 166 = .ok (.ireturn, 1) := by decide +kernel
set_option maxRecDepth 20000 in
theorem ggX4_figure_X4_refuse : GoodIn wsX4_figure wsX4_refuse := goodIn_r _ [8, 1, 9, 10, 11, 12, 13, 14, 15, 16, 17, 18, 19, 20, 21, 22, 23, 24, 25, 26, 27, 28, 29, 30, 31, 32, 33, 34, 35, 36] (by decide +kernel) (by decide +kernel)
set_option maxRecDepth 20000 in
theorem gX4_figure_X4_refuse : GoodIn wsX4_figure (wsV RX4 62 RX4 yX4_refuse wsX4_refuse) := goodIn_app (goodIn_of _ (by decide +kernel)) ggX4_figure_X4_refuse
theorem dX4_figure_0 : decode cX4_figure 0 = .ok (.aload_n 0, 1) := by decide +kernel
theorem dX4_figure_1 : decode cX4_figure 1 = .ok (.iconst 0, 1) := by decide +kernel
theorem dX4_figure_2 : decode cX4_figure 2 = .ok (.putfield 59, 3) := by decide +kernel
theorem dX4_figure_5 : decode cX4_figure 5 = .ok (.iload_n 1, 1) := by decide +kernel
theorem dX4_figure_6 : decode cX4_figure 6 = .ok (.ifCond .lt 9, 3) := by decide +kernel
theorem dX4_figure_9 : decode cX4_figure 9 = .ok (.iload_n 1, 1) := by decide +kernel
theorem dX4_figure_10 : decode cX4_figure 10 = .ok (.bipush 8, 2) := by decide +kernel
theorem dX4_figure_12 : decode cX4_figure 12 = .ok (.if_icmp .le 9, 3) := by decide +kernel
theorem dX4_figure_15 : decode cX4_figure 15 = .ok (.aload_n 0, 1) := by decide +kernel
theorem dX4_figure_16 : decode cX4_figure 16 = .ok (.iconst 1, 1) := by decide +kernel
theorem dX4_figure_17 : decode cX4_figure 17 = .ok (.invokevirtual 62, 3) := by decide +kernel
theorem dX4_figure_20 : decode cX4_figure 20 = .ok (.ireturn, 1) := by decide +kernel
theorem dX4_figure_21 : decode cX4_figure 21 = .ok (.aload_n 0, 1) := by decide +kernel
theorem dX4_figure_22 : decode cX4_figure 22 = .ok (.getfield 66, 3) := by decide +kernel
theorem dX4_figure_25 : decode cX4_figure 25 = .ok (.ifCond .eq 12, 3) := by decide +kernel
theorem dX4_figure_28 : decode cX4_figure 28 = .ok (.aload_n 0, 1) := by decide +kernel
theorem dX4_figure_29 : decode cX4_figure 29 = .ok (.getfield 37, 3) := by decide +kernel
theorem dX4_figure_32 : decode cX4_figure 32 = .ok (.iload_n 1, 1) := by decide +kernel
theorem dX4_figure_33 : decode cX4_figure 33 = .ok (.iaload, 1) := by decide +kernel
theorem dX4_figure_34 : decode cX4_figure 34 = .ok (.goto 8, 3) := by decide +kernel
theorem dX4_figure_37 : decode cX4_figure 37 = .ok (.aload_n 0, 1) := by decide +kernel
theorem dX4_figure_38 : decode cX4_figure 38 = .ok (.iconst 2, 1) := by decide +kernel
theorem dX4_figure_39 : decode cX4_figure 39 = .ok (.invokevirtual 62, 3) := by decide +kernel
theorem dX4_figure_42 : decode cX4_figure 42 = .ok (.ireturn, 1) := by decide +kernel
set_option maxRecDepth 20000 in
theorem ggX4_cell_X4_refuse : GoodIn wsX4_cell wsX4_refuse := goodIn_r _ [8, 1, 9, 10, 11, 12, 13, 14, 15, 16, 17, 18, 19, 20, 21, 22, 23, 24, 25, 26, 27, 28, 29, 30, 31, 32, 33, 34, 35, 36] (by decide +kernel) (by decide +kernel)
set_option maxRecDepth 20000 in
theorem gX4_cell_X4_refuse : GoodIn wsX4_cell (wsV RX4 62 RX4 yX4_refuse wsX4_refuse) := goodIn_app (goodIn_of _ (by decide +kernel)) ggX4_cell_X4_refuse
theorem dX4_cell_0 : decode cX4_cell 0 = .ok (.aload_n 0, 1) := by decide +kernel
theorem dX4_cell_1 : decode cX4_cell 1 = .ok (.iconst 0, 1) := by decide +kernel
theorem dX4_cell_2 : decode cX4_cell 2 = .ok (.putfield 59, 3) := by decide +kernel
theorem dX4_cell_5 : decode cX4_cell 5 = .ok (.aload_n 0, 1) := by decide +kernel
theorem dX4_cell_6 : decode cX4_cell 6 = .ok (.getfield 66, 3) := by decide +kernel
theorem dX4_cell_9 : decode cX4_cell 9 = .ok (.ifCond .ne 9, 3) := by decide +kernel
theorem dX4_cell_12 : decode cX4_cell 12 = .ok (.aload_n 0, 1) := by decide +kernel
theorem dX4_cell_13 : decode cX4_cell 13 = .ok (.iconst 1, 1) := by decide +kernel
theorem dX4_cell_14 : decode cX4_cell 14 = .ok (.invokevirtual 62, 3) := by decide +kernel
theorem dX4_cell_17 : decode cX4_cell 17 = .ok (.ireturn, 1) := by decide +kernel
theorem dX4_cell_18 : decode cX4_cell 18 = .ok (.iload_n 1, 1) := by decide +kernel
theorem dX4_cell_19 : decode cX4_cell 19 = .ok (.sipush (-300), 3) := by decide +kernel
theorem dX4_cell_22 : decode cX4_cell 22 = .ok (.if_icmp .lt 10, 3) := by decide +kernel
theorem dX4_cell_25 : decode cX4_cell 25 = .ok (.iload_n 1, 1) := by decide +kernel
theorem dX4_cell_26 : decode cX4_cell 26 = .ok (.sipush 300, 3) := by decide +kernel
theorem dX4_cell_29 : decode cX4_cell 29 = .ok (.if_icmp .le 7, 3) := by decide +kernel
theorem dX4_cell_32 : decode cX4_cell 32 = .ok (.iconst 0, 1) := by decide +kernel
theorem dX4_cell_33 : decode cX4_cell 33 = .ok (.goto 13, 3) := by decide +kernel
theorem dX4_cell_36 : decode cX4_cell 36 = .ok (.aload_n 0, 1) := by decide +kernel
theorem dX4_cell_37 : decode cX4_cell 37 = .ok (.getfield 40, 3) := by decide +kernel
theorem dX4_cell_40 : decode cX4_cell 40 = .ok (.sipush 310, 3) := by decide +kernel
theorem dX4_cell_43 : decode cX4_cell 43 = .ok (.iload_n 1, 1) := by decide +kernel
theorem dX4_cell_44 : decode cX4_cell 44 = .ok (.iadd, 1) := by decide +kernel
theorem dX4_cell_45 : decode cX4_cell 45 = .ok (.iaload, 1) := by decide +kernel
theorem dX4_cell_46 : decode cX4_cell 46 = .ok (.ireturn, 1) := by decide +kernel
set_option maxRecDepth 20000 in
theorem ggX4_share_X4_refuse : GoodIn wsX4_share wsX4_refuse := goodIn_r _ [8, 1, 9, 10, 11, 12, 13, 14, 15, 16, 17, 18, 19, 20, 21, 22, 23, 24, 25, 26, 27, 28, 29, 30, 31, 32, 33, 34, 35, 36] (by decide +kernel) (by decide +kernel)
set_option maxRecDepth 20000 in
theorem gX4_share_X4_refuse : GoodIn wsX4_share (wsV RX4 62 RX4 yX4_refuse wsX4_refuse) := goodIn_app (goodIn_of _ (by decide +kernel)) ggX4_share_X4_refuse
theorem dX4_share_0 : decode cX4_share 0 = .ok (.aload_n 0, 1) := by decide +kernel
theorem dX4_share_1 : decode cX4_share 1 = .ok (.iconst 0, 1) := by decide +kernel
theorem dX4_share_2 : decode cX4_share 2 = .ok (.putfield 59, 3) := by decide +kernel
theorem dX4_share_5 : decode cX4_share 5 = .ok (.aload_n 0, 1) := by decide +kernel
theorem dX4_share_6 : decode cX4_share 6 = .ok (.getfield 66, 3) := by decide +kernel
theorem dX4_share_9 : decode cX4_share 9 = .ok (.ifCond .ne 10, 3) := by decide +kernel
theorem dX4_share_12 : decode cX4_share 12 = .ok (.aload_n 0, 1) := by decide +kernel
theorem dX4_share_13 : decode cX4_share 13 = .ok (.iconst 1, 1) := by decide +kernel
theorem dX4_share_14 : decode cX4_share 14 = .ok (.invokevirtual 62, 3) := by decide +kernel
theorem dX4_share_17 : decode cX4_share 17 = .ok (.i2f, 1) := by decide +kernel
theorem dX4_share_18 : decode cX4_share 18 = .ok (.freturn, 1) := by decide +kernel
theorem dX4_share_19 : decode cX4_share 19 = .ok (.aload_n 0, 1) := by decide +kernel
theorem dX4_share_20 : decode cX4_share 20 = .ok (.getfield 37, 3) := by decide +kernel
theorem dX4_share_23 : decode cX4_share 23 = .ok (.bipush 6, 2) := by decide +kernel
theorem dX4_share_25 : decode cX4_share 25 = .ok (.iaload, 1) := by decide +kernel
theorem dX4_share_26 : decode cX4_share 26 = .ok (.i2f, 1) := by decide +kernel
theorem dX4_share_27 : decode cX4_share 27 = .ok (.aload_n 0, 1) := by decide +kernel
theorem dX4_share_28 : decode cX4_share 28 = .ok (.getfield 37, 3) := by decide +kernel
theorem dX4_share_31 : decode cX4_share 31 = .ok (.bipush 8, 2) := by decide +kernel
theorem dX4_share_33 : decode cX4_share 33 = .ok (.iaload, 1) := by decide +kernel
theorem dX4_share_34 : decode cX4_share 34 = .ok (.aload_n 0, 1) := by decide +kernel
theorem dX4_share_35 : decode cX4_share 35 = .ok (.getfield 37, 3) := by decide +kernel
theorem dX4_share_38 : decode cX4_share 38 = .ok (.bipush 7, 2) := by decide +kernel
theorem dX4_share_40 : decode cX4_share 40 = .ok (.iaload, 1) := by decide +kernel
theorem dX4_share_41 : decode cX4_share 41 = .ok (.isub, 1) := by decide +kernel
theorem dX4_share_42 : decode cX4_share 42 = .ok (.iconst 1, 1) := by decide +kernel
theorem dX4_share_43 : decode cX4_share 43 = .ok (.iadd, 1) := by decide +kernel
theorem dX4_share_44 : decode cX4_share 44 = .ok (.i2f, 1) := by decide +kernel
theorem dX4_share_45 : decode cX4_share 45 = .ok (.fdiv, 1) := by decide +kernel
theorem dX4_share_46 : decode cX4_share 46 = .ok (.freturn, 1) := by decide +kernel
theorem dX4_actions_0 : decode cX4_actions 0 = .ok (.iconst 0, 1) := by decide +kernel
theorem dX4_actions_1 : decode cX4_actions 1 = .ok (.istore_n 1, 1) := by decide +kernel
theorem dX4_actions_2 : decode cX4_actions 2 = .ok (.iconst 0, 1) := by decide +kernel
theorem dX4_actions_3 : decode cX4_actions 3 = .ok (.istore_n 2, 1) := by decide +kernel
theorem dX4_actions_4 : decode cX4_actions 4 = .ok (.iload_n 2, 1) := by decide +kernel
theorem dX4_actions_5 : decode cX4_actions 5 = .ok (.bipush 8, 2) := by decide +kernel
theorem dX4_actions_7 : decode cX4_actions 7 = .ok (.if_icmp .ge 26, 3) := by decide +kernel
theorem dX4_actions_10 : decode cX4_actions 10 = .ok (.aload_n 0, 1) := by decide +kernel
theorem dX4_actions_11 : decode cX4_actions 11 = .ok (.getfield 13, 3) := by decide +kernel
theorem dX4_actions_14 : decode cX4_actions 14 = .ok (.iload_n 2, 1) := by decide +kernel
theorem dX4_actions_15 : decode cX4_actions 15 = .ok (.iaload, 1) := by decide +kernel
theorem dX4_actions_16 : decode cX4_actions 16 = .ok (.ifCond .lt 9, 3) := by decide +kernel
theorem dX4_actions_19 : decode cX4_actions 19 = .ok (.iload_n 1, 1) := by decide +kernel
theorem dX4_actions_20 : decode cX4_actions 20 = .ok (.iconst 1, 1) := by decide +kernel
theorem dX4_actions_21 : decode cX4_actions 21 = .ok (.iadd, 1) := by decide +kernel
theorem dX4_actions_22 : decode cX4_actions 22 = .ok (.goto 4, 3) := by decide +kernel
theorem dX4_actions_25 : decode cX4_actions 25 = .ok (.iload_n 1, 1) := by decide +kernel
theorem dX4_actions_26 : decode cX4_actions 26 = .ok (.istore_n 1, 1) := by decide +kernel
theorem dX4_actions_27 : decode cX4_actions 27 = .ok (.iinc 2 1, 3) := by decide +kernel
theorem dX4_actions_30 : decode cX4_actions 30 = .ok (.goto (-26), 3) := by decide +kernel
theorem dX4_actions_33 : decode cX4_actions 33 = .ok (.iload_n 1, 1) := by decide +kernel
theorem dX4_actions_34 : decode cX4_actions 34 = .ok (.ireturn, 1) := by decide +kernel
theorem dX4_greatest_0 : decode cX4_greatest 0 = .ok (.iconst 0, 1) := by decide +kernel
theorem dX4_greatest_1 : decode cX4_greatest 1 = .ok (.istore_n 1, 1) := by decide +kernel
theorem dX4_greatest_2 : decode cX4_greatest 2 = .ok (.iconst 0, 1) := by decide +kernel
theorem dX4_greatest_3 : decode cX4_greatest 3 = .ok (.istore_n 2, 1) := by decide +kernel
theorem dX4_greatest_4 : decode cX4_greatest 4 = .ok (.iload_n 2, 1) := by decide +kernel
theorem dX4_greatest_5 : decode cX4_greatest 5 = .ok (.bipush 8, 2) := by decide +kernel
theorem dX4_greatest_7 : decode cX4_greatest 7 = .ok (.if_icmp .ge 43, 3) := by decide +kernel
theorem dX4_greatest_10 : decode cX4_greatest 10 = .ok (.aload_n 0, 1) := by decide +kernel
theorem dX4_greatest_11 : decode cX4_greatest 11 = .ok (.getfield 13, 3) := by decide +kernel
theorem dX4_greatest_14 : decode cX4_greatest 14 = .ok (.iload_n 2, 1) := by decide +kernel
theorem dX4_greatest_15 : decode cX4_greatest 15 = .ok (.iaload, 1) := by decide +kernel
theorem dX4_greatest_16 : decode cX4_greatest 16 = .ok (.ifCond .lt 26, 3) := by decide +kernel
theorem dX4_greatest_19 : decode cX4_greatest 19 = .ok (.aload_n 0, 1) := by decide +kernel
theorem dX4_greatest_20 : decode cX4_greatest 20 = .ok (.getfield 13, 3) := by decide +kernel
theorem dX4_greatest_23 : decode cX4_greatest 23 = .ok (.iload_n 2, 1) := by decide +kernel
theorem dX4_greatest_24 : decode cX4_greatest 24 = .ok (.iaload, 1) := by decide +kernel
theorem dX4_greatest_25 : decode cX4_greatest 25 = .ok (.iconst 4, 1) := by decide +kernel
theorem dX4_greatest_26 : decode cX4_greatest 26 = .ok (.idiv, 1) := by decide +kernel
theorem dX4_greatest_27 : decode cX4_greatest 27 = .ok (.iload_n 1, 1) := by decide +kernel
theorem dX4_greatest_28 : decode cX4_greatest 28 = .ok (.if_icmp .le 14, 3) := by decide +kernel
theorem dX4_greatest_31 : decode cX4_greatest 31 = .ok (.aload_n 0, 1) := by decide +kernel
theorem dX4_greatest_32 : decode cX4_greatest 32 = .ok (.getfield 13, 3) := by decide +kernel
theorem dX4_greatest_35 : decode cX4_greatest 35 = .ok (.iload_n 2, 1) := by decide +kernel
theorem dX4_greatest_36 : decode cX4_greatest 36 = .ok (.iaload, 1) := by decide +kernel
theorem dX4_greatest_37 : decode cX4_greatest 37 = .ok (.iconst 4, 1) := by decide +kernel
theorem dX4_greatest_38 : decode cX4_greatest 38 = .ok (.idiv, 1) := by decide +kernel
theorem dX4_greatest_39 : decode cX4_greatest 39 = .ok (.goto 4, 3) := by decide +kernel
theorem dX4_greatest_42 : decode cX4_greatest 42 = .ok (.iload_n 1, 1) := by decide +kernel
theorem dX4_greatest_43 : decode cX4_greatest 43 = .ok (.istore_n 1, 1) := by decide +kernel
theorem dX4_greatest_44 : decode cX4_greatest 44 = .ok (.iinc 2 1, 3) := by decide +kernel
theorem dX4_greatest_47 : decode cX4_greatest 47 = .ok (.goto (-43), 3) := by decide +kernel
theorem dX4_greatest_50 : decode cX4_greatest 50 = .ok (.iload_n 1, 1) := by decide +kernel
theorem dX4_greatest_51 : decode cX4_greatest 51 = .ok (.ireturn, 1) := by decide +kernel
set_option maxRecDepth 20000 in
theorem ggX4_take_X4_outcome : GoodIn wsX4_take wsX4_outcome := goodIn_r _ [20, 4, 21, 22, 23, 19, 24, 13, 25, 26, 27, 28, 12, 14, 29, 30, 31, 32, 33, 34, 35, 36, 37, 38, 39, 40, 41, 42, 43, 44, 45, 46, 47, 65, 66, 67, 68, 69, 70, 71, 72, 73, 74, 75, 76, 77, 78, 79, 80, 81, 82, 83, 84, 85, 86, 87, 88, 89, 90, 91, 92] (by decide +kernel) (by decide +kernel)
set_option maxRecDepth 20000 in
theorem gX4_take_X4_outcome : GoodIn wsX4_take (wsV RX4 103 RX4 yX4_outcome wsX4_outcome) := goodIn_app (goodIn_of _ (by decide +kernel)) ggX4_take_X4_outcome
set_option maxRecDepth 20000 in
theorem ggX4_take_X4_ones : GoodIn wsX4_take wsX4_ones := goodIn_r _ [51, 13, 65, 66, 67, 68, 69, 70, 71, 72, 73, 74, 75, 76, 77, 78, 79, 80, 81, 82, 83, 84, 85, 86, 87, 88, 89, 90, 91, 92] (by decide +kernel) (by decide +kernel)
set_option maxRecDepth 20000 in
theorem gX4_take_X4_ones : GoodIn wsX4_take (wsV RX4 107 RX4 yX4_ones wsX4_ones) := goodIn_app (goodIn_of _ (by decide +kernel)) ggX4_take_X4_ones
set_option maxRecDepth 20000 in
theorem ggX4_take_X4_actions : GoodIn wsX4_take wsX4_actions := goodIn_r _ [55, 1, 65, 66, 67, 68, 69, 70, 71, 72, 73, 74, 75, 76, 77, 78, 79, 80, 81, 82, 83, 84, 85, 86, 87, 88, 89, 90, 91, 92] (by decide +kernel) (by decide +kernel)
set_option maxRecDepth 20000 in
theorem gX4_take_X4_actions : GoodIn wsX4_take (wsV RX4 123 RX4 yX4_actions wsX4_actions) := goodIn_app (goodIn_of _ (by decide +kernel)) ggX4_take_X4_actions
set_option maxRecDepth 20000 in
theorem ggX4_take_X4_greatest : GoodIn wsX4_take wsX4_greatest := goodIn_r _ [59, 1, 65, 66, 67, 68, 69, 70, 71, 72, 73, 74, 75, 76, 77, 78, 79, 80, 81, 82, 83, 84, 85, 86, 87, 88, 89, 90, 91, 92] (by decide +kernel) (by decide +kernel)
set_option maxRecDepth 20000 in
theorem gX4_take_X4_greatest : GoodIn wsX4_take (wsV RX4 126 RX4 yX4_greatest wsX4_greatest) := goodIn_app (goodIn_of _ (by decide +kernel)) ggX4_take_X4_greatest
set_option maxRecDepth 20000 in
theorem ggX4_take_X4_goOn : GoodIn wsX4_take wsX4_goOn := goodIn_r _ [63, 11, 10, 1, 15, 64, 65, 66, 67, 68, 69, 70, 71, 72, 73, 74, 75, 76, 77, 78, 79, 80, 81, 82, 83, 84, 85, 86, 87, 88, 89, 90, 91, 92] (by decide +kernel) (by decide +kernel)
set_option maxRecDepth 20000 in
theorem gX4_take_X4_goOn : GoodIn wsX4_take (wsV RX4 129 RX4 yX4_goOn wsX4_goOn) := goodIn_app (goodIn_of _ (by decide +kernel)) ggX4_take_X4_goOn
theorem dX4_take_0 : decode cX4_take 0 = .ok (.aload_n 0, 1) := by decide +kernel
theorem dX4_take_1 : decode cX4_take 1 = .ok (.aload_n 0, 1) := by decide +kernel
theorem dX4_take_2 : decode cX4_take 2 = .ok (.getfield 13, 3) := by decide +kernel
theorem dX4_take_5 : decode cX4_take 5 = .ok (.bipush 120, 2) := by decide +kernel
theorem dX4_take_7 : decode cX4_take 7 = .ok (.invokevirtual 103, 3) := by decide +kernel
theorem dX4_take_10 : decode cX4_take 10 = .ok (.istore_n 1, 1) := by decide +kernel
theorem dX4_take_11 : decode cX4_take 11 = .ok (.aload_n 0, 1) := by decide +kernel
theorem dX4_take_12 : decode cX4_take 12 = .ok (.getfield 53, 3) := by decide +kernel
theorem dX4_take_15 : decode cX4_take 15 = .ok (.iload_n 1, 1) := by decide +kernel
theorem dX4_take_16 : decode cX4_take 16 = .ok (.dup2, 1) := by decide +kernel
theorem dX4_take_17 : decode cX4_take 17 = .ok (.iaload, 1) := by decide +kernel
theorem dX4_take_18 : decode cX4_take 18 = .ok (.iconst 1, 1) := by decide +kernel
theorem dX4_take_19 : decode cX4_take 19 = .ok (.iadd, 1) := by decide +kernel
theorem dX4_take_20 : decode cX4_take 20 = .ok (.iastore, 1) := by decide +kernel
theorem dX4_take_21 : decode cX4_take 21 = .ok (.iload_n 1, 1) := by decide +kernel
theorem dX4_take_22 : decode cX4_take 22 = .ok (.iconst 1, 1) := by decide +kernel
theorem dX4_take_23 : decode cX4_take 23 = .ok (.if_icmp .ne 91, 3) := by decide +kernel
theorem dX4_take_26 : decode cX4_take 26 = .ok (.aload_n 0, 1) := by decide +kernel
theorem dX4_take_27 : decode cX4_take 27 = .ok (.invokevirtual 107, 3) := by decide +kernel
theorem dX4_take_30 : decode cX4_take 30 = .ok (.istore_n 2, 1) := by decide +kernel
theorem dX4_take_31 : decode cX4_take 31 = .ok (.aload_n 0, 1) := by decide +kernel
theorem dX4_take_32 : decode cX4_take 32 = .ok (.dup, 1) := by decide +kernel
theorem dX4_take_33 : decode cX4_take 33 = .ok (.getfield 111, 3) := by decide +kernel
theorem dX4_take_36 : decode cX4_take 36 = .ok (.aload_n 0, 1) := by decide +kernel
theorem dX4_take_37 : decode cX4_take 37 = .ok (.getfield 70, 3) := by decide +kernel
theorem dX4_take_40 : decode cX4_take 40 = .ok (.iadd, 1) := by decide +kernel
theorem dX4_take_41 : decode cX4_take 41 = .ok (.putfield 111, 3) := by decide +kernel
theorem dX4_take_44 : decode cX4_take 44 = .ok (.aload_n 0, 1) := by decide +kernel
theorem dX4_take_45 : decode cX4_take 45 = .ok (.iload_n 2, 1) := by decide +kernel
theorem dX4_take_46 : decode cX4_take 46 = .ok (.aload_n 0, 1) := by decide +kernel
theorem dX4_take_47 : decode cX4_take 47 = .ok (.getfield 114, 3) := by decide +kernel
theorem dX4_take_50 : decode cX4_take 50 = .ok (.if_icmp .le 7, 3) := by decide +kernel
theorem dX4_take_53 : decode cX4_take 53 = .ok (.iload_n 2, 1) := by decide +kernel
theorem dX4_take_54 : decode cX4_take 54 = .ok (.goto 7, 3) := by decide +kernel
theorem dX4_take_57 : decode cX4_take 57 = .ok (.aload_n 0, 1) := by decide +kernel
theorem dX4_take_58 : decode cX4_take 58 = .ok (.getfield 114, 3) := by decide +kernel
theorem dX4_take_61 : decode cX4_take 61 = .ok (.putfield 114, 3) := by decide +kernel
theorem dX4_take_64 : decode cX4_take 64 = .ok (.aload_n 0, 1) := by decide +kernel
theorem dX4_take_65 : decode cX4_take 65 = .ok (.getfield 70, 3) := by decide +kernel
theorem dX4_take_68 : decode cX4_take 68 = .ok (.aload_n 0, 1) := by decide +kernel
theorem dX4_take_69 : decode cX4_take 69 = .ok (.getfield 117, 3) := by decide +kernel
theorem dX4_take_72 : decode cX4_take 72 = .ok (.if_icmp .le 42, 3) := by decide +kernel
theorem dX4_take_75 : decode cX4_take 75 = .ok (.aload_n 0, 1) := by decide +kernel
theorem dX4_take_76 : decode cX4_take 76 = .ok (.aload_n 0, 1) := by decide +kernel
theorem dX4_take_77 : decode cX4_take 77 = .ok (.getfield 70, 3) := by decide +kernel
theorem dX4_take_80 : decode cX4_take 80 = .ok (.putfield 117, 3) := by decide +kernel
theorem dX4_take_83 : decode cX4_take 83 = .ok (.aload_n 0, 1) := by decide +kernel
theorem dX4_take_84 : decode cX4_take 84 = .ok (.iload_n 2, 1) := by decide +kernel
theorem dX4_take_85 : decode cX4_take 85 = .ok (.putfield 120, 3) := by decide +kernel
theorem dX4_take_88 : decode cX4_take 88 = .ok (.iconst 0, 1) := by decide +kernel
theorem dX4_take_89 : decode cX4_take 89 = .ok (.istore_n 3, 1) := by decide +kernel
theorem dX4_take_90 : decode cX4_take 90 = .ok (.iload_n 3, 1) := by decide +kernel
theorem dX4_take_91 : decode cX4_take 91 = .ok (.bipush 8, 2) := by decide +kernel
theorem dX4_take_93 : decode cX4_take 93 = .ok (.if_icmp .ge 21, 3) := by decide +kernel
theorem dX4_take_96 : decode cX4_take 96 = .ok (.aload_n 0, 1) := by decide +kernel
theorem dX4_take_97 : decode cX4_take 97 = .ok (.getfield 16, 3) := by decide +kernel
theorem dX4_take_100 : decode cX4_take 100 = .ok (.iload_n 3, 1) := by decide +kernel
theorem dX4_take_101 : decode cX4_take 101 = .ok (.aload_n 0, 1) := by decide +kernel
theorem dX4_take_102 : decode cX4_take 102 = .ok (.getfield 13, 3) := by decide +kernel
theorem dX4_take_105 : decode cX4_take 105 = .ok (.iload_n 3, 1) := by decide +kernel
theorem dX4_take_106 : decode cX4_take 106 = .ok (.iaload, 1) := by decide +kernel
theorem dX4_take_107 : decode cX4_take 107 = .ok (.iastore, 1) := by decide +kernel
theorem dX4_take_108 : decode cX4_take 108 = .ok (.iinc 3 1, 3) := by decide +kernel
theorem dX4_take_111 : decode cX4_take 111 = .ok (.goto (-21), 3) := by decide +kernel
theorem dX4_take_114 : decode cX4_take 114 = .ok (.iload_n 1, 1) := by decide +kernel
theorem dX4_take_115 : decode cX4_take 115 = .ok (.iconst 1, 1) := by decide +kernel
theorem dX4_take_116 : decode cX4_take 116 = .ok (.if_icmp .ne 128, 3) := by decide +kernel
theorem dX4_take_119 : decode cX4_take 119 = .ok (.aload_n 0, 1) := by decide +kernel
theorem dX4_take_120 : decode cX4_take 120 = .ok (.invokevirtual 123, 3) := by decide +kernel
theorem dX4_take_123 : decode cX4_take 123 = .ok (.iconst 2, 1) := by decide +kernel
theorem dX4_take_124 : decode cX4_take 124 = .ok (.aload_n 0, 1) := by decide +kernel
theorem dX4_take_125 : decode cX4_take 125 = .ok (.getfield 56, 3) := by decide +kernel
theorem dX4_take_128 : decode cX4_take 128 = .ok (.imul, 1) := by decide +kernel
theorem dX4_take_129 : decode cX4_take 129 = .ok (.iconst 1, 1) := by decide +kernel
theorem dX4_take_130 : decode cX4_take 130 = .ok (.isub, 1) := by decide +kernel
theorem dX4_take_131 : decode cX4_take 131 = .ok (.if_icmp .ge 113, 3) := by decide +kernel
theorem dX4_take_134 : decode cX4_take 134 = .ok (.aload_n 0, 1) := by decide +kernel
theorem dX4_take_135 : decode cX4_take 135 = .ok (.invokevirtual 126, 3) := by decide +kernel
theorem dX4_take_138 : decode cX4_take 138 = .ok (.iconst 1, 1) := by decide +kernel
theorem dX4_take_139 : decode cX4_take 139 = .ok (.iadd, 1) := by decide +kernel
theorem dX4_take_140 : decode cX4_take 140 = .ok (.aload_n 0, 1) := by decide +kernel
theorem dX4_take_141 : decode cX4_take 141 = .ok (.getfield 56, 3) := by decide +kernel
theorem dX4_take_144 : decode cX4_take 144 = .ok (.if_icmp .ge 12, 3) := by decide +kernel
theorem dX4_take_147 : decode cX4_take 147 = .ok (.aload_n 0, 1) := by decide +kernel
theorem dX4_take_148 : decode cX4_take 148 = .ok (.invokevirtual 126, 3) := by decide +kernel
theorem dX4_take_151 : decode cX4_take 151 = .ok (.iconst 1, 1) := by decide +kernel
theorem dX4_take_152 : decode cX4_take 152 = .ok (.iadd, 1) := by decide +kernel
theorem dX4_take_153 : decode cX4_take 153 = .ok (.goto 9, 3) := by decide +kernel
theorem dX4_take_156 : decode cX4_take 156 = .ok (.aload_n 0, 1) := by decide +kernel
theorem dX4_take_157 : decode cX4_take 157 = .ok (.getfield 56, 3) := by decide +kernel
theorem dX4_take_160 : decode cX4_take 160 = .ok (.iconst 1, 1) := by decide +kernel
theorem dX4_take_161 : decode cX4_take 161 = .ok (.isub, 1) := by decide +kernel
theorem dX4_take_162 : decode cX4_take 162 = .ok (.istore_n 2, 1) := by decide +kernel
theorem dX4_take_163 : decode cX4_take 163 = .ok (.aload_n 0, 1) := by decide +kernel
theorem dX4_take_164 : decode cX4_take 164 = .ok (.getfield 47, 3) := by decide +kernel
theorem dX4_take_167 : decode cX4_take 167 = .ok (.aload_n 0, 1) := by decide +kernel
theorem dX4_take_168 : decode cX4_take 168 = .ok (.getfield 43, 3) := by decide +kernel
theorem dX4_take_171 : decode cX4_take 171 = .ok (.iconst 2, 1) := by decide +kernel
theorem dX4_take_172 : decode cX4_take 172 = .ok (.aload_n 0, 1) := by decide +kernel
theorem dX4_take_173 : decode cX4_take 173 = .ok (.getfield 25, 3) := by decide +kernel
theorem dX4_take_176 : decode cX4_take 176 = .ok (.aload_n 0, 1) := by decide +kernel
theorem dX4_take_177 : decode cX4_take 177 = .ok (.getfield 70, 3) := by decide +kernel
theorem dX4_take_180 : decode cX4_take 180 = .ok (.iaload, 1) := by decide +kernel
theorem dX4_take_181 : decode cX4_take 181 = .ok (.imul, 1) := by decide +kernel
theorem dX4_take_182 : decode cX4_take 182 = .ok (.aload_n 0, 1) := by decide +kernel
theorem dX4_take_183 : decode cX4_take 183 = .ok (.getfield 19, 3) := by decide +kernel
theorem dX4_take_186 : decode cX4_take 186 = .ok (.sipush 310, 3) := by decide +kernel
theorem dX4_take_189 : decode cX4_take 189 = .ok (.aload_n 0, 1) := by decide +kernel
theorem dX4_take_190 : decode cX4_take 190 = .ok (.getfield 28, 3) := by decide +kernel
theorem dX4_take_193 : decode cX4_take 193 = .ok (.aload_n 0, 1) := by decide +kernel
theorem dX4_take_194 : decode cX4_take 194 = .ok (.getfield 70, 3) := by decide +kernel
theorem dX4_take_197 : decode cX4_take 197 = .ok (.iaload, 1) := by decide +kernel
theorem dX4_take_198 : decode cX4_take 198 = .ok (.iadd, 1) := by decide +kernel
theorem dX4_take_199 : decode cX4_take 199 = .ok (.iaload, 1) := by decide +kernel
theorem dX4_take_200 : decode cX4_take 200 = .ok (.iadd, 1) := by decide +kernel
theorem dX4_take_201 : decode cX4_take 201 = .ok (.iastore, 1) := by decide +kernel
theorem dX4_take_202 : decode cX4_take 202 = .ok (.aload_n 0, 1) := by decide +kernel
theorem dX4_take_203 : decode cX4_take 203 = .ok (.getfield 50, 3) := by decide +kernel
theorem dX4_take_206 : decode cX4_take 206 = .ok (.aload_n 0, 1) := by decide +kernel
theorem dX4_take_207 : decode cX4_take 207 = .ok (.getfield 43, 3) := by decide +kernel
theorem dX4_take_210 : decode cX4_take 210 = .ok (.iconst 4, 1) := by decide +kernel
theorem dX4_take_211 : decode cX4_take 211 = .ok (.iload_n 2, 1) := by decide +kernel
theorem dX4_take_212 : decode cX4_take 212 = .ok (.imul, 1) := by decide +kernel
theorem dX4_take_213 : decode cX4_take 213 = .ok (.iconst 3, 1) := by decide +kernel
theorem dX4_take_214 : decode cX4_take 214 = .ok (.iadd, 1) := by decide +kernel
theorem dX4_take_215 : decode cX4_take 215 = .ok (.iastore, 1) := by decide +kernel
theorem dX4_take_216 : decode cX4_take 216 = .ok (.aload_n 0, 1) := by decide +kernel
theorem dX4_take_217 : decode cX4_take 217 = .ok (.getfield 13, 3) := by decide +kernel
theorem dX4_take_220 : decode cX4_take 220 = .ok (.aload_n 0, 1) := by decide +kernel
theorem dX4_take_221 : decode cX4_take 221 = .ok (.getfield 47, 3) := by decide +kernel
theorem dX4_take_224 : decode cX4_take 224 = .ok (.aload_n 0, 1) := by decide +kernel
theorem dX4_take_225 : decode cX4_take 225 = .ok (.getfield 43, 3) := by decide +kernel
theorem dX4_take_228 : decode cX4_take 228 = .ok (.iaload, 1) := by decide +kernel
theorem dX4_take_229 : decode cX4_take 229 = .ok (.iconst 0, 1) := by decide +kernel
theorem dX4_take_230 : decode cX4_take 230 = .ok (.iastore, 1) := by decide +kernel
theorem dX4_take_231 : decode cX4_take 231 = .ok (.aload_n 0, 1) := by decide +kernel
theorem dX4_take_232 : decode cX4_take 232 = .ok (.dup, 1) := by decide +kernel
theorem dX4_take_233 : decode cX4_take 233 = .ok (.getfield 43, 3) := by decide +kernel
theorem dX4_take_236 : decode cX4_take 236 = .ok (.iconst 1, 1) := by decide +kernel
theorem dX4_take_237 : decode cX4_take 237 = .ok (.iadd, 1) := by decide +kernel
theorem dX4_take_238 : decode cX4_take 238 = .ok (.putfield 43, 3) := by decide +kernel
theorem dX4_take_241 : decode cX4_take 241 = .ok (.goto 7, 3) := by decide +kernel
theorem dX4_take_244 : decode cX4_take 244 = .ok (.aload_n 0, 1) := by decide +kernel
theorem dX4_take_245 : decode cX4_take 245 = .ok (.invokevirtual 129, 3) := by decide +kernel
theorem dX4_take_248 : decode cX4_take 248 = .ok (.return_, 1) := by decide +kernel
theorem dX4_goOn_0 : decode cX4_goOn 0 = .ok (.iconst 0, 1) := by decide +kernel
theorem dX4_goOn_1 : decode cX4_goOn 1 = .ok (.istore_n 1, 1) := by decide +kernel
theorem dX4_goOn_2 : decode cX4_goOn 2 = .ok (.iload_n 1, 1) := by decide +kernel
theorem dX4_goOn_3 : decode cX4_goOn 3 = .ok (.ifCond .ne 94, 3) := by decide +kernel
theorem dX4_goOn_6 : decode cX4_goOn 6 = .ok (.aload_n 0, 1) := by decide +kernel
theorem dX4_goOn_7 : decode cX4_goOn 7 = .ok (.getfield 43, 3) := by decide +kernel
theorem dX4_goOn_10 : decode cX4_goOn 10 = .ok (.ifCond .le 87, 3) := by decide +kernel
theorem dX4_goOn_13 : decode cX4_goOn 13 = .ok (.aload_n 0, 1) := by decide +kernel
theorem dX4_goOn_14 : decode cX4_goOn 14 = .ok (.getfield 47, 3) := by decide +kernel
theorem dX4_goOn_17 : decode cX4_goOn 17 = .ok (.aload_n 0, 1) := by decide +kernel
theorem dX4_goOn_18 : decode cX4_goOn 18 = .ok (.getfield 43, 3) := by decide +kernel
theorem dX4_goOn_21 : decode cX4_goOn 21 = .ok (.iconst 1, 1) := by decide +kernel
theorem dX4_goOn_22 : decode cX4_goOn 22 = .ok (.isub, 1) := by decide +kernel
theorem dX4_goOn_23 : decode cX4_goOn 23 = .ok (.iaload, 1) := by decide +kernel
theorem dX4_goOn_24 : decode cX4_goOn 24 = .ok (.istore_n 2, 1) := by decide +kernel
theorem dX4_goOn_25 : decode cX4_goOn 25 = .ok (.aload_n 0, 1) := by decide +kernel
theorem dX4_goOn_26 : decode cX4_goOn 26 = .ok (.getfield 13, 3) := by decide +kernel
theorem dX4_goOn_29 : decode cX4_goOn 29 = .ok (.iload_n 2, 1) := by decide +kernel
theorem dX4_goOn_30 : decode cX4_goOn 30 = .ok (.iaload, 1) := by decide +kernel
theorem dX4_goOn_31 : decode cX4_goOn 31 = .ok (.aload_n 0, 1) := by decide +kernel
theorem dX4_goOn_32 : decode cX4_goOn 32 = .ok (.getfield 50, 3) := by decide +kernel
theorem dX4_goOn_35 : decode cX4_goOn 35 = .ok (.aload_n 0, 1) := by decide +kernel
theorem dX4_goOn_36 : decode cX4_goOn 36 = .ok (.getfield 43, 3) := by decide +kernel
theorem dX4_goOn_39 : decode cX4_goOn 39 = .ok (.iconst 1, 1) := by decide +kernel
theorem dX4_goOn_40 : decode cX4_goOn 40 = .ok (.isub, 1) := by decide +kernel
theorem dX4_goOn_41 : decode cX4_goOn 41 = .ok (.iaload, 1) := by decide +kernel
theorem dX4_goOn_42 : decode cX4_goOn 42 = .ok (.if_icmp .ge 7, 3) := by decide +kernel
theorem dX4_goOn_45 : decode cX4_goOn 45 = .ok (.iconst 1, 1) := by decide +kernel
theorem dX4_goOn_46 : decode cX4_goOn 46 = .ok (.goto 4, 3) := by decide +kernel
theorem dX4_goOn_49 : decode cX4_goOn 49 = .ok (.iconst 0, 1) := by decide +kernel
theorem dX4_goOn_50 : decode cX4_goOn 50 = .ok (.istore_n 1, 1) := by decide +kernel
theorem dX4_goOn_51 : decode cX4_goOn 51 = .ok (.aload_n 0, 1) := by decide +kernel
theorem dX4_goOn_52 : decode cX4_goOn 52 = .ok (.getfield 13, 3) := by decide +kernel
theorem dX4_goOn_55 : decode cX4_goOn 55 = .ok (.iload_n 2, 1) := by decide +kernel
theorem dX4_goOn_56 : decode cX4_goOn 56 = .ok (.iload_n 1, 1) := by decide +kernel
theorem dX4_goOn_57 : decode cX4_goOn 57 = .ok (.ifCond .eq 14, 3) := by decide +kernel
theorem dX4_goOn_60 : decode cX4_goOn 60 = .ok (.aload_n 0, 1) := by decide +kernel
theorem dX4_goOn_61 : decode cX4_goOn 61 = .ok (.getfield 13, 3) := by decide +kernel
theorem dX4_goOn_64 : decode cX4_goOn 64 = .ok (.iload_n 2, 1) := by decide +kernel
theorem dX4_goOn_65 : decode cX4_goOn 65 = .ok (.iaload, 1) := by decide +kernel
theorem dX4_goOn_66 : decode cX4_goOn 66 = .ok (.iconst 1, 1) := by decide +kernel
theorem dX4_goOn_67 : decode cX4_goOn 67 = .ok (.iadd, 1) := by decide +kernel
theorem dX4_goOn_68 : decode cX4_goOn 68 = .ok (.goto 4, 3) := by decide +kernel
theorem dX4_goOn_71 : decode cX4_goOn 71 = .ok (.iconst (-1), 1) := by decide +kernel
theorem dX4_goOn_72 : decode cX4_goOn 72 = .ok (.iastore, 1) := by decide +kernel
theorem dX4_goOn_73 : decode cX4_goOn 73 = .ok (.aload_n 0, 1) := by decide +kernel
theorem dX4_goOn_74 : decode cX4_goOn 74 = .ok (.iload_n 1, 1) := by decide +kernel
theorem dX4_goOn_75 : decode cX4_goOn 75 = .ok (.ifCond .eq 10, 3) := by decide +kernel
theorem dX4_goOn_78 : decode cX4_goOn 78 = .ok (.aload_n 0, 1) := by decide +kernel
theorem dX4_goOn_79 : decode cX4_goOn 79 = .ok (.getfield 43, 3) := by decide +kernel
theorem dX4_goOn_82 : decode cX4_goOn 82 = .ok (.goto 9, 3) := by decide +kernel
theorem dX4_goOn_85 : decode cX4_goOn 85 = .ok (.aload_n 0, 1) := by decide +kernel
theorem dX4_goOn_86 : decode cX4_goOn 86 = .ok (.getfield 43, 3) := by decide +kernel
theorem dX4_goOn_89 : decode cX4_goOn 89 = .ok (.iconst 1, 1) := by decide +kernel
theorem dX4_goOn_90 : decode cX4_goOn 90 = .ok (.isub, 1) := by decide +kernel
theorem dX4_goOn_91 : decode cX4_goOn 91 = .ok (.putfield 43, 3) := by decide +kernel
theorem dX4_goOn_94 : decode cX4_goOn 94 = .ok (.goto (-92), 3) := by decide +kernel
theorem dX4_goOn_97 : decode cX4_goOn 97 = .ok (.aload_n 0, 1) := by decide +kernel
theorem dX4_goOn_98 : decode cX4_goOn 98 = .ok (.iload_n 1, 1) := by decide +kernel
theorem dX4_goOn_99 : decode cX4_goOn 99 = .ok (.ifCond .ne 7, 3) := by decide +kernel
theorem dX4_goOn_102 : decode cX4_goOn 102 = .ok (.iconst 1, 1) := by decide +kernel
theorem dX4_goOn_103 : decode cX4_goOn 103 = .ok (.goto 4, 3) := by decide +kernel
theorem dX4_goOn_106 : decode cX4_goOn 106 = .ok (.iconst 0, 1) := by decide +kernel
theorem dX4_goOn_107 : decode cX4_goOn 107 = .ok (.putfield 132, 3) := by decide +kernel
theorem dX4_goOn_110 : decode cX4_goOn 110 = .ok (.return_, 1) := by decide +kernel
set_option maxRecDepth 20000 in
theorem ggX4_grow_X4_refuse : GoodIn wsX4_grow wsX4_refuse := goodIn_r _ [9, 1, 74, 75, 76, 77, 78, 79, 80, 81, 82, 83, 84, 85, 86, 87, 88, 89, 90, 91, 92, 93, 94, 95, 96, 97, 98, 99, 100, 101] (by decide +kernel) (by decide +kernel)
set_option maxRecDepth 20000 in
theorem gX4_grow_X4_refuse : GoodIn wsX4_grow (wsV RX4 62 RX4 yX4_refuse wsX4_refuse) := goodIn_app (goodIn_of _ (by decide +kernel)) ggX4_grow_X4_refuse
set_option maxRecDepth 20000 in
theorem ggX4_grow_X4_take : GoodIn wsX4_grow wsX4_take := goodIn_r _ [13, 3, 14, 15, 16, 17, 18, 19, 20, 21, 22, 2, 23, 24, 25, 26, 27, 28, 29, 8, 30, 31, 32, 33, 34, 35, 36, 37, 38, 39, 40, 41, 42, 43, 44, 45, 46, 47, 48, 49, 50, 51, 52, 53, 54, 55, 56, 57, 58, 59, 60, 61, 62, 63, 64, 65, 66, 67, 68, 69, 70, 71, 72, 73, 4, 74, 75, 76, 77, 78, 79, 80, 81, 82, 83, 84, 85, 86, 87, 88, 89, 90, 91, 92, 93, 94, 95, 96, 97, 98, 99, 100, 101] (by decide +kernel) (by decide +kernel)
set_option maxRecDepth 20000 in
theorem gX4_grow_X4_take : GoodIn wsX4_grow (wsV RX4 135 RX4 yX4_take wsX4_take) := goodIn_app (goodIn_of _ (by decide +kernel)) ggX4_grow_X4_take
theorem dX4_grow_0 : decode cX4_grow 0 = .ok (.aload_n 0, 1) := by decide +kernel
theorem dX4_grow_1 : decode cX4_grow 1 = .ok (.iconst 0, 1) := by decide +kernel
theorem dX4_grow_2 : decode cX4_grow 2 = .ok (.putfield 59, 3) := by decide +kernel
theorem dX4_grow_5 : decode cX4_grow 5 = .ok (.iload_n 1, 1) := by decide +kernel
theorem dX4_grow_6 : decode cX4_grow 6 = .ok (.iconst 1, 1) := by decide +kernel
theorem dX4_grow_7 : decode cX4_grow 7 = .ok (.if_icmp .lt 9, 3) := by decide +kernel
theorem dX4_grow_10 : decode cX4_grow 10 = .ok (.iload_n 1, 1) := by decide +kernel
theorem dX4_grow_11 : decode cX4_grow 11 = .ok (.bipush 40, 2) := by decide +kernel
theorem dX4_grow_13 : decode cX4_grow 13 = .ok (.if_icmp .le 9, 3) := by decide +kernel
theorem dX4_grow_16 : decode cX4_grow 16 = .ok (.aload_n 0, 1) := by decide +kernel
theorem dX4_grow_17 : decode cX4_grow 17 = .ok (.iconst 1, 1) := by decide +kernel
theorem dX4_grow_18 : decode cX4_grow 18 = .ok (.invokevirtual 62, 3) := by decide +kernel
theorem dX4_grow_21 : decode cX4_grow 21 = .ok (.ireturn, 1) := by decide +kernel
theorem dX4_grow_22 : decode cX4_grow 22 = .ok (.aload_n 0, 1) := by decide +kernel
theorem dX4_grow_23 : decode cX4_grow 23 = .ok (.getfield 43, 3) := by decide +kernel
theorem dX4_grow_26 : decode cX4_grow 26 = .ok (.ifCond .ge 16, 3) := by decide +kernel
theorem dX4_grow_29 : decode cX4_grow 29 = .ok (.aload_n 0, 1) := by decide +kernel
theorem dX4_grow_30 : decode cX4_grow 30 = .ok (.getfield 13, 3) := by decide +kernel
theorem dX4_grow_33 : decode cX4_grow 33 = .ok (.iconst 0, 1) := by decide +kernel
theorem dX4_grow_34 : decode cX4_grow 34 = .ok (.bipush 7, 2) := by decide +kernel
theorem dX4_grow_36 : decode cX4_grow 36 = .ok (.iastore, 1) := by decide +kernel
theorem dX4_grow_37 : decode cX4_grow 37 = .ok (.aload_n 0, 1) := by decide +kernel
theorem dX4_grow_38 : decode cX4_grow 38 = .ok (.iconst 0, 1) := by decide +kernel
theorem dX4_grow_39 : decode cX4_grow 39 = .ok (.putfield 43, 3) := by decide +kernel
theorem dX4_grow_42 : decode cX4_grow 42 = .ok (.iconst 0, 1) := by decide +kernel
theorem dX4_grow_43 : decode cX4_grow 43 = .ok (.istore_n 2, 1) := by decide +kernel
theorem dX4_grow_44 : decode cX4_grow 44 = .ok (.iload_n 2, 1) := by decide +kernel
theorem dX4_grow_45 : decode cX4_grow 45 = .ok (.iload_n 1, 1) := by decide +kernel
theorem dX4_grow_46 : decode cX4_grow 46 = .ok (.if_icmp .ge 20, 3) := by decide +kernel
theorem dX4_grow_49 : decode cX4_grow 49 = .ok (.aload_n 0, 1) := by decide +kernel
theorem dX4_grow_50 : decode cX4_grow 50 = .ok (.getfield 132, 3) := by decide +kernel
theorem dX4_grow_53 : decode cX4_grow 53 = .ok (.ifCond .ne 13, 3) := by decide +kernel
theorem dX4_grow_56 : decode cX4_grow 56 = .ok (.aload_n 0, 1) := by decide +kernel
theorem dX4_grow_57 : decode cX4_grow 57 = .ok (.invokevirtual 135, 3) := by decide +kernel
theorem dX4_grow_60 : decode cX4_grow 60 = .ok (.iinc 2 1, 3) := by decide +kernel
theorem dX4_grow_63 : decode cX4_grow 63 = .ok (.goto (-19), 3) := by decide +kernel
theorem dX4_grow_66 : decode cX4_grow 66 = .ok (.iload_n 2, 1) := by decide +kernel
theorem dX4_grow_67 : decode cX4_grow 67 = .ok (.ireturn, 1) := by decide +kernel
set_option maxRecDepth 20000 in
theorem ggX4_taken_X4_refuse : GoodIn wsX4_taken wsX4_refuse := goodIn_r _ [10, 1, 11, 12, 13, 14, 15, 16, 17, 18, 19, 20, 21, 22, 23, 24, 25, 26, 27, 28, 29, 30, 31, 32, 33, 34, 35, 36, 37, 38] (by decide +kernel) (by decide +kernel)
set_option maxRecDepth 20000 in
theorem gX4_taken_X4_refuse : GoodIn wsX4_taken (wsV RX4 62 RX4 yX4_refuse wsX4_refuse) := goodIn_app (goodIn_of _ (by decide +kernel)) ggX4_taken_X4_refuse
theorem dX4_taken_0 : decode cX4_taken 0 = .ok (.aload_n 0, 1) := by decide +kernel
theorem dX4_taken_1 : decode cX4_taken 1 = .ok (.iconst 0, 1) := by decide +kernel
theorem dX4_taken_2 : decode cX4_taken 2 = .ok (.putfield 59, 3) := by decide +kernel
theorem dX4_taken_5 : decode cX4_taken 5 = .ok (.iload_n 1, 1) := by decide +kernel
theorem dX4_taken_6 : decode cX4_taken 6 = .ok (.ifCond .lt 9, 3) := by decide +kernel
theorem dX4_taken_9 : decode cX4_taken 9 = .ok (.iload_n 1, 1) := by decide +kernel
theorem dX4_taken_10 : decode cX4_taken 10 = .ok (.bipush 6, 2) := by decide +kernel
theorem dX4_taken_12 : decode cX4_taken 12 = .ok (.if_icmp .le 9, 3) := by decide +kernel
theorem dX4_taken_15 : decode cX4_taken 15 = .ok (.aload_n 0, 1) := by decide +kernel
theorem dX4_taken_16 : decode cX4_taken 16 = .ok (.iconst 1, 1) := by decide +kernel
end
section
theorem dX4_taken_17 : decode cX4_taken 17 = .ok (.invokevirtual 62, 3) := by decide +kernel
theorem dX4_taken_20 : decode cX4_taken 20 = .ok (.ireturn, 1) := by decide +kernel
theorem dX4_taken_21 : decode cX4_taken 21 = .ok (.iload_n 1, 1) := by decide +kernel
theorem dX4_taken_22 : decode cX4_taken 22 = .ok (.iconst 4, 1) := by decide +kernel
theorem dX4_taken_23 : decode cX4_taken 23 = .ok (.if_icmp .ge 10, 3) := by decide +kernel
theorem dX4_taken_26 : decode cX4_taken 26 = .ok (.aload_n 0, 1) := by decide +kernel
theorem dX4_taken_27 : decode cX4_taken 27 = .ok (.getfield 53, 3) := by decide +kernel
theorem dX4_taken_30 : decode cX4_taken 30 = .ok (.iload_n 1, 1) := by decide +kernel
theorem dX4_taken_31 : decode cX4_taken 31 = .ok (.iaload, 1) := by decide +kernel
theorem dX4_taken_32 : decode cX4_taken 32 = .ok (.ireturn, 1) := by decide +kernel
theorem dX4_taken_33 : decode cX4_taken 33 = .ok (.iload_n 1, 1) := by decide +kernel
theorem dX4_taken_34 : decode cX4_taken 34 = .ok (.iconst 4, 1) := by decide +kernel
theorem dX4_taken_35 : decode cX4_taken 35 = .ok (.if_icmp .ne 10, 3) := by decide +kernel
theorem dX4_taken_38 : decode cX4_taken 38 = .ok (.aload_n 0, 1) := by decide +kernel
theorem dX4_taken_39 : decode cX4_taken 39 = .ok (.getfield 117, 3) := by decide +kernel
theorem dX4_taken_42 : decode cX4_taken 42 = .ok (.goto 19, 3) := by decide +kernel
theorem dX4_taken_45 : decode cX4_taken 45 = .ok (.iload_n 1, 1) := by decide +kernel
theorem dX4_taken_46 : decode cX4_taken 46 = .ok (.iconst 5, 1) := by decide +kernel
theorem dX4_taken_47 : decode cX4_taken 47 = .ok (.if_icmp .ne 10, 3) := by decide +kernel
theorem dX4_taken_50 : decode cX4_taken 50 = .ok (.aload_n 0, 1) := by decide +kernel
theorem dX4_taken_51 : decode cX4_taken 51 = .ok (.getfield 120, 3) := by decide +kernel
theorem dX4_taken_54 : decode cX4_taken 54 = .ok (.goto 7, 3) := by decide +kernel
theorem dX4_taken_57 : decode cX4_taken 57 = .ok (.aload_n 0, 1) := by decide +kernel
theorem dX4_taken_58 : decode cX4_taken 58 = .ok (.getfield 114, 3) := by decide +kernel
theorem dX4_taken_61 : decode cX4_taken 61 = .ok (.ireturn, 1) := by decide +kernel
set_option maxRecDepth 20000 in
theorem ggX4_champion_X4_refuse : GoodIn wsX4_champion wsX4_refuse := goodIn_r _ [8, 1, 9, 10, 11, 12, 13, 14, 15, 16, 17, 18, 19, 20, 21, 22, 23, 24, 25, 26, 27, 28, 29, 30, 31, 32, 33, 34, 35, 36] (by decide +kernel) (by decide +kernel)
set_option maxRecDepth 20000 in
theorem gX4_champion_X4_refuse : GoodIn wsX4_champion (wsV RX4 62 RX4 yX4_refuse wsX4_refuse) := goodIn_app (goodIn_of _ (by decide +kernel)) ggX4_champion_X4_refuse
theorem dX4_champion_0 : decode cX4_champion 0 = .ok (.aload_n 0, 1) := by decide +kernel
theorem dX4_champion_1 : decode cX4_champion 1 = .ok (.iconst 0, 1) := by decide +kernel
theorem dX4_champion_2 : decode cX4_champion 2 = .ok (.putfield 59, 3) := by decide +kernel
theorem dX4_champion_5 : decode cX4_champion 5 = .ok (.iload_n 1, 1) := by decide +kernel
theorem dX4_champion_6 : decode cX4_champion 6 = .ok (.ifCond .lt 20, 3) := by decide +kernel
theorem dX4_champion_9 : decode cX4_champion 9 = .ok (.iload_n 1, 1) := by decide +kernel
theorem dX4_champion_10 : decode cX4_champion 10 = .ok (.aload_n 0, 1) := by decide +kernel
theorem dX4_champion_11 : decode cX4_champion 11 = .ok (.getfield 56, 3) := by decide +kernel
theorem dX4_champion_14 : decode cX4_champion 14 = .ok (.if_icmp .ge 12, 3) := by decide +kernel
theorem dX4_champion_17 : decode cX4_champion 17 = .ok (.iload_n 2, 1) := by decide +kernel
theorem dX4_champion_18 : decode cX4_champion 18 = .ok (.ifCond .lt 8, 3) := by decide +kernel
theorem dX4_champion_21 : decode cX4_champion 21 = .ok (.iload_n 2, 1) := by decide +kernel
theorem dX4_champion_22 : decode cX4_champion 22 = .ok (.iconst 1, 1) := by decide +kernel
theorem dX4_champion_23 : decode cX4_champion 23 = .ok (.if_icmp .le 9, 3) := by decide +kernel
theorem dX4_champion_26 : decode cX4_champion 26 = .ok (.aload_n 0, 1) := by decide +kernel
theorem dX4_champion_27 : decode cX4_champion 27 = .ok (.iconst 1, 1) := by decide +kernel
theorem dX4_champion_28 : decode cX4_champion 28 = .ok (.invokevirtual 62, 3) := by decide +kernel
theorem dX4_champion_31 : decode cX4_champion 31 = .ok (.ireturn, 1) := by decide +kernel
theorem dX4_champion_32 : decode cX4_champion 32 = .ok (.aload_n 0, 1) := by decide +kernel
theorem dX4_champion_33 : decode cX4_champion 33 = .ok (.getfield 16, 3) := by decide +kernel
theorem dX4_champion_36 : decode cX4_champion 36 = .ok (.iconst 2, 1) := by decide +kernel
theorem dX4_champion_37 : decode cX4_champion 37 = .ok (.iload_n 1, 1) := by decide +kernel
theorem dX4_champion_38 : decode cX4_champion 38 = .ok (.imul, 1) := by decide +kernel
theorem dX4_champion_39 : decode cX4_champion 39 = .ok (.iload_n 2, 1) := by decide +kernel
theorem dX4_champion_40 : decode cX4_champion 40 = .ok (.iadd, 1) := by decide +kernel
theorem dX4_champion_41 : decode cX4_champion 41 = .ok (.iaload, 1) := by decide +kernel
theorem dX4_champion_42 : decode cX4_champion 42 = .ok (.ireturn, 1) := by decide +kernel
set_option maxRecDepth 20000 in
theorem ggX4_mean_X4_refuse : GoodIn wsX4_mean wsX4_refuse := goodIn_r _ [8, 1, 9, 10, 11, 12, 13, 14, 15, 16, 17, 18, 19, 20, 21, 22, 23, 24, 25, 26, 27, 28, 29, 30, 31, 32, 33, 34, 35, 36] (by decide +kernel) (by decide +kernel)
set_option maxRecDepth 20000 in
theorem gX4_mean_X4_refuse : GoodIn wsX4_mean (wsV RX4 62 RX4 yX4_refuse wsX4_refuse) := goodIn_app (goodIn_of _ (by decide +kernel)) ggX4_mean_X4_refuse
theorem dX4_mean_0 : decode cX4_mean 0 = .ok (.aload_n 0, 1) := by decide +kernel
theorem dX4_mean_1 : decode cX4_mean 1 = .ok (.iconst 0, 1) := by decide +kernel
theorem dX4_mean_2 : decode cX4_mean 2 = .ok (.putfield 59, 3) := by decide +kernel
theorem dX4_mean_5 : decode cX4_mean 5 = .ok (.aload_n 0, 1) := by decide +kernel
theorem dX4_mean_6 : decode cX4_mean 6 = .ok (.getfield 53, 3) := by decide +kernel
theorem dX4_mean_9 : decode cX4_mean 9 = .ok (.iconst 1, 1) := by decide +kernel
theorem dX4_mean_10 : decode cX4_mean 10 = .ok (.iaload, 1) := by decide +kernel
theorem dX4_mean_11 : decode cX4_mean 11 = .ok (.ifCond .ne 10, 3) := by decide +kernel
theorem dX4_mean_14 : decode cX4_mean 14 = .ok (.aload_n 0, 1) := by decide +kernel
theorem dX4_mean_15 : decode cX4_mean 15 = .ok (.iconst 1, 1) := by decide +kernel
theorem dX4_mean_16 : decode cX4_mean 16 = .ok (.invokevirtual 62, 3) := by decide +kernel
theorem dX4_mean_19 : decode cX4_mean 19 = .ok (.i2f, 1) := by decide +kernel
theorem dX4_mean_20 : decode cX4_mean 20 = .ok (.freturn, 1) := by decide +kernel
theorem dX4_mean_21 : decode cX4_mean 21 = .ok (.aload_n 0, 1) := by decide +kernel
theorem dX4_mean_22 : decode cX4_mean 22 = .ok (.getfield 111, 3) := by decide +kernel
theorem dX4_mean_25 : decode cX4_mean 25 = .ok (.i2f, 1) := by decide +kernel
theorem dX4_mean_26 : decode cX4_mean 26 = .ok (.aload_n 0, 1) := by decide +kernel
theorem dX4_mean_27 : decode cX4_mean 27 = .ok (.getfield 53, 3) := by decide +kernel
theorem dX4_mean_30 : decode cX4_mean 30 = .ok (.iconst 1, 1) := by decide +kernel
theorem dX4_mean_31 : decode cX4_mean 31 = .ok (.iaload, 1) := by decide +kernel
theorem dX4_mean_32 : decode cX4_mean 32 = .ok (.i2f, 1) := by decide +kernel
theorem dX4_mean_33 : decode cX4_mean 33 = .ok (.fdiv, 1) := by decide +kernel
theorem dX4_mean_34 : decode cX4_mean 34 = .ok (.freturn, 1) := by decide +kernel
theorem dJ9_max_7cf53_0 : decode cJ9_max_7cf53 0 = .ok (.iload_n 0, 1) := by decide +kernel
theorem dJ9_max_7cf53_1 : decode cJ9_max_7cf53 1 = .ok (.iload_n 1, 1) := by decide +kernel
theorem dJ9_max_7cf53_2 : decode cJ9_max_7cf53 2 = .ok (.if_icmp .lt 7, 3) := by decide +kernel
theorem dJ9_max_7cf53_5 : decode cJ9_max_7cf53 5 = .ok (.iload_n 0, 1) := by decide +kernel
theorem dJ9_max_7cf53_6 : decode cJ9_max_7cf53 6 = .ok (.goto 4, 3) := by decide +kernel
theorem dJ9_max_7cf53_9 : decode cJ9_max_7cf53 9 = .ok (.iload_n 1, 1) := by decide +kernel
theorem dJ9_max_7cf53_10 : decode cJ9_max_7cf53 10 = .ok (.ireturn, 1) := by decide +kernel
theorem dJ9_min_7cf53_0 : decode cJ9_min_7cf53 0 = .ok (.iload_n 0, 1) := by decide +kernel
theorem dJ9_min_7cf53_1 : decode cJ9_min_7cf53 1 = .ok (.iload_n 1, 1) := by decide +kernel
theorem dJ9_min_7cf53_2 : decode cJ9_min_7cf53 2 = .ok (.if_icmp .gt 7, 3) := by decide +kernel
theorem dJ9_min_7cf53_5 : decode cJ9_min_7cf53 5 = .ok (.iload_n 0, 1) := by decide +kernel
theorem dJ9_min_7cf53_6 : decode cJ9_min_7cf53 6 = .ok (.goto 4, 3) := by decide +kernel
theorem dJ9_min_7cf53_9 : decode cJ9_min_7cf53 9 = .ok (.iload_n 1, 1) := by decide +kernel
theorem dJ9_min_7cf53_10 : decode cJ9_min_7cf53 10 = .ok (.ireturn, 1) := by decide +kernel
theorem dJ7_fill_d0a16_0 : decode cJ7_fill_d0a16 0 = .ok (.iconst 0, 1) := by decide +kernel
theorem dJ7_fill_d0a16_1 : decode cJ7_fill_d0a16 1 = .ok (.istore_n 3, 1) := by decide +kernel
theorem dJ7_fill_d0a16_2 : decode cJ7_fill_d0a16 2 = .ok (.aload_n 0, 1) := by decide +kernel
theorem dJ7_fill_d0a16_3 : decode cJ7_fill_d0a16 3 = .ok (.arraylength, 1) := by decide +kernel
theorem dJ7_fill_d0a16_4 : decode cJ7_fill_d0a16 4 = .ok (.istore 4, 2) := by decide +kernel
theorem dJ7_fill_d0a16_6 : decode cJ7_fill_d0a16 6 = .ok (.iload_n 3, 1) := by decide +kernel
theorem dJ7_fill_d0a16_7 : decode cJ7_fill_d0a16 7 = .ok (.iload 4, 2) := by decide +kernel
theorem dJ7_fill_d0a16_9 : decode cJ7_fill_d0a16 9 = .ok (.if_icmp .ge 13, 3) := by decide +kernel
theorem dJ7_fill_d0a16_12 : decode cJ7_fill_d0a16 12 = .ok (.aload_n 0, 1) := by decide +kernel
theorem dJ7_fill_d0a16_13 : decode cJ7_fill_d0a16 13 = .ok (.iload_n 3, 1) := by decide +kernel
theorem dJ7_fill_d0a16_14 : decode cJ7_fill_d0a16 14 = .ok (.lload_n 1, 1) := by decide +kernel
theorem dJ7_fill_d0a16_15 : decode cJ7_fill_d0a16 15 = .ok (.lastore, 1) := by decide +kernel
theorem dJ7_fill_d0a16_16 : decode cJ7_fill_d0a16 16 = .ok (.iinc 3 1, 3) := by decide +kernel
theorem dJ7_fill_d0a16_19 : decode cJ7_fill_d0a16 19 = .ok (.goto (-13), 3) := by decide +kernel
theorem dJ7_fill_d0a16_22 : decode cJ7_fill_d0a16 22 = .ok (.return_, 1) := by decide +kernel
theorem dJ7_fill_53178_0 : decode cJ7_fill_53178 0 = .ok (.iconst 0, 1) := by decide +kernel
theorem dJ7_fill_53178_1 : decode cJ7_fill_53178 1 = .ok (.istore_n 2, 1) := by decide +kernel
theorem dJ7_fill_53178_2 : decode cJ7_fill_53178 2 = .ok (.aload_n 0, 1) := by decide +kernel
theorem dJ7_fill_53178_3 : decode cJ7_fill_53178 3 = .ok (.arraylength, 1) := by decide +kernel
theorem dJ7_fill_53178_4 : decode cJ7_fill_53178 4 = .ok (.istore_n 3, 1) := by decide +kernel
theorem dJ7_fill_53178_5 : decode cJ7_fill_53178 5 = .ok (.iload_n 2, 1) := by decide +kernel
theorem dJ7_fill_53178_6 : decode cJ7_fill_53178 6 = .ok (.iload_n 3, 1) := by decide +kernel
theorem dJ7_fill_53178_7 : decode cJ7_fill_53178 7 = .ok (.if_icmp .ge 13, 3) := by decide +kernel
theorem dJ7_fill_53178_10 : decode cJ7_fill_53178 10 = .ok (.aload_n 0, 1) := by decide +kernel
theorem dJ7_fill_53178_11 : decode cJ7_fill_53178 11 = .ok (.iload_n 2, 1) := by decide +kernel
theorem dJ7_fill_53178_12 : decode cJ7_fill_53178 12 = .ok (.iload_n 1, 1) := by decide +kernel
theorem dJ7_fill_53178_13 : decode cJ7_fill_53178 13 = .ok (.iastore, 1) := by decide +kernel
theorem dJ7_fill_53178_14 : decode cJ7_fill_53178 14 = .ok (.iinc 2 1, 3) := by decide +kernel
theorem dJ7_fill_53178_17 : decode cJ7_fill_53178 17 = .ok (.goto (-12), 3) := by decide +kernel
theorem dJ7_fill_53178_20 : decode cJ7_fill_53178 20 = .ok (.return_, 1) := by decide +kernel
theorem dL_cell_0 : decode cL_cell 0 = .ok (.iload_n 1, 1) := by decide +kernel
theorem dL_cell_1 : decode cL_cell 1 = .ok (.aload_n 0, 1) := by decide +kernel
theorem dL_cell_2 : decode cL_cell 2 = .ok (.arraylength, 1) := by decide +kernel
theorem dL_cell_3 : decode cL_cell 3 = .ok (.if_icmp .ge 9, 3) := by decide +kernel
theorem dL_cell_6 : decode cL_cell 6 = .ok (.aload_n 0, 1) := by decide +kernel
theorem dL_cell_7 : decode cL_cell 7 = .ok (.iload_n 1, 1) := by decide +kernel
theorem dL_cell_8 : decode cL_cell 8 = .ok (.iaload, 1) := by decide +kernel
theorem dL_cell_9 : decode cL_cell 9 = .ok (.goto 4, 3) := by decide +kernel
theorem dL_cell_12 : decode cL_cell 12 = .ok (.iconst 0, 1) := by decide +kernel
theorem dL_cell_13 : decode cL_cell 13 = .ok (.ireturn, 1) := by decide +kernel
set_option maxRecDepth 20000 in
theorem ggL_set_X3_set : GoodIn wsL_set wsX3_set := goodIn_ca (goodIn_r _ [6, 7, 8, 9, 10, 11, 12, 13, 14, 15, 16, 17, 18, 19, 20, 21, 22, 23, 24, 25, 26, 27, 28, 29, 30, 31, 32, 33, 34, 35] (by decide +kernel) (by decide +kernel)) (goodIn_sub (fun _ h => List.mem_cons_of_mem _ (List.mem_append_right _ h)) (by decide +kernel))
set_option maxRecDepth 20000 in
theorem gL_set_X3_set : GoodIn wsL_set (wsV RL 7 RX3 yX3_set wsX3_set) := goodIn_app (goodIn_of _ (by decide +kernel)) ggL_set_X3_set
theorem dL_set_0 : decode cL_set 0 = .ok (.aload 4, 2) := by decide +kernel
theorem dL_set_2 : decode cL_set 2 = .ok (.iconst 0, 1) := by decide +kernel
theorem dL_set_3 : decode cL_set 3 = .ok (.aload_n 0, 1) := by decide +kernel
theorem dL_set_4 : decode cL_set 4 = .ok (.iload_n 1, 1) := by decide +kernel
theorem dL_set_5 : decode cL_set 5 = .ok (.iload_n 2, 1) := by decide +kernel
theorem dL_set_6 : decode cL_set 6 = .ok (.iload_n 3, 1) := by decide +kernel
theorem dL_set_7 : decode cL_set 7 = .ok (.invokevirtual 7, 3) := by decide +kernel
theorem dL_set_10 : decode cL_set 10 = .ok (.i2l, 1) := by decide +kernel
theorem dL_set_11 : decode cL_set 11 = .ok (.lastore, 1) := by decide +kernel
theorem dL_set_12 : decode cL_set 12 = .ok (.goto 7, 3) := by decide +kernel
theorem dL_set_15 : decode cL_set 15 = .ok (.astore 5, 2) := by decide +kernel
theorem dL_set_17 : decode cL_set 17 = .ok (.iconst 1, 1) := by decide +kernel
theorem dL_set_18 : decode cL_set 18 = .ok (.ireturn, 1) := by decide +kernel
theorem dL_set_19 : decode cL_set 19 = .ok (.iconst 0, 1) := by decide +kernel
theorem dL_set_20 : decode cL_set 20 = .ok (.ireturn, 1) := by decide +kernel
set_option maxRecDepth 20000 in
theorem ggL_run_X3_run : GoodIn wsL_run wsX3_run := goodIn_ca (goodIn_r _ [6, 7, 8, 9, 10, 11, 12, 13, 14, 15, 16, 17, 18, 19, 20, 21, 22, 23, 24, 25, 26, 27, 28, 29, 30, 31, 32, 33, 34, 35, 36, 37, 38, 39, 40, 41, 42, 43, 44, 45, 46, 47, 48, 49, 50, 51, 52, 53, 54, 55, 56, 57, 58, 59, 60, 61, 62, 63, 64, 65, 66, 67, 68, 69, 70, 71, 72, 73, 74, 75, 76, 77, 78, 79, 80, 81, 82, 83, 84, 85, 86, 87, 88, 89, 90, 91, 92, 93, 94, 95, 96, 97, 98, 99, 100, 101, 102, 103, 104, 105, 106, 107, 108, 109, 110, 111, 112, 113, 114, 115, 116, 117, 118, 119] (by decide +kernel) (by decide +kernel)) (goodIn_sub (fun _ h => List.mem_cons_of_mem _ (List.mem_append_right _ h)) (by decide +kernel))
set_option maxRecDepth 20000 in
theorem gL_run_X3_run : GoodIn wsL_run (wsV RL 15 RX3 yX3_run wsX3_run) := goodIn_app (goodIn_of _ (by decide +kernel)) ggL_run_X3_run
theorem dL_run_0 : decode cL_run 0 = .ok (.aload_n 2, 1) := by decide +kernel
theorem dL_run_1 : decode cL_run 1 = .ok (.iconst 0, 1) := by decide +kernel
theorem dL_run_2 : decode cL_run 2 = .ok (.aload_n 0, 1) := by decide +kernel
theorem dL_run_3 : decode cL_run 3 = .ok (.iload_n 1, 1) := by decide +kernel
theorem dL_run_4 : decode cL_run 4 = .ok (.invokevirtual 15, 3) := by decide +kernel
theorem dL_run_7 : decode cL_run 7 = .ok (.i2l, 1) := by decide +kernel
theorem dL_run_8 : decode cL_run 8 = .ok (.lastore, 1) := by decide +kernel
theorem dL_run_9 : decode cL_run 9 = .ok (.goto 6, 3) := by decide +kernel
theorem dL_run_12 : decode cL_run 12 = .ok (.astore_n 3, 1) := by decide +kernel
theorem dL_run_13 : decode cL_run 13 = .ok (.iconst 1, 1) := by decide +kernel
theorem dL_run_14 : decode cL_run 14 = .ok (.ireturn, 1) := by decide +kernel
theorem dL_run_15 : decode cL_run 15 = .ok (.iconst 0, 1) := by decide +kernel
theorem dL_run_16 : decode cL_run 16 = .ok (.ireturn, 1) := by decide +kernel
set_option maxRecDepth 20000 in
theorem ggL_figure_X3_figure : GoodIn wsL_figure wsX3_figure := goodIn_ca (goodIn_ca (goodIn_r _ [7, 8, 9, 10, 11, 12, 13, 6, 14, 15, 16, 17, 18, 19, 20, 21, 22, 23, 24, 25, 26, 27, 28, 29, 30, 31, 32, 33, 34, 35, 36, 37] (by decide +kernel) (by decide +kernel)) (goodIn_sub (fun _ h => List.mem_cons_of_mem _ (List.mem_append_left _ (List.mem_append_right _ h))) (by decide +kernel))) (goodIn_sub (fun _ h => List.mem_cons_of_mem _ (List.mem_append_right _ h)) (by decide +kernel))
set_option maxRecDepth 20000 in
theorem gL_figure_X3_figure : GoodIn wsL_figure (wsV RL 19 RX3 yX3_figure wsX3_figure) := goodIn_app (goodIn_of _ (by decide +kernel)) ggL_figure_X3_figure
theorem dL_figure_0 : decode cL_figure 0 = .ok (.aload_n 2, 1) := by decide +kernel
theorem dL_figure_1 : decode cL_figure 1 = .ok (.iconst 0, 1) := by decide +kernel
theorem dL_figure_2 : decode cL_figure 2 = .ok (.aload_n 0, 1) := by decide +kernel
theorem dL_figure_3 : decode cL_figure 3 = .ok (.iload_n 1, 1) := by decide +kernel
theorem dL_figure_4 : decode cL_figure 4 = .ok (.invokevirtual 19, 3) := by decide +kernel
theorem dL_figure_7 : decode cL_figure 7 = .ok (.i2l, 1) := by decide +kernel
theorem dL_figure_8 : decode cL_figure 8 = .ok (.lastore, 1) := by decide +kernel
theorem dL_figure_9 : decode cL_figure 9 = .ok (.goto 9, 3) := by decide +kernel
theorem dL_figure_12 : decode cL_figure 12 = .ok (.astore_n 3, 1) := by decide +kernel
theorem dL_figure_13 : decode cL_figure 13 = .ok (.iconst 1, 1) := by decide +kernel
theorem dL_figure_14 : decode cL_figure 14 = .ok (.ireturn, 1) := by decide +kernel
theorem dL_figure_15 : decode cL_figure 15 = .ok (.astore_n 3, 1) := by decide +kernel
theorem dL_figure_16 : decode cL_figure 16 = .ok (.iconst 2, 1) := by decide +kernel
theorem dL_figure_17 : decode cL_figure 17 = .ok (.ireturn, 1) := by decide +kernel
theorem dL_figure_18 : decode cL_figure 18 = .ok (.iconst 0, 1) := by decide +kernel
theorem dL_figure_19 : decode cL_figure 19 = .ok (.ireturn, 1) := by decide +kernel
set_option maxRecDepth 20000 in
theorem ggL_cell__X3_cell : GoodIn wsL_cell_ wsX3_cell := goodIn_ca (goodIn_r _ [6, 7, 8, 9, 10, 5, 11, 12, 13, 14, 15, 16, 17, 18, 19, 20, 21, 22, 23, 24, 25, 26, 27, 28, 29, 30, 31, 32, 33, 34, 35, 36, 37, 38, 39, 40, 41, 42, 43, 44, 45] (by decide +kernel) (by decide +kernel)) (goodIn_sub (fun _ h => List.mem_cons_of_mem _ (List.mem_append_right _ h)) (by decide +kernel))
set_option maxRecDepth 20000 in
theorem gL_cell__X3_cell : GoodIn wsL_cell_ (wsV RL 24 RX3 yX3_cell wsX3_cell) := goodIn_app (goodIn_of _ (by decide +kernel)) ggL_cell__X3_cell
theorem dL_cell__0 : decode cL_cell_ 0 = .ok (.aload_n 2, 1) := by decide +kernel
theorem dL_cell__1 : decode cL_cell_ 1 = .ok (.iconst 0, 1) := by decide +kernel
theorem dL_cell__2 : decode cL_cell_ 2 = .ok (.aload_n 0, 1) := by decide +kernel
theorem dL_cell__3 : decode cL_cell_ 3 = .ok (.iload_n 1, 1) := by decide +kernel
theorem dL_cell__4 : decode cL_cell_ 4 = .ok (.invokevirtual 24, 3) := by decide +kernel
theorem dL_cell__7 : decode cL_cell_ 7 = .ok (.i2l, 1) := by decide +kernel
theorem dL_cell__8 : decode cL_cell_ 8 = .ok (.lastore, 1) := by decide +kernel
theorem dL_cell__9 : decode cL_cell_ 9 = .ok (.goto 6, 3) := by decide +kernel
theorem dL_cell__12 : decode cL_cell_ 12 = .ok (.astore_n 3, 1) := by decide +kernel
theorem dL_cell__13 : decode cL_cell_ 13 = .ok (.iconst 1, 1) := by decide +kernel
theorem dL_cell__14 : decode cL_cell_ 14 = .ok (.ireturn, 1) := by decide +kernel
theorem dL_cell__15 : decode cL_cell_ 15 = .ok (.iconst 0, 1) := by decide +kernel
theorem dL_cell__16 : decode cL_cell_ 16 = .ok (.ireturn, 1) := by decide +kernel
set_option maxRecDepth 20000 in
theorem ggL_share_X3_share : GoodIn wsL_share wsX3_share := goodIn_ca (goodIn_r _ [6, 7, 8, 9, 10, 5, 11, 12, 13, 14, 15, 16, 17, 18, 19, 20, 21, 22, 23, 24, 25, 26, 27, 28, 29, 30, 31, 32, 33, 34] (by decide +kernel) (by decide +kernel)) (goodIn_sub (fun _ h => List.mem_cons_of_mem _ (List.mem_append_right _ h)) (by decide +kernel))
set_option maxRecDepth 20000 in
theorem gL_share_X3_share : GoodIn wsL_share (wsV RL 27 RX3 yX3_share wsX3_share) := goodIn_app (goodIn_of _ (by decide +kernel)) ggL_share_X3_share
theorem dL_share_0 : decode cL_share 0 = .ok (.aload_n 1, 1) := by decide +kernel
theorem dL_share_1 : decode cL_share 1 = .ok (.iconst 0, 1) := by decide +kernel
theorem dL_share_2 : decode cL_share 2 = .ok (.aload_n 0, 1) := by decide +kernel
theorem dL_share_3 : decode cL_share 3 = .ok (.invokevirtual 27, 3) := by decide +kernel
theorem dL_share_6 : decode cL_share 6 = .ok (.f2d, 1) := by decide +kernel
theorem dL_share_7 : decode cL_share 7 = .ok (.dastore, 1) := by decide +kernel
theorem dL_share_8 : decode cL_share 8 = .ok (.goto 6, 3) := by decide +kernel
theorem dL_share_11 : decode cL_share 11 = .ok (.astore_n 2, 1) := by decide +kernel
theorem dL_share_12 : decode cL_share 12 = .ok (.iconst 1, 1) := by decide +kernel
theorem dL_share_13 : decode cL_share 13 = .ok (.ireturn, 1) := by decide +kernel
theorem dL_share_14 : decode cL_share 14 = .ok (.iconst 0, 1) := by decide +kernel
theorem dL_share_15 : decode cL_share 15 = .ok (.ireturn, 1) := by decide +kernel
set_option maxRecDepth 20000 in
theorem ggL_grow_X3_grow : GoodIn wsL_grow wsX3_grow := goodIn_ca (goodIn_r _ [6, 7, 8, 9, 10, 11, 12, 13, 14, 15, 16, 17, 18, 19, 20, 21, 22, 23, 24, 25, 26, 27, 28, 29, 30, 31, 32, 33, 34, 35, 36, 37, 38, 39, 40, 41, 42, 43, 44, 45, 46, 47, 48, 49, 50, 51, 52, 53, 54, 55, 56, 57, 58, 59, 60, 61, 62, 63, 64, 65, 66, 67, 68, 69, 70, 71, 72, 73, 74, 75, 76, 77, 78, 79, 80, 81, 82, 83, 84, 85, 86, 87, 88, 89, 90, 91, 92, 93, 94, 95, 96, 97, 98, 99, 100, 101, 102, 103, 104, 105, 106, 107, 108, 109, 110, 111, 112, 113, 114, 115, 116, 117, 118, 119, 120, 121, 122, 123, 124, 125, 126, 127, 128, 129, 130, 131, 132, 133, 134, 135, 136, 137, 138, 139, 140, 141, 142, 143, 144, 145, 146, 147, 148, 149, 150, 151, 152, 153, 154, 155, 156, 157, 158, 159, 160, 161, 162, 163, 164, 165, 166, 167, 168, 169, 170, 171, 172, 173, 174, 175, 176, 177, 178, 179, 180, 181, 182, 183, 184, 185, 186, 187, 188, 189, 190, 191, 192, 193, 194, 195, 196, 197] (by decide +kernel) (by decide +kernel)) (goodIn_sub (fun _ h => List.mem_cons_of_mem _ (List.mem_append_right _ h)) (by decide +kernel))
set_option maxRecDepth 20000 in
theorem gL_grow_X3_grow : GoodIn wsL_grow (wsV RL 31 RX3 yX3_grow wsX3_grow) := goodIn_app (goodIn_of _ (by decide +kernel)) ggL_grow_X3_grow
theorem dL_grow_0 : decode cL_grow 0 = .ok (.aload_n 2, 1) := by decide +kernel
theorem dL_grow_1 : decode cL_grow 1 = .ok (.iconst 0, 1) := by decide +kernel
theorem dL_grow_2 : decode cL_grow 2 = .ok (.aload_n 0, 1) := by decide +kernel
theorem dL_grow_3 : decode cL_grow 3 = .ok (.iload_n 1, 1) := by decide +kernel
theorem dL_grow_4 : decode cL_grow 4 = .ok (.invokevirtual 31, 3) := by decide +kernel
theorem dL_grow_7 : decode cL_grow 7 = .ok (.i2l, 1) := by decide +kernel
theorem dL_grow_8 : decode cL_grow 8 = .ok (.lastore, 1) := by decide +kernel
theorem dL_grow_9 : decode cL_grow 9 = .ok (.goto 6, 3) := by decide +kernel
theorem dL_grow_12 : decode cL_grow 12 = .ok (.astore_n 3, 1) := by decide +kernel
theorem dL_grow_13 : decode cL_grow 13 = .ok (.iconst 1, 1) := by decide +kernel
theorem dL_grow_14 : decode cL_grow 14 = .ok (.ireturn, 1) := by decide +kernel
theorem dL_grow_15 : decode cL_grow 15 = .ok (.iconst 0, 1) := by decide +kernel
theorem dL_grow_16 : decode cL_grow 16 = .ok (.ireturn, 1) := by decide +kernel
set_option maxRecDepth 20000 in
theorem ggL_taken_X3_taken : GoodIn wsL_taken wsX3_taken := goodIn_ca (goodIn_r _ [6, 7, 8, 9, 10, 11, 12, 13, 14, 15, 16, 17, 18, 19, 20, 21, 22, 23, 24, 25, 26, 27, 28, 29, 30, 31] (by decide +kernel) (by decide +kernel)) (goodIn_sub (fun _ h => List.mem_cons_of_mem _ (List.mem_append_right _ h)) (by decide +kernel))
set_option maxRecDepth 20000 in
theorem gL_taken_X3_taken : GoodIn wsL_taken (wsV RL 34 RX3 yX3_taken wsX3_taken) := goodIn_app (goodIn_of _ (by decide +kernel)) ggL_taken_X3_taken
theorem dL_taken_0 : decode cL_taken 0 = .ok (.aload_n 2, 1) := by decide +kernel
theorem dL_taken_1 : decode cL_taken 1 = .ok (.iconst 0, 1) := by decide +kernel
theorem dL_taken_2 : decode cL_taken 2 = .ok (.aload_n 0, 1) := by decide +kernel
theorem dL_taken_3 : decode cL_taken 3 = .ok (.iload_n 1, 1) := by decide +kernel
theorem dL_taken_4 : decode cL_taken 4 = .ok (.invokevirtual 34, 3) := by decide +kernel
theorem dL_taken_7 : decode cL_taken 7 = .ok (.i2l, 1) := by decide +kernel
theorem dL_taken_8 : decode cL_taken 8 = .ok (.lastore, 1) := by decide +kernel
theorem dL_taken_9 : decode cL_taken 9 = .ok (.goto 6, 3) := by decide +kernel
theorem dL_taken_12 : decode cL_taken 12 = .ok (.astore_n 3, 1) := by decide +kernel
theorem dL_taken_13 : decode cL_taken 13 = .ok (.iconst 1, 1) := by decide +kernel
theorem dL_taken_14 : decode cL_taken 14 = .ok (.ireturn, 1) := by decide +kernel
theorem dL_taken_15 : decode cL_taken 15 = .ok (.iconst 0, 1) := by decide +kernel
theorem dL_taken_16 : decode cL_taken 16 = .ok (.ireturn, 1) := by decide +kernel
set_option maxRecDepth 20000 in
theorem ggL_champion_X3_champion : GoodIn wsL_champion wsX3_champion := goodIn_ca (goodIn_r _ [6, 7, 8, 9, 10, 11, 12, 13, 14, 15, 16, 17, 18, 19, 20, 21, 22, 23, 24, 25, 26, 27, 28, 29, 30, 31, 32, 33, 34, 35, 36, 37, 38, 39, 40, 41, 42, 43, 44] (by decide +kernel) (by decide +kernel)) (goodIn_sub (fun _ h => List.mem_cons_of_mem _ (List.mem_append_right _ h)) (by decide +kernel))
set_option maxRecDepth 20000 in
theorem gL_champion_X3_champion : GoodIn wsL_champion (wsV RL 37 RX3 yX3_champion wsX3_champion) := goodIn_app (goodIn_of _ (by decide +kernel)) ggL_champion_X3_champion
theorem dL_champion_0 : decode cL_champion 0 = .ok (.aload_n 3, 1) := by decide +kernel
theorem dL_champion_1 : decode cL_champion 1 = .ok (.iconst 0, 1) := by decide +kernel
theorem dL_champion_2 : decode cL_champion 2 = .ok (.aload_n 0, 1) := by decide +kernel
theorem dL_champion_3 : decode cL_champion 3 = .ok (.iload_n 1, 1) := by decide +kernel
theorem dL_champion_4 : decode cL_champion 4 = .ok (.iload_n 2, 1) := by decide +kernel
theorem dL_champion_5 : decode cL_champion 5 = .ok (.invokevirtual 37, 3) := by decide +kernel
theorem dL_champion_8 : decode cL_champion 8 = .ok (.i2l, 1) := by decide +kernel
theorem dL_champion_9 : decode cL_champion 9 = .ok (.lastore, 1) := by decide +kernel
theorem dL_champion_10 : decode cL_champion 10 = .ok (.goto 7, 3) := by decide +kernel
theorem dL_champion_13 : decode cL_champion 13 = .ok (.astore 4, 2) := by decide +kernel
theorem dL_champion_15 : decode cL_champion 15 = .ok (.iconst 1, 1) := by decide +kernel
theorem dL_champion_16 : decode cL_champion 16 = .ok (.ireturn, 1) := by decide +kernel
theorem dL_champion_17 : decode cL_champion 17 = .ok (.iconst 0, 1) := by decide +kernel
theorem dL_champion_18 : decode cL_champion 18 = .ok (.ireturn, 1) := by decide +kernel
set_option maxRecDepth 20000 in
theorem ggL_mean_X3_mean : GoodIn wsL_mean wsX3_mean := goodIn_ca (goodIn_r _ [6, 7, 8, 9, 10, 11, 12, 13, 14, 15, 16, 17, 18, 19, 20, 21, 22, 23, 24, 25, 26, 27, 28, 29, 30, 31] (by decide +kernel) (by decide +kernel)) (goodIn_sub (fun _ h => List.mem_cons_of_mem _ (List.mem_append_right _ h)) (by decide +kernel))
set_option maxRecDepth 20000 in
theorem gL_mean_X3_mean : GoodIn wsL_mean (wsV RL 41 RX3 yX3_mean wsX3_mean) := goodIn_app (goodIn_of _ (by decide +kernel)) ggL_mean_X3_mean
theorem dL_mean_0 : decode cL_mean 0 = .ok (.aload_n 1, 1) := by decide +kernel
theorem dL_mean_1 : decode cL_mean 1 = .ok (.iconst 0, 1) := by decide +kernel
theorem dL_mean_2 : decode cL_mean 2 = .ok (.aload_n 0, 1) := by decide +kernel
theorem dL_mean_3 : decode cL_mean 3 = .ok (.invokevirtual 41, 3) := by decide +kernel
theorem dL_mean_6 : decode cL_mean 6 = .ok (.f2d, 1) := by decide +kernel
theorem dL_mean_7 : decode cL_mean 7 = .ok (.dastore, 1) := by decide +kernel
theorem dL_mean_8 : decode cL_mean 8 = .ok (.goto 6, 3) := by decide +kernel
theorem dL_mean_11 : decode cL_mean 11 = .ok (.astore_n 2, 1) := by decide +kernel
theorem dL_mean_12 : decode cL_mean 12 = .ok (.iconst 1, 1) := by decide +kernel
theorem dL_mean_13 : decode cL_mean 13 = .ok (.ireturn, 1) := by decide +kernel
theorem dL_mean_14 : decode cL_mean 14 = .ok (.iconst 0, 1) := by decide +kernel
theorem dL_mean_15 : decode cL_mean 15 = .ok (.ireturn, 1) := by decide +kernel
set_option maxRecDepth 20000 in
theorem ggL_law_L_cell : GoodIn wsL_law wsL_cell := goodIn_r _ [11] (by decide +kernel) (by decide +kernel)
set_option maxRecDepth 20000 in
theorem gL_law_L_cell : GoodIn wsL_law (va_wsS RL 44 yL_cell wsL_cell) := goodIn_app (goodIn_of _ (by decide +kernel)) ggL_law_L_cell
set_option maxRecDepth 20000 in
theorem ggL_law_X3_init : GoodIn wsL_law wsX3_init := goodIn_r _ [14, 15, 16, 17, 18, 19, 20, 21, 22, 23, 24, 25, 26, 27, 28, 29, 30, 31, 32, 33, 34, 35, 36, 37, 38, 39, 40, 41, 42, 43, 44, 45, 46, 47, 48, 49, 50, 51, 52, 53, 54, 55, 56, 6, 57, 58, 59, 60, 61, 62, 63, 64, 65, 66, 67, 68, 69, 70, 71, 72, 73, 74, 75, 76, 436, 437, 404, 405, 406, 407, 438, 439, 440, 441, 442, 443, 444, 445, 446, 447, 448, 449, 450, 451, 452, 453, 454, 455, 456, 457, 458, 459, 460, 461, 462, 463, 464, 465, 466, 467, 468, 469, 470, 471] (by decide +kernel) (by decide +kernel)
set_option maxRecDepth 20000 in
theorem gL_law_X3_init : GoodIn wsL_law (wsX3_init) := ggL_law_X3_init
set_option maxRecDepth 20000 in
theorem ggL_law_X4_init : GoodIn wsL_law wsX4_init := goodIn_r _ [79, 80, 16, 17, 43, 81, 82, 83, 84, 85, 86, 87, 88, 89, 90, 91, 92, 93, 94, 95, 96, 408, 409, 410, 411, 412, 413, 414, 415, 416, 417, 418, 419, 420, 421, 422, 423, 424, 425, 426, 427, 428, 429, 430, 431, 432, 433, 434, 435] (by decide +kernel) (by decide +kernel)
set_option maxRecDepth 20000 in
theorem gL_law_X4_init : GoodIn wsL_law (wsX4_init) := ggL_law_X4_init
set_option maxRecDepth 20000 in
theorem ggL_law_L_set : GoodIn wsL_law wsL_set := goodIn_ca (goodIn_r _ [99, 100, 101, 102, 103, 2, 104, 105, 106, 28, 37, 107, 108, 109, 27, 110, 42, 111, 112, 113, 114, 115, 116, 117, 118, 44, 119, 120, 121, 122, 404, 405, 406, 407, 436, 437] (by decide +kernel) (by decide +kernel)) (goodIn_sub (fun _ h => List.mem_append_left _ (List.mem_append_right _ h)) (by decide +kernel))
set_option maxRecDepth 20000 in
theorem gL_law_L_set : GoodIn wsL_law (va_wsS RL 55 yL_set wsL_set) := goodIn_app (goodIn_of _ (by decide +kernel)) ggL_law_L_set
set_option maxRecDepth 20000 in
theorem ggL_law_X4_set : GoodIn wsL_law wsX4_set := goodIn_r _ [126, 127, 96, 81, 128, 129, 130, 131, 5, 132, 408, 409, 410, 411, 412, 413, 414, 415, 416, 417, 418, 419, 420, 421, 422, 423, 424, 425, 426, 427, 428, 429, 430, 431, 432, 433, 434, 435] (by decide +kernel) (by decide +kernel)
set_option maxRecDepth 20000 in
theorem gL_law_X4_set : GoodIn wsL_law (wsV RL 58 RX4 yX4_set wsX4_set) := goodIn_app (goodIn_of _ (by decide +kernel)) ggL_law_X4_set
set_option maxRecDepth 20000 in
theorem ggL_law_X4_thrown : GoodIn wsL_law wsX4_thrown := goodIn_r _ [136, 127, 408, 409, 410, 411, 412, 413, 414, 415, 416, 417, 418, 419, 420, 421, 422, 423, 424, 425, 426, 427, 428, 429, 430, 431, 432, 433, 434, 435] (by decide +kernel) (by decide +kernel)
set_option maxRecDepth 20000 in
theorem gL_law_X4_thrown : GoodIn wsL_law (wsV RL 59 RX4 yX4_thrown wsX4_thrown) := goodIn_app (goodIn_of _ (by decide +kernel)) ggL_law_X4_thrown
set_option maxRecDepth 20000 in
theorem ggL_law_L_run : GoodIn wsL_law wsL_run := goodIn_ca (goodIn_r _ [139, 100, 140, 141, 142, 2, 143, 105, 106, 32, 28, 37, 144, 145, 146, 31, 147, 55, 53, 19, 20, 21, 148, 149, 150, 151, 152, 153, 154, 155, 57, 156, 157, 158, 159, 160, 161, 162, 47, 163, 164, 165, 166, 167, 59, 60, 61, 58, 56, 168, 169, 170, 171, 172, 173, 174, 175, 176, 177, 178, 179, 180, 116, 117, 27, 118, 44, 181, 182, 183, 184, 54, 23, 24, 185, 186, 187, 188, 189, 190, 191, 192, 193, 194, 195, 196, 197, 198, 199, 200, 201, 202, 203, 204, 205, 206, 207, 208, 404, 405, 406, 407, 438, 439, 440, 441, 442, 443, 444, 445, 446, 447, 448, 449, 450, 451, 452, 453, 436, 437] (by decide +kernel) (by decide +kernel)) (goodIn_sub (fun _ h => List.mem_append_left _ (List.mem_append_right _ h)) (by decide +kernel))
set_option maxRecDepth 20000 in
theorem gL_law_L_run : GoodIn wsL_law (va_wsS RL 63 yL_run wsL_run) := goodIn_app (goodIn_of _ (by decide +kernel)) ggL_law_L_run
set_option maxRecDepth 20000 in
theorem ggL_law_X4_run : GoodIn wsL_law wsX4_run := goodIn_r _ [212, 127, 81, 128, 90, 213, 214, 215, 86, 87, 216, 217, 91, 84, 129, 130, 131, 5, 132, 218, 219, 220, 221, 222, 223, 224, 225, 88, 226, 227, 228, 229, 89, 230, 231, 232, 233, 85, 234, 235, 236, 237, 238, 239, 240, 241, 242, 243, 244, 245, 408, 409, 410, 411, 412, 413, 414, 415, 416, 417, 418, 419, 420, 421, 422, 423, 424, 425, 426, 427, 428, 429, 430, 431, 432, 433, 434, 435] (by decide +kernel) (by decide +kernel)
set_option maxRecDepth 20000 in
theorem gL_law_X4_run : GoodIn wsL_law (wsV RL 66 RX4 yX4_run wsX4_run) := goodIn_app (goodIn_of _ (by decide +kernel)) ggL_law_X4_run
set_option maxRecDepth 20000 in
theorem ggL_law_L_figure : GoodIn wsL_law wsL_figure := goodIn_ca (goodIn_ca (goodIn_r _ [248, 100, 249, 250, 251, 252, 2, 253, 105, 106, 32, 254, 255, 256, 257, 258, 259, 37, 404, 405, 406, 407, 438, 439, 440, 441, 442, 443, 444, 445, 446, 447, 448, 449, 450, 451, 452, 453] (by decide +kernel) (by decide +kernel)) (goodIn_sub (fun _ h => List.mem_append_left _ (List.mem_append_right _ h)) (by decide +kernel))) (goodIn_sub (fun _ h => List.mem_append_right _ h) (by decide +kernel))
set_option maxRecDepth 20000 in
theorem gL_law_L_figure : GoodIn wsL_law (va_wsS RL 67 yL_figure wsL_figure) := goodIn_app (goodIn_of _ (by decide +kernel)) ggL_law_L_figure
set_option maxRecDepth 20000 in
theorem ggL_law_X4_figure : GoodIn wsL_law wsX4_figure := goodIn_r _ [263, 127, 128, 90, 129, 130, 131, 5, 132, 408, 409, 410, 411, 412, 413, 414, 415, 416, 417, 418, 419, 420, 421, 422, 423, 424, 425, 426, 427, 428, 429, 430, 431, 432, 433, 434, 435] (by decide +kernel) (by decide +kernel)
set_option maxRecDepth 20000 in
theorem gL_law_X4_figure : GoodIn wsL_law (wsV RL 69 RX4 yX4_figure wsX4_figure) := goodIn_app (goodIn_of _ (by decide +kernel)) ggL_law_X4_figure
set_option maxRecDepth 20000 in
theorem ggL_law_L_cell_ : GoodIn wsL_law wsL_cell_ := goodIn_ca (goodIn_r _ [266, 249, 267, 268, 269, 2, 270, 32, 254, 255, 256, 257, 258, 259, 37, 271, 173, 174, 31, 175, 57, 176, 177, 178, 179, 55, 404, 405, 406, 407, 438, 439, 440, 441, 442, 443, 444, 445, 446, 447, 448, 449, 450, 451, 452, 453] (by decide +kernel) (by decide +kernel)) (goodIn_sub (fun _ h => List.mem_append_right _ h) (by decide +kernel))
set_option maxRecDepth 20000 in
theorem gL_law_L_cell_ : GoodIn wsL_law (va_wsS RL 70 yL_cell_ wsL_cell_) := goodIn_app (goodIn_of _ (by decide +kernel)) ggL_law_L_cell_
set_option maxRecDepth 20000 in
theorem ggL_law_X4_cell : GoodIn wsL_law wsX4_cell := goodIn_r _ [275, 127, 128, 91, 129, 130, 131, 5, 132, 408, 409, 410, 411, 412, 413, 414, 415, 416, 417, 418, 419, 420, 421, 422, 423, 424, 425, 426, 427, 428, 429, 430, 431, 432, 433, 434, 435] (by decide +kernel) (by decide +kernel)
set_option maxRecDepth 20000 in
theorem gL_law_X4_cell : GoodIn wsL_law (wsV RL 72 RX4 yX4_cell wsX4_cell) := goodIn_app (goodIn_of _ (by decide +kernel)) ggL_law_X4_cell
set_option maxRecDepth 20000 in
theorem ggL_law_L_share : GoodIn wsL_law wsL_share := goodIn_ca (goodIn_r _ [278, 249, 279, 280, 281, 2, 282, 32, 254, 255, 256, 257, 258, 259, 37, 404, 405, 406, 407, 438, 439, 440, 441, 442, 443, 444, 445, 446, 447, 448, 449, 450, 451, 452, 453] (by decide +kernel) (by decide +kernel)) (goodIn_sub (fun _ h => List.mem_append_right _ h) (by decide +kernel))
set_option maxRecDepth 20000 in
theorem gL_law_L_share : GoodIn wsL_law (va_wsS RL 73 yL_share wsL_share) := goodIn_app (goodIn_of _ (by decide +kernel)) ggL_law_L_share
set_option maxRecDepth 20000 in
theorem ggL_law_X4_share : GoodIn wsL_law wsX4_share := goodIn_r _ [286, 127, 128, 90, 129, 130, 131, 5, 132, 408, 409, 410, 411, 412, 413, 414, 415, 416, 417, 418, 419, 420, 421, 422, 423, 424, 425, 426, 427, 428, 429, 430, 431, 432, 433, 434, 435] (by decide +kernel) (by decide +kernel)
set_option maxRecDepth 20000 in
theorem gL_law_X4_share : GoodIn wsL_law (wsV RL 76 RX4 yX4_share wsX4_share) := goodIn_app (goodIn_of _ (by decide +kernel)) ggL_law_X4_share
set_option maxRecDepth 20000 in
theorem ggL_law_L_grow : GoodIn wsL_law wsL_grow := goodIn_ca (goodIn_r _ [289, 100, 290, 291, 292, 2, 293, 105, 106, 36, 294, 295, 296, 35, 297, 71, 68, 298, 299, 300, 301, 302, 303, 304, 305, 306, 307, 120, 121, 27, 122, 44, 308, 309, 310, 311, 312, 66, 74, 313, 314, 315, 316, 72, 73, 317, 19, 20, 21, 318, 173, 174, 31, 175, 57, 176, 177, 178, 179, 55, 319, 320, 321, 322, 323, 23, 24, 324, 325, 326, 327, 328, 116, 117, 118, 329, 145, 146, 147, 53, 148, 149, 150, 151, 152, 153, 154, 155, 156, 157, 158, 159, 160, 161, 162, 47, 163, 164, 165, 166, 167, 59, 60, 61, 58, 56, 168, 169, 170, 171, 172, 180, 181, 182, 183, 184, 54, 185, 186, 187, 188, 189, 190, 191, 192, 193, 194, 195, 196, 197, 198, 199, 200, 201, 202, 203, 204, 205, 206, 207, 208, 330, 331, 332, 333, 334, 335, 336, 337, 338, 339, 69, 340, 341, 342, 343, 344, 345, 404, 405, 406, 407, 454, 455, 456, 457, 458, 459, 460, 461, 462, 463, 464, 465, 466, 467, 468, 469, 470, 471, 438, 439, 440, 441, 442, 443, 444, 445, 446, 447, 448, 449, 450, 451, 452, 453, 436, 437] (by decide +kernel) (by decide +kernel)) (goodIn_sub (fun _ h => List.mem_append_left _ (List.mem_append_right _ h)) (by decide +kernel))
set_option maxRecDepth 20000 in
theorem gL_law_L_grow : GoodIn wsL_law (va_wsS RL 77 yL_grow wsL_grow) := goodIn_app (goodIn_of _ (by decide +kernel)) ggL_law_L_grow
set_option maxRecDepth 20000 in
theorem ggL_law_X4_grow : GoodIn wsL_law wsX4_grow := goodIn_r _ [349, 127, 92, 82, 350, 129, 130, 131, 5, 132, 351, 352, 353, 354, 95, 355, 213, 356, 357, 358, 83, 96, 93, 86, 84, 87, 94, 218, 219, 220, 221, 222, 223, 224, 225, 214, 215, 216, 217, 88, 226, 227, 228, 229, 89, 230, 231, 232, 233, 85, 234, 235, 236, 237, 238, 239, 240, 241, 242, 243, 244, 245, 359, 360, 361, 362, 363, 364, 365, 366, 367, 368, 369, 370, 408, 409, 410, 411, 412, 413, 414, 415, 416, 417, 418, 419, 420, 421, 422, 423, 424, 425, 426, 427, 428, 429, 430, 431, 432, 433, 434, 435] (by decide +kernel) (by decide +kernel)
set_option maxRecDepth 20000 in
theorem gL_law_X4_grow : GoodIn wsL_law (wsV RL 79 RX4 yX4_grow wsX4_grow) := goodIn_app (goodIn_of _ (by decide +kernel)) ggL_law_X4_grow
set_option maxRecDepth 20000 in
theorem ggL_law_L_taken : GoodIn wsL_law wsL_taken := goodIn_ca (goodIn_r _ [373, 100, 374, 375, 376, 2, 377, 105, 106, 36, 404, 405, 406, 407, 454, 455, 456, 457, 458, 459, 460, 461, 462, 463, 464, 465, 466, 467, 468, 469, 470, 471] (by decide +kernel) (by decide +kernel)) (goodIn_sub (fun _ h => List.mem_append_left _ (List.mem_append_right _ h)) (by decide +kernel))
set_option maxRecDepth 20000 in
theorem gL_law_L_taken : GoodIn wsL_law (va_wsS RL 80 yL_taken wsL_taken) := goodIn_app (goodIn_of _ (by decide +kernel)) ggL_law_L_taken
set_option maxRecDepth 20000 in
theorem ggL_law_X4_taken : GoodIn wsL_law wsX4_taken := goodIn_r _ [381, 127, 95, 357, 358, 356, 129, 130, 131, 5, 132, 408, 409, 410, 411, 412, 413, 414, 415, 416, 417, 418, 419, 420, 421, 422, 423, 424, 425, 426, 427, 428, 429, 430, 431, 432, 433, 434, 435] (by decide +kernel) (by decide +kernel)
set_option maxRecDepth 20000 in
theorem gL_law_X4_taken : GoodIn wsL_law (wsV RL 82 RX4 yX4_taken wsX4_taken) := goodIn_app (goodIn_of _ (by decide +kernel)) ggL_law_X4_taken
set_option maxRecDepth 20000 in
theorem ggL_law_L_champion : GoodIn wsL_law wsL_champion := goodIn_ca (goodIn_r _ [384, 100, 385, 386, 387, 2, 388, 105, 106, 36, 107, 108, 109, 27, 110, 42, 115, 116, 117, 118, 44, 404, 405, 406, 407, 454, 455, 456, 457, 458, 459, 460, 461, 462, 463, 464, 465, 466, 467, 468, 469, 470, 471, 436, 437] (by decide +kernel) (by decide +kernel)) (goodIn_sub (fun _ h => List.mem_append_left _ (List.mem_append_right _ h)) (by decide +kernel))
set_option maxRecDepth 20000 in
theorem gL_law_L_champion : GoodIn wsL_law (va_wsS RL 83 yL_champion wsL_champion) := goodIn_app (goodIn_of _ (by decide +kernel)) ggL_law_L_champion
set_option maxRecDepth 20000 in
theorem ggL_law_X4_champion : GoodIn wsL_law wsX4_champion := goodIn_r _ [392, 127, 96, 83, 129, 130, 131, 5, 132, 408, 409, 410, 411, 412, 413, 414, 415, 416, 417, 418, 419, 420, 421, 422, 423, 424, 425, 426, 427, 428, 429, 430, 431, 432, 433, 434, 435] (by decide +kernel) (by decide +kernel)
set_option maxRecDepth 20000 in
theorem gL_law_X4_champion : GoodIn wsL_law (wsV RL 86 RX4 yX4_champion wsX4_champion) := goodIn_app (goodIn_of _ (by decide +kernel)) ggL_law_X4_champion
set_option maxRecDepth 20000 in
theorem ggL_law_L_mean : GoodIn wsL_law wsL_mean := goodIn_ca (goodIn_r _ [395, 249, 396, 397, 398, 2, 399, 258, 259, 36, 404, 405, 406, 407, 454, 455, 456, 457, 458, 459, 460, 461, 462, 463, 464, 465, 466, 467, 468, 469, 470, 471] (by decide +kernel) (by decide +kernel)) (goodIn_sub (fun _ h => List.mem_append_right _ h) (by decide +kernel))
set_option maxRecDepth 20000 in
theorem gL_law_L_mean : GoodIn wsL_law (va_wsS RL 87 yL_mean wsL_mean) := goodIn_app (goodIn_of _ (by decide +kernel)) ggL_law_L_mean
set_option maxRecDepth 20000 in
theorem ggL_law_X4_mean : GoodIn wsL_law wsX4_mean := goodIn_r _ [403, 127, 95, 355, 129, 130, 131, 5, 132, 408, 409, 410, 411, 412, 413, 414, 415, 416, 417, 418, 419, 420, 421, 422, 423, 424, 425, 426, 427, 428, 429, 430, 431, 432, 433, 434, 435] (by decide +kernel) (by decide +kernel)
set_option maxRecDepth 20000 in
theorem gL_law_X4_mean : GoodIn wsL_law (wsV RL 89 RX4 yX4_mean wsX4_mean) := goodIn_app (goodIn_of _ (by decide +kernel)) ggL_law_X4_mean
theorem dL_law_0 : decode cL_law 0 = .ok (.new 8, 3) := by decide +kernel
theorem dL_law_3 : decode cL_law 3 = .ok (.dup, 1) := by decide +kernel
theorem dL_law_4 : decode cL_law 4 = .ok (.aload_n 0, 1) := by decide +kernel
theorem dL_law_5 : decode cL_law 5 = .ok (.iconst 0, 1) := by decide +kernel
theorem dL_law_6 : decode cL_law 6 = .ok (.invokestatic 44, 3) := by decide +kernel
theorem dL_law_9 : decode cL_law 9 = .ok (.invokespecial 49, 3) := by decide +kernel
theorem dL_law_12 : decode cL_law 12 = .ok (.astore_n 1, 1) := by decide +kernel
theorem dL_law_13 : decode cL_law 13 = .ok (.new 52, 3) := by decide +kernel
theorem dL_law_16 : decode cL_law 16 = .ok (.dup, 1) := by decide +kernel
theorem dL_law_17 : decode cL_law 17 = .ok (.aload_n 0, 1) := by decide +kernel
theorem dL_law_18 : decode cL_law 18 = .ok (.iconst 0, 1) := by decide +kernel
theorem dL_law_19 : decode cL_law 19 = .ok (.invokestatic 44, 3) := by decide +kernel
theorem dL_law_22 : decode cL_law 22 = .ok (.invokespecial 54, 3) := by decide +kernel
theorem dL_law_25 : decode cL_law 25 = .ok (.astore_n 2, 1) := by decide +kernel
theorem dL_law_26 : decode cL_law 26 = .ok (.iconst 1, 1) := by decide +kernel
theorem dL_law_27 : decode cL_law 27 = .ok (.newarray .long, 2) := by decide +kernel
theorem dL_law_29 : decode cL_law 29 = .ok (.astore_n 3, 1) := by decide +kernel
theorem dL_law_30 : decode cL_law 30 = .ok (.iconst 1, 1) := by decide +kernel
theorem dL_law_31 : decode cL_law 31 = .ok (.newarray .double, 2) := by decide +kernel
theorem dL_law_33 : decode cL_law 33 = .ok (.astore 4, 2) := by decide +kernel
theorem dL_law_35 : decode cL_law 35 = .ok (.iconst 1, 1) := by decide +kernel
theorem dL_law_36 : decode cL_law 36 = .ok (.istore 5, 2) := by decide +kernel
theorem dL_law_38 : decode cL_law 38 = .ok (.iload 5, 2) := by decide +kernel
theorem dL_law_40 : decode cL_law 40 = .ok (.aload_n 0, 1) := by decide +kernel
theorem dL_law_41 : decode cL_law 41 = .ok (.arraylength, 1) := by decide +kernel
theorem dL_law_42 : decode cL_law 42 = .ok (.iconst 4, 1) := by decide +kernel
theorem dL_law_43 : decode cL_law 43 = .ok (.isub, 1) := by decide +kernel
theorem dL_law_44 : decode cL_law 44 = .ok (.if_icmp .gt 626, 3) := by decide +kernel
theorem dL_law_47 : decode cL_law 47 = .ok (.aload_n 0, 1) := by decide +kernel
theorem dL_law_48 : decode cL_law 48 = .ok (.iload 5, 2) := by decide +kernel
theorem dL_law_50 : decode cL_law 50 = .ok (.iaload, 1) := by decide +kernel
theorem dL_law_51 : decode cL_law 51 = .ok (.bipush 15, 2) := by decide +kernel
theorem dL_law_53 : decode cL_law 53 = .ok (.iand, 1) := by decide +kernel
theorem dL_law_54 : decode cL_law 54 = .ok (.tableswitch 610 0 8 #[50, 130, 186, 242, 298, 364, 420, 476, 544], 50) := by decide +kernel
theorem dL_law_104 : decode cL_law 104 = .ok (.aload_n 1, 1) := by decide +kernel
theorem dL_law_105 : decode cL_law 105 = .ok (.aload_n 0, 1) := by decide +kernel
theorem dL_law_106 : decode cL_law 106 = .ok (.iload 5, 2) := by decide +kernel
theorem dL_law_108 : decode cL_law 108 = .ok (.iconst 1, 1) := by decide +kernel
theorem dL_law_109 : decode cL_law 109 = .ok (.iadd, 1) := by decide +kernel
theorem dL_law_110 : decode cL_law 110 = .ok (.iaload, 1) := by decide +kernel
theorem dL_law_111 : decode cL_law 111 = .ok (.aload_n 0, 1) := by decide +kernel
theorem dL_law_112 : decode cL_law 112 = .ok (.iload 5, 2) := by decide +kernel
theorem dL_law_114 : decode cL_law 114 = .ok (.iconst 2, 1) := by decide +kernel
theorem dL_law_115 : decode cL_law 115 = .ok (.iadd, 1) := by decide +kernel
theorem dL_law_116 : decode cL_law 116 = .ok (.iaload, 1) := by decide +kernel
theorem dL_law_117 : decode cL_law 117 = .ok (.aload_n 0, 1) := by decide +kernel
theorem dL_law_118 : decode cL_law 118 = .ok (.iload 5, 2) := by decide +kernel
theorem dL_law_120 : decode cL_law 120 = .ok (.iconst 3, 1) := by decide +kernel
theorem dL_law_121 : decode cL_law 121 = .ok (.iadd, 1) := by decide +kernel
theorem dL_law_122 : decode cL_law 122 = .ok (.iaload, 1) := by decide +kernel
theorem dL_law_123 : decode cL_law 123 = .ok (.aload_n 3, 1) := by decide +kernel
theorem dL_law_124 : decode cL_law 124 = .ok (.invokestatic 55, 3) := by decide +kernel
theorem dL_law_127 : decode cL_law 127 = .ok (.istore 6, 2) := by decide +kernel
theorem dL_law_129 : decode cL_law 129 = .ok (.aload_n 2, 1) := by decide +kernel
theorem dL_law_130 : decode cL_law 130 = .ok (.aload_n 0, 1) := by decide +kernel
theorem dL_law_131 : decode cL_law 131 = .ok (.iload 5, 2) := by decide +kernel
theorem dL_law_133 : decode cL_law 133 = .ok (.iconst 1, 1) := by decide +kernel
theorem dL_law_134 : decode cL_law 134 = .ok (.iadd, 1) := by decide +kernel
theorem dL_law_135 : decode cL_law 135 = .ok (.iaload, 1) := by decide +kernel
theorem dL_law_136 : decode cL_law 136 = .ok (.aload_n 0, 1) := by decide +kernel
theorem dL_law_137 : decode cL_law 137 = .ok (.iload 5, 2) := by decide +kernel
theorem dL_law_139 : decode cL_law 139 = .ok (.iconst 2, 1) := by decide +kernel
theorem dL_law_140 : decode cL_law 140 = .ok (.iadd, 1) := by decide +kernel
theorem dL_law_141 : decode cL_law 141 = .ok (.iaload, 1) := by decide +kernel
theorem dL_law_142 : decode cL_law 142 = .ok (.aload_n 0, 1) := by decide +kernel
theorem dL_law_143 : decode cL_law 143 = .ok (.iload 5, 2) := by decide +kernel
theorem dL_law_145 : decode cL_law 145 = .ok (.iconst 3, 1) := by decide +kernel
theorem dL_law_146 : decode cL_law 146 = .ok (.iadd, 1) := by decide +kernel
theorem dL_law_147 : decode cL_law 147 = .ok (.iaload, 1) := by decide +kernel
theorem dL_law_148 : decode cL_law 148 = .ok (.invokevirtual 58, 3) := by decide +kernel
theorem dL_law_151 : decode cL_law 151 = .ok (.istore 7, 2) := by decide +kernel
theorem dL_law_153 : decode cL_law 153 = .ok (.aload_n 2, 1) := by decide +kernel
theorem dL_law_154 : decode cL_law 154 = .ok (.invokevirtual 59, 3) := by decide +kernel
theorem dL_law_157 : decode cL_law 157 = .ok (.iload 6, 2) := by decide +kernel
theorem dL_law_159 : decode cL_law 159 = .ok (.if_icmp .eq 5, 3) := by decide +kernel
theorem dL_law_162 : decode cL_law 162 = .ok (.iconst 0, 1) := by decide +kernel
theorem dL_law_163 : decode cL_law 163 = .ok (.ireturn, 1) := by decide +kernel
theorem dL_law_164 : decode cL_law 164 = .ok (.iload 6, 2) := by decide +kernel
theorem dL_law_166 : decode cL_law 166 = .ok (.ifCond .ne 15, 3) := by decide +kernel
theorem dL_law_169 : decode cL_law 169 = .ok (.aload_n 3, 1) := by decide +kernel
theorem dL_law_170 : decode cL_law 170 = .ok (.iconst 0, 1) := by decide +kernel
theorem dL_law_171 : decode cL_law 171 = .ok (.laload, 1) := by decide +kernel
theorem dL_law_172 : decode cL_law 172 = .ok (.iload 7, 2) := by decide +kernel
theorem dL_law_174 : decode cL_law 174 = .ok (.i2l, 1) := by decide +kernel
theorem dL_law_175 : decode cL_law 175 = .ok (.lcmp, 1) := by decide +kernel
theorem dL_law_176 : decode cL_law 176 = .ok (.ifCond .eq 5, 3) := by decide +kernel
theorem dL_law_179 : decode cL_law 179 = .ok (.iconst 0, 1) := by decide +kernel
theorem dL_law_180 : decode cL_law 180 = .ok (.ireturn, 1) := by decide +kernel
theorem dL_law_181 : decode cL_law 181 = .ok (.goto 483, 3) := by decide +kernel
theorem dL_law_184 : decode cL_law 184 = .ok (.aload_n 1, 1) := by decide +kernel
theorem dL_law_185 : decode cL_law 185 = .ok (.aload_n 0, 1) := by decide +kernel
theorem dL_law_186 : decode cL_law 186 = .ok (.iload 5, 2) := by decide +kernel
theorem dL_law_188 : decode cL_law 188 = .ok (.iconst 1, 1) := by decide +kernel
theorem dL_law_189 : decode cL_law 189 = .ok (.iadd, 1) := by decide +kernel
theorem dL_law_190 : decode cL_law 190 = .ok (.iaload, 1) := by decide +kernel
theorem dL_law_191 : decode cL_law 191 = .ok (.aload_n 3, 1) := by decide +kernel
theorem dL_law_192 : decode cL_law 192 = .ok (.invokestatic 63, 3) := by decide +kernel
theorem dL_law_195 : decode cL_law 195 = .ok (.istore 6, 2) := by decide +kernel
theorem dL_law_197 : decode cL_law 197 = .ok (.aload_n 2, 1) := by decide +kernel
theorem dL_law_198 : decode cL_law 198 = .ok (.aload_n 0, 1) := by decide +kernel
theorem dL_law_199 : decode cL_law 199 = .ok (.iload 5, 2) := by decide +kernel
theorem dL_law_201 : decode cL_law 201 = .ok (.iconst 1, 1) := by decide +kernel
theorem dL_law_202 : decode cL_law 202 = .ok (.iadd, 1) := by decide +kernel
theorem dL_law_203 : decode cL_law 203 = .ok (.iaload, 1) := by decide +kernel
theorem dL_law_204 : decode cL_law 204 = .ok (.invokevirtual 66, 3) := by decide +kernel
theorem dL_law_207 : decode cL_law 207 = .ok (.istore 7, 2) := by decide +kernel
theorem dL_law_209 : decode cL_law 209 = .ok (.aload_n 2, 1) := by decide +kernel
theorem dL_law_210 : decode cL_law 210 = .ok (.invokevirtual 59, 3) := by decide +kernel
theorem dL_law_213 : decode cL_law 213 = .ok (.iload 6, 2) := by decide +kernel
theorem dL_law_215 : decode cL_law 215 = .ok (.if_icmp .eq 5, 3) := by decide +kernel
theorem dL_law_218 : decode cL_law 218 = .ok (.iconst 0, 1) := by decide +kernel
theorem dL_law_219 : decode cL_law 219 = .ok (.ireturn, 1) := by decide +kernel
theorem dL_law_220 : decode cL_law 220 = .ok (.iload 6, 2) := by decide +kernel
theorem dL_law_222 : decode cL_law 222 = .ok (.ifCond .ne 15, 3) := by decide +kernel
theorem dL_law_225 : decode cL_law 225 = .ok (.aload_n 3, 1) := by decide +kernel
theorem dL_law_226 : decode cL_law 226 = .ok (.iconst 0, 1) := by decide +kernel
theorem dL_law_227 : decode cL_law 227 = .ok (.laload, 1) := by decide +kernel
theorem dL_law_228 : decode cL_law 228 = .ok (.iload 7, 2) := by decide +kernel
theorem dL_law_230 : decode cL_law 230 = .ok (.i2l, 1) := by decide +kernel
theorem dL_law_231 : decode cL_law 231 = .ok (.lcmp, 1) := by decide +kernel
theorem dL_law_232 : decode cL_law 232 = .ok (.ifCond .eq 5, 3) := by decide +kernel
theorem dL_law_235 : decode cL_law 235 = .ok (.iconst 0, 1) := by decide +kernel
theorem dL_law_236 : decode cL_law 236 = .ok (.ireturn, 1) := by decide +kernel
theorem dL_law_237 : decode cL_law 237 = .ok (.goto 427, 3) := by decide +kernel
theorem dL_law_240 : decode cL_law 240 = .ok (.aload_n 1, 1) := by decide +kernel
theorem dL_law_241 : decode cL_law 241 = .ok (.aload_n 0, 1) := by decide +kernel
theorem dL_law_242 : decode cL_law 242 = .ok (.iload 5, 2) := by decide +kernel
theorem dL_law_244 : decode cL_law 244 = .ok (.iconst 1, 1) := by decide +kernel
theorem dL_law_245 : decode cL_law 245 = .ok (.iadd, 1) := by decide +kernel
theorem dL_law_246 : decode cL_law 246 = .ok (.iaload, 1) := by decide +kernel
theorem dL_law_247 : decode cL_law 247 = .ok (.aload_n 3, 1) := by decide +kernel
theorem dL_law_248 : decode cL_law 248 = .ok (.invokestatic 67, 3) := by decide +kernel
theorem dL_law_251 : decode cL_law 251 = .ok (.istore 6, 2) := by decide +kernel
theorem dL_law_253 : decode cL_law 253 = .ok (.aload_n 2, 1) := by decide +kernel
theorem dL_law_254 : decode cL_law 254 = .ok (.aload_n 0, 1) := by decide +kernel
theorem dL_law_255 : decode cL_law 255 = .ok (.iload 5, 2) := by decide +kernel
theorem dL_law_257 : decode cL_law 257 = .ok (.iconst 1, 1) := by decide +kernel
theorem dL_law_258 : decode cL_law 258 = .ok (.iadd, 1) := by decide +kernel
theorem dL_law_259 : decode cL_law 259 = .ok (.iaload, 1) := by decide +kernel
theorem dL_law_260 : decode cL_law 260 = .ok (.invokevirtual 69, 3) := by decide +kernel
theorem dL_law_263 : decode cL_law 263 = .ok (.istore 7, 2) := by decide +kernel
theorem dL_law_265 : decode cL_law 265 = .ok (.aload_n 2, 1) := by decide +kernel
theorem dL_law_266 : decode cL_law 266 = .ok (.invokevirtual 59, 3) := by decide +kernel
theorem dL_law_269 : decode cL_law 269 = .ok (.iload 6, 2) := by decide +kernel
theorem dL_law_271 : decode cL_law 271 = .ok (.if_icmp .eq 5, 3) := by decide +kernel
theorem dL_law_274 : decode cL_law 274 = .ok (.iconst 0, 1) := by decide +kernel
theorem dL_law_275 : decode cL_law 275 = .ok (.ireturn, 1) := by decide +kernel
theorem dL_law_276 : decode cL_law 276 = .ok (.iload 6, 2) := by decide +kernel
theorem dL_law_278 : decode cL_law 278 = .ok (.ifCond .ne 15, 3) := by decide +kernel
theorem dL_law_281 : decode cL_law 281 = .ok (.aload_n 3, 1) := by decide +kernel
theorem dL_law_282 : decode cL_law 282 = .ok (.iconst 0, 1) := by decide +kernel
theorem dL_law_283 : decode cL_law 283 = .ok (.laload, 1) := by decide +kernel
theorem dL_law_284 : decode cL_law 284 = .ok (.iload 7, 2) := by decide +kernel
theorem dL_law_286 : decode cL_law 286 = .ok (.i2l, 1) := by decide +kernel
theorem dL_law_287 : decode cL_law 287 = .ok (.lcmp, 1) := by decide +kernel
theorem dL_law_288 : decode cL_law 288 = .ok (.ifCond .eq 5, 3) := by decide +kernel
theorem dL_law_291 : decode cL_law 291 = .ok (.iconst 0, 1) := by decide +kernel
theorem dL_law_292 : decode cL_law 292 = .ok (.ireturn, 1) := by decide +kernel
theorem dL_law_293 : decode cL_law 293 = .ok (.goto 371, 3) := by decide +kernel
theorem dL_law_296 : decode cL_law 296 = .ok (.aload_n 1, 1) := by decide +kernel
theorem dL_law_297 : decode cL_law 297 = .ok (.aload_n 0, 1) := by decide +kernel
theorem dL_law_298 : decode cL_law 298 = .ok (.iload 5, 2) := by decide +kernel
theorem dL_law_300 : decode cL_law 300 = .ok (.iconst 1, 1) := by decide +kernel
theorem dL_law_301 : decode cL_law 301 = .ok (.iadd, 1) := by decide +kernel
theorem dL_law_302 : decode cL_law 302 = .ok (.iaload, 1) := by decide +kernel
theorem dL_law_303 : decode cL_law 303 = .ok (.aload_n 3, 1) := by decide +kernel
theorem dL_law_304 : decode cL_law 304 = .ok (.invokestatic 70, 3) := by decide +kernel
theorem dL_law_307 : decode cL_law 307 = .ok (.istore 6, 2) := by decide +kernel
end
section
theorem dL_law_309 : decode cL_law 309 = .ok (.aload_n 2, 1) := by decide +kernel
theorem dL_law_310 : decode cL_law 310 = .ok (.aload_n 0, 1) := by decide +kernel
theorem dL_law_311 : decode cL_law 311 = .ok (.iload 5, 2) := by decide +kernel
theorem dL_law_313 : decode cL_law 313 = .ok (.iconst 1, 1) := by decide +kernel
theorem dL_law_314 : decode cL_law 314 = .ok (.iadd, 1) := by decide +kernel
theorem dL_law_315 : decode cL_law 315 = .ok (.iaload, 1) := by decide +kernel
theorem dL_law_316 : decode cL_law 316 = .ok (.invokevirtual 72, 3) := by decide +kernel
theorem dL_law_319 : decode cL_law 319 = .ok (.istore 7, 2) := by decide +kernel
theorem dL_law_321 : decode cL_law 321 = .ok (.aload_n 2, 1) := by decide +kernel
theorem dL_law_322 : decode cL_law 322 = .ok (.invokevirtual 59, 3) := by decide +kernel
theorem dL_law_325 : decode cL_law 325 = .ok (.iload 6, 2) := by decide +kernel
theorem dL_law_327 : decode cL_law 327 = .ok (.if_icmp .eq 5, 3) := by decide +kernel
theorem dL_law_330 : decode cL_law 330 = .ok (.iconst 0, 1) := by decide +kernel
theorem dL_law_331 : decode cL_law 331 = .ok (.ireturn, 1) := by decide +kernel
theorem dL_law_332 : decode cL_law 332 = .ok (.iload 6, 2) := by decide +kernel
theorem dL_law_334 : decode cL_law 334 = .ok (.ifCond .ne 15, 3) := by decide +kernel
theorem dL_law_337 : decode cL_law 337 = .ok (.aload_n 3, 1) := by decide +kernel
theorem dL_law_338 : decode cL_law 338 = .ok (.iconst 0, 1) := by decide +kernel
theorem dL_law_339 : decode cL_law 339 = .ok (.laload, 1) := by decide +kernel
theorem dL_law_340 : decode cL_law 340 = .ok (.iload 7, 2) := by decide +kernel
theorem dL_law_342 : decode cL_law 342 = .ok (.i2l, 1) := by decide +kernel
theorem dL_law_343 : decode cL_law 343 = .ok (.lcmp, 1) := by decide +kernel
theorem dL_law_344 : decode cL_law 344 = .ok (.ifCond .eq 5, 3) := by decide +kernel
theorem dL_law_347 : decode cL_law 347 = .ok (.iconst 0, 1) := by decide +kernel
theorem dL_law_348 : decode cL_law 348 = .ok (.ireturn, 1) := by decide +kernel
theorem dL_law_349 : decode cL_law 349 = .ok (.goto 315, 3) := by decide +kernel
theorem dL_law_352 : decode cL_law 352 = .ok (.aload_n 1, 1) := by decide +kernel
theorem dL_law_353 : decode cL_law 353 = .ok (.aload 4, 2) := by decide +kernel
theorem dL_law_355 : decode cL_law 355 = .ok (.invokestatic 73, 3) := by decide +kernel
theorem dL_law_358 : decode cL_law 358 = .ok (.istore 6, 2) := by decide +kernel
theorem dL_law_360 : decode cL_law 360 = .ok (.aload_n 2, 1) := by decide +kernel
theorem dL_law_361 : decode cL_law 361 = .ok (.invokevirtual 76, 3) := by decide +kernel
theorem dL_law_364 : decode cL_law 364 = .ok (.fstore 7, 2) := by decide +kernel
theorem dL_law_366 : decode cL_law 366 = .ok (.aload_n 2, 1) := by decide +kernel
theorem dL_law_367 : decode cL_law 367 = .ok (.invokevirtual 59, 3) := by decide +kernel
theorem dL_law_370 : decode cL_law 370 = .ok (.iload 6, 2) := by decide +kernel
theorem dL_law_372 : decode cL_law 372 = .ok (.if_icmp .eq 5, 3) := by decide +kernel
theorem dL_law_375 : decode cL_law 375 = .ok (.iconst 0, 1) := by decide +kernel
theorem dL_law_376 : decode cL_law 376 = .ok (.ireturn, 1) := by decide +kernel
theorem dL_law_377 : decode cL_law 377 = .ok (.iload 6, 2) := by decide +kernel
theorem dL_law_379 : decode cL_law 379 = .ok (.ifCond .ne 36, 3) := by decide +kernel
theorem dL_law_382 : decode cL_law 382 = .ok (.aload 4, 2) := by decide +kernel
theorem dL_law_384 : decode cL_law 384 = .ok (.iconst 0, 1) := by decide +kernel
theorem dL_law_385 : decode cL_law 385 = .ok (.daload, 1) := by decide +kernel
theorem dL_law_386 : decode cL_law 386 = .ok (.fload 7, 2) := by decide +kernel
theorem dL_law_388 : decode cL_law 388 = .ok (.f2d, 1) := by decide +kernel
theorem dL_law_389 : decode cL_law 389 = .ok (.dcmp .l, 1) := by decide +kernel
theorem dL_law_390 : decode cL_law 390 = .ok (.ifCond .eq 25, 3) := by decide +kernel
theorem dL_law_393 : decode cL_law 393 = .ok (.aload 4, 2) := by decide +kernel
theorem dL_law_395 : decode cL_law 395 = .ok (.iconst 0, 1) := by decide +kernel
theorem dL_law_396 : decode cL_law 396 = .ok (.daload, 1) := by decide +kernel
theorem dL_law_397 : decode cL_law 397 = .ok (.aload 4, 2) := by decide +kernel
theorem dL_law_399 : decode cL_law 399 = .ok (.iconst 0, 1) := by decide +kernel
theorem dL_law_400 : decode cL_law 400 = .ok (.daload, 1) := by decide +kernel
theorem dL_law_401 : decode cL_law 401 = .ok (.dcmp .l, 1) := by decide +kernel
theorem dL_law_402 : decode cL_law 402 = .ok (.ifCond .eq 11, 3) := by decide +kernel
theorem dL_law_405 : decode cL_law 405 = .ok (.fload 7, 2) := by decide +kernel
theorem dL_law_407 : decode cL_law 407 = .ok (.fload 7, 2) := by decide +kernel
theorem dL_law_409 : decode cL_law 409 = .ok (.fcmp .l, 1) := by decide +kernel
theorem dL_law_410 : decode cL_law 410 = .ok (.ifCond .ne 5, 3) := by decide +kernel
theorem dL_law_413 : decode cL_law 413 = .ok (.iconst 0, 1) := by decide +kernel
theorem dL_law_414 : decode cL_law 414 = .ok (.ireturn, 1) := by decide +kernel
theorem dL_law_415 : decode cL_law 415 = .ok (.goto 249, 3) := by decide +kernel
theorem dL_law_418 : decode cL_law 418 = .ok (.aload_n 1, 1) := by decide +kernel
theorem dL_law_419 : decode cL_law 419 = .ok (.aload_n 0, 1) := by decide +kernel
theorem dL_law_420 : decode cL_law 420 = .ok (.iload 5, 2) := by decide +kernel
theorem dL_law_422 : decode cL_law 422 = .ok (.iconst 1, 1) := by decide +kernel
theorem dL_law_423 : decode cL_law 423 = .ok (.iadd, 1) := by decide +kernel
theorem dL_law_424 : decode cL_law 424 = .ok (.iaload, 1) := by decide +kernel
theorem dL_law_425 : decode cL_law 425 = .ok (.aload_n 3, 1) := by decide +kernel
theorem dL_law_426 : decode cL_law 426 = .ok (.invokestatic 77, 3) := by decide +kernel
theorem dL_law_429 : decode cL_law 429 = .ok (.istore 6, 2) := by decide +kernel
theorem dL_law_431 : decode cL_law 431 = .ok (.aload_n 2, 1) := by decide +kernel
theorem dL_law_432 : decode cL_law 432 = .ok (.aload_n 0, 1) := by decide +kernel
theorem dL_law_433 : decode cL_law 433 = .ok (.iload 5, 2) := by decide +kernel
theorem dL_law_435 : decode cL_law 435 = .ok (.iconst 1, 1) := by decide +kernel
theorem dL_law_436 : decode cL_law 436 = .ok (.iadd, 1) := by decide +kernel
theorem dL_law_437 : decode cL_law 437 = .ok (.iaload, 1) := by decide +kernel
theorem dL_law_438 : decode cL_law 438 = .ok (.invokevirtual 79, 3) := by decide +kernel
theorem dL_law_441 : decode cL_law 441 = .ok (.istore 7, 2) := by decide +kernel
theorem dL_law_443 : decode cL_law 443 = .ok (.aload_n 2, 1) := by decide +kernel
theorem dL_law_444 : decode cL_law 444 = .ok (.invokevirtual 59, 3) := by decide +kernel
theorem dL_law_447 : decode cL_law 447 = .ok (.iload 6, 2) := by decide +kernel
theorem dL_law_449 : decode cL_law 449 = .ok (.if_icmp .eq 5, 3) := by decide +kernel
theorem dL_law_452 : decode cL_law 452 = .ok (.iconst 0, 1) := by decide +kernel
theorem dL_law_453 : decode cL_law 453 = .ok (.ireturn, 1) := by decide +kernel
theorem dL_law_454 : decode cL_law 454 = .ok (.iload 6, 2) := by decide +kernel
theorem dL_law_456 : decode cL_law 456 = .ok (.ifCond .ne 15, 3) := by decide +kernel
theorem dL_law_459 : decode cL_law 459 = .ok (.aload_n 3, 1) := by decide +kernel
theorem dL_law_460 : decode cL_law 460 = .ok (.iconst 0, 1) := by decide +kernel
theorem dL_law_461 : decode cL_law 461 = .ok (.laload, 1) := by decide +kernel
theorem dL_law_462 : decode cL_law 462 = .ok (.iload 7, 2) := by decide +kernel
theorem dL_law_464 : decode cL_law 464 = .ok (.i2l, 1) := by decide +kernel
theorem dL_law_465 : decode cL_law 465 = .ok (.lcmp, 1) := by decide +kernel
theorem dL_law_466 : decode cL_law 466 = .ok (.ifCond .eq 5, 3) := by decide +kernel
theorem dL_law_469 : decode cL_law 469 = .ok (.iconst 0, 1) := by decide +kernel
theorem dL_law_470 : decode cL_law 470 = .ok (.ireturn, 1) := by decide +kernel
theorem dL_law_471 : decode cL_law 471 = .ok (.goto 193, 3) := by decide +kernel
theorem dL_law_474 : decode cL_law 474 = .ok (.aload_n 1, 1) := by decide +kernel
theorem dL_law_475 : decode cL_law 475 = .ok (.aload_n 0, 1) := by decide +kernel
theorem dL_law_476 : decode cL_law 476 = .ok (.iload 5, 2) := by decide +kernel
theorem dL_law_478 : decode cL_law 478 = .ok (.iconst 1, 1) := by decide +kernel
theorem dL_law_479 : decode cL_law 479 = .ok (.iadd, 1) := by decide +kernel
theorem dL_law_480 : decode cL_law 480 = .ok (.iaload, 1) := by decide +kernel
theorem dL_law_481 : decode cL_law 481 = .ok (.aload_n 3, 1) := by decide +kernel
theorem dL_law_482 : decode cL_law 482 = .ok (.invokestatic 80, 3) := by decide +kernel
theorem dL_law_485 : decode cL_law 485 = .ok (.istore 6, 2) := by decide +kernel
theorem dL_law_487 : decode cL_law 487 = .ok (.aload_n 2, 1) := by decide +kernel
theorem dL_law_488 : decode cL_law 488 = .ok (.aload_n 0, 1) := by decide +kernel
theorem dL_law_489 : decode cL_law 489 = .ok (.iload 5, 2) := by decide +kernel
theorem dL_law_491 : decode cL_law 491 = .ok (.iconst 1, 1) := by decide +kernel
theorem dL_law_492 : decode cL_law 492 = .ok (.iadd, 1) := by decide +kernel
theorem dL_law_493 : decode cL_law 493 = .ok (.iaload, 1) := by decide +kernel
theorem dL_law_494 : decode cL_law 494 = .ok (.invokevirtual 82, 3) := by decide +kernel
theorem dL_law_497 : decode cL_law 497 = .ok (.istore 7, 2) := by decide +kernel
theorem dL_law_499 : decode cL_law 499 = .ok (.aload_n 2, 1) := by decide +kernel
theorem dL_law_500 : decode cL_law 500 = .ok (.invokevirtual 59, 3) := by decide +kernel
theorem dL_law_503 : decode cL_law 503 = .ok (.iload 6, 2) := by decide +kernel
theorem dL_law_505 : decode cL_law 505 = .ok (.if_icmp .eq 5, 3) := by decide +kernel
theorem dL_law_508 : decode cL_law 508 = .ok (.iconst 0, 1) := by decide +kernel
theorem dL_law_509 : decode cL_law 509 = .ok (.ireturn, 1) := by decide +kernel
theorem dL_law_510 : decode cL_law 510 = .ok (.iload 6, 2) := by decide +kernel
theorem dL_law_512 : decode cL_law 512 = .ok (.ifCond .ne 15, 3) := by decide +kernel
theorem dL_law_515 : decode cL_law 515 = .ok (.aload_n 3, 1) := by decide +kernel
theorem dL_law_516 : decode cL_law 516 = .ok (.iconst 0, 1) := by decide +kernel
theorem dL_law_517 : decode cL_law 517 = .ok (.laload, 1) := by decide +kernel
theorem dL_law_518 : decode cL_law 518 = .ok (.iload 7, 2) := by decide +kernel
theorem dL_law_520 : decode cL_law 520 = .ok (.i2l, 1) := by decide +kernel
theorem dL_law_521 : decode cL_law 521 = .ok (.lcmp, 1) := by decide +kernel
theorem dL_law_522 : decode cL_law 522 = .ok (.ifCond .eq 5, 3) := by decide +kernel
theorem dL_law_525 : decode cL_law 525 = .ok (.iconst 0, 1) := by decide +kernel
theorem dL_law_526 : decode cL_law 526 = .ok (.ireturn, 1) := by decide +kernel
theorem dL_law_527 : decode cL_law 527 = .ok (.goto 137, 3) := by decide +kernel
theorem dL_law_530 : decode cL_law 530 = .ok (.aload_n 1, 1) := by decide +kernel
theorem dL_law_531 : decode cL_law 531 = .ok (.aload_n 0, 1) := by decide +kernel
theorem dL_law_532 : decode cL_law 532 = .ok (.iload 5, 2) := by decide +kernel
theorem dL_law_534 : decode cL_law 534 = .ok (.iconst 1, 1) := by decide +kernel
theorem dL_law_535 : decode cL_law 535 = .ok (.iadd, 1) := by decide +kernel
theorem dL_law_536 : decode cL_law 536 = .ok (.iaload, 1) := by decide +kernel
theorem dL_law_537 : decode cL_law 537 = .ok (.aload_n 0, 1) := by decide +kernel
theorem dL_law_538 : decode cL_law 538 = .ok (.iload 5, 2) := by decide +kernel
theorem dL_law_540 : decode cL_law 540 = .ok (.iconst 2, 1) := by decide +kernel
theorem dL_law_541 : decode cL_law 541 = .ok (.iadd, 1) := by decide +kernel
theorem dL_law_542 : decode cL_law 542 = .ok (.iaload, 1) := by decide +kernel
theorem dL_law_543 : decode cL_law 543 = .ok (.aload_n 3, 1) := by decide +kernel
theorem dL_law_544 : decode cL_law 544 = .ok (.invokestatic 83, 3) := by decide +kernel
theorem dL_law_547 : decode cL_law 547 = .ok (.istore 6, 2) := by decide +kernel
theorem dL_law_549 : decode cL_law 549 = .ok (.aload_n 2, 1) := by decide +kernel
theorem dL_law_550 : decode cL_law 550 = .ok (.aload_n 0, 1) := by decide +kernel
theorem dL_law_551 : decode cL_law 551 = .ok (.iload 5, 2) := by decide +kernel
theorem dL_law_553 : decode cL_law 553 = .ok (.iconst 1, 1) := by decide +kernel
theorem dL_law_554 : decode cL_law 554 = .ok (.iadd, 1) := by decide +kernel
theorem dL_law_555 : decode cL_law 555 = .ok (.iaload, 1) := by decide +kernel
theorem dL_law_556 : decode cL_law 556 = .ok (.aload_n 0, 1) := by decide +kernel
theorem dL_law_557 : decode cL_law 557 = .ok (.iload 5, 2) := by decide +kernel
theorem dL_law_559 : decode cL_law 559 = .ok (.iconst 2, 1) := by decide +kernel
theorem dL_law_560 : decode cL_law 560 = .ok (.iadd, 1) := by decide +kernel
theorem dL_law_561 : decode cL_law 561 = .ok (.iaload, 1) := by decide +kernel
theorem dL_law_562 : decode cL_law 562 = .ok (.invokevirtual 86, 3) := by decide +kernel
theorem dL_law_565 : decode cL_law 565 = .ok (.istore 7, 2) := by decide +kernel
theorem dL_law_567 : decode cL_law 567 = .ok (.aload_n 2, 1) := by decide +kernel
theorem dL_law_568 : decode cL_law 568 = .ok (.invokevirtual 59, 3) := by decide +kernel
theorem dL_law_571 : decode cL_law 571 = .ok (.iload 6, 2) := by decide +kernel
theorem dL_law_573 : decode cL_law 573 = .ok (.if_icmp .eq 5, 3) := by decide +kernel
theorem dL_law_576 : decode cL_law 576 = .ok (.iconst 0, 1) := by decide +kernel
theorem dL_law_577 : decode cL_law 577 = .ok (.ireturn, 1) := by decide +kernel
theorem dL_law_578 : decode cL_law 578 = .ok (.iload 6, 2) := by decide +kernel
theorem dL_law_580 : decode cL_law 580 = .ok (.ifCond .ne 15, 3) := by decide +kernel
theorem dL_law_583 : decode cL_law 583 = .ok (.aload_n 3, 1) := by decide +kernel
theorem dL_law_584 : decode cL_law 584 = .ok (.iconst 0, 1) := by decide +kernel
theorem dL_law_585 : decode cL_law 585 = .ok (.laload, 1) := by decide +kernel
theorem dL_law_586 : decode cL_law 586 = .ok (.iload 7, 2) := by decide +kernel
theorem dL_law_588 : decode cL_law 588 = .ok (.i2l, 1) := by decide +kernel
theorem dL_law_589 : decode cL_law 589 = .ok (.lcmp, 1) := by decide +kernel
theorem dL_law_590 : decode cL_law 590 = .ok (.ifCond .eq 5, 3) := by decide +kernel
theorem dL_law_593 : decode cL_law 593 = .ok (.iconst 0, 1) := by decide +kernel
theorem dL_law_594 : decode cL_law 594 = .ok (.ireturn, 1) := by decide +kernel
theorem dL_law_595 : decode cL_law 595 = .ok (.goto 69, 3) := by decide +kernel
theorem dL_law_598 : decode cL_law 598 = .ok (.aload_n 1, 1) := by decide +kernel
theorem dL_law_599 : decode cL_law 599 = .ok (.aload 4, 2) := by decide +kernel
theorem dL_law_601 : decode cL_law 601 = .ok (.invokestatic 87, 3) := by decide +kernel
theorem dL_law_604 : decode cL_law 604 = .ok (.istore 6, 2) := by decide +kernel
theorem dL_law_606 : decode cL_law 606 = .ok (.aload_n 2, 1) := by decide +kernel
theorem dL_law_607 : decode cL_law 607 = .ok (.invokevirtual 89, 3) := by decide +kernel
theorem dL_law_610 : decode cL_law 610 = .ok (.fstore 7, 2) := by decide +kernel
theorem dL_law_612 : decode cL_law 612 = .ok (.aload_n 2, 1) := by decide +kernel
theorem dL_law_613 : decode cL_law 613 = .ok (.invokevirtual 59, 3) := by decide +kernel
theorem dL_law_616 : decode cL_law 616 = .ok (.iload 6, 2) := by decide +kernel
theorem dL_law_618 : decode cL_law 618 = .ok (.if_icmp .eq 5, 3) := by decide +kernel
theorem dL_law_621 : decode cL_law 621 = .ok (.iconst 0, 1) := by decide +kernel
theorem dL_law_622 : decode cL_law 622 = .ok (.ireturn, 1) := by decide +kernel
theorem dL_law_623 : decode cL_law 623 = .ok (.iload 6, 2) := by decide +kernel
theorem dL_law_625 : decode cL_law 625 = .ok (.ifCond .ne 36, 3) := by decide +kernel
theorem dL_law_628 : decode cL_law 628 = .ok (.aload 4, 2) := by decide +kernel
theorem dL_law_630 : decode cL_law 630 = .ok (.iconst 0, 1) := by decide +kernel
theorem dL_law_631 : decode cL_law 631 = .ok (.daload, 1) := by decide +kernel
theorem dL_law_632 : decode cL_law 632 = .ok (.fload 7, 2) := by decide +kernel
theorem dL_law_634 : decode cL_law 634 = .ok (.f2d, 1) := by decide +kernel
theorem dL_law_635 : decode cL_law 635 = .ok (.dcmp .l, 1) := by decide +kernel
theorem dL_law_636 : decode cL_law 636 = .ok (.ifCond .eq 25, 3) := by decide +kernel
theorem dL_law_639 : decode cL_law 639 = .ok (.aload 4, 2) := by decide +kernel
theorem dL_law_641 : decode cL_law 641 = .ok (.iconst 0, 1) := by decide +kernel
theorem dL_law_642 : decode cL_law 642 = .ok (.daload, 1) := by decide +kernel
theorem dL_law_643 : decode cL_law 643 = .ok (.aload 4, 2) := by decide +kernel
theorem dL_law_645 : decode cL_law 645 = .ok (.iconst 0, 1) := by decide +kernel
theorem dL_law_646 : decode cL_law 646 = .ok (.daload, 1) := by decide +kernel
theorem dL_law_647 : decode cL_law 647 = .ok (.dcmp .l, 1) := by decide +kernel
theorem dL_law_648 : decode cL_law 648 = .ok (.ifCond .eq 11, 3) := by decide +kernel
theorem dL_law_651 : decode cL_law 651 = .ok (.fload 7, 2) := by decide +kernel
theorem dL_law_653 : decode cL_law 653 = .ok (.fload 7, 2) := by decide +kernel
theorem dL_law_655 : decode cL_law 655 = .ok (.fcmp .l, 1) := by decide +kernel
theorem dL_law_656 : decode cL_law 656 = .ok (.ifCond .ne 5, 3) := by decide +kernel
theorem dL_law_659 : decode cL_law 659 = .ok (.iconst 0, 1) := by decide +kernel
theorem dL_law_660 : decode cL_law 660 = .ok (.ireturn, 1) := by decide +kernel
theorem dL_law_661 : decode cL_law 661 = .ok (.goto 3, 3) := by decide +kernel
theorem dL_law_664 : decode cL_law 664 = .ok (.iinc 5 4, 3) := by decide +kernel
theorem dL_law_667 : decode cL_law 667 = .ok (.goto (-629), 3) := by decide +kernel
theorem dL_law_670 : decode cL_law 670 = .ok (.iconst 1, 1) := by decide +kernel
theorem dL_law_671 : decode cL_law 671 = .ok (.ireturn, 1) := by decide +kernel
abbrev vwCl : List vw_C := [(RX0, TX0, 2), (RX1, TX1, 18), (RX2, TX2, 16), (RX3, TX3, 4), (RX4, TX4, 28)]
end
section
/-! NUMBERS: an Int32 by its whole number, an array of ints by a function of whole numbers; rows of instructions over them. -/
def iI (z : Int) : Int32 := Int32.ofInt z
theorem iI_add (a b : Int) : iI a + iI b = iI (a + b) := (Int32.ofInt_add a b).symm
theorem iI_sub (a b : Int) : iI a - iI b = iI (a - b) := (Int32.ofInt_sub a b).symm
theorem iI_mul (a b : Int) : iI a * iI b = iI (a * b) := (Int32.ofInt_mul a b).symm
theorem iI_neg (a : Int) : -iI a = iI (-a) := (Int32.ofInt_neg a).symm
theorem iI_T {z : Int} (h : -2147483648 ≤ z ∧ z < 2147483648) : (iI z).toInt = z := Int32.toInt_ofInt_of_le (by omega) (by omega)
theorem iI_of (x : Int32) : x = iI x.toInt := (Int32.ofInt_toInt x).symm
theorem iI_rg (x : Int32) : -2147483648 ≤ x.toInt ∧ x.toInt < 2147483648 := by
  have h1 := Int32.le_toInt x
  have h2 := Int32.toInt_lt x
  omega
theorem iI_n (n : Nat) : Int32.ofNat n = iI n := Int32.ofInt_eq_ofNat.symm
theorem iI_0 : (0 : Int32) = iI 0 := rfl
theorem iI_lt {a b : Int} (ha : -2147483648 ≤ a ∧ a < 2147483648) (hb : -2147483648 ≤ b ∧ b < 2147483648) : iI a < iI b ↔ a < b := by rw [Int32.lt_iff_toInt_lt, iI_T ha, iI_T hb]
theorem iI_le {a b : Int} (ha : -2147483648 ≤ a ∧ a < 2147483648) (hb : -2147483648 ≤ b ∧ b < 2147483648) : iI a ≤ iI b ↔ a ≤ b := by rw [Int32.le_iff_toInt_le, iI_T ha, iI_T hb]
theorem iI_eq {a b : Int} (ha : -2147483648 ≤ a ∧ a < 2147483648) (hb : -2147483648 ≤ b ∧ b < 2147483648) : iI a = iI b ↔ a = b := ⟨fun h => by rw [← iI_T ha, h, iI_T hb], fun h => by rw [h]⟩
theorem iI_cl {a : Int} (h : 0 ≤ a ∧ a < 2147483648) : (iI a).toNatClampNeg = a.toNat := by
  show (iI a).toInt.toNat = a.toNat
  rw [iI_T (by omega)]
theorem iI_in {a : Int} {n : Nat} (h : 0 ≤ a ∧ a < (n : Int)) (hn : n < 2147483648) : vp_in (iI a) n := vp_in_iff.mpr (by rw [iI_T (by omega)]; exact h)
theorem iI_nI (n : Nat) : iI n = nI n := Int32.ofInt_eq_ofNat
theorem iI_nn {a : Int} (h : 0 ≤ a) : iI a = nI a.toNat := by
  rw [← iI_nI, Int.toNat_of_nonneg h]
theorem iI_and {a : Int} (h : 0 ≤ a ∧ a < 2147483648) {m : Int32} (k : Nat) (hm : m.toBitVec.toNat = 2 ^ k - 1) : iI a &&& m = iI (a % 2 ^ k) := by
  obtain ⟨n, rfl⟩ := Int.eq_ofNat_of_zero_le h.1
  rw [iI_nI, pk_andN (by omega) k hm, ← iI_nI]
  congr 1
theorem iI_b2 : ∀ n : Fin 16, iI (n.val : Int) &&& iI 2 = iI (2 * ((n.val : Int) / 2 % 2)) := by decide
theorem iI_and2 {a : Int} (h : 0 ≤ a ∧ a < 16) : iI a &&& iI 2 = iI (2 * (a / 2 % 2)) := by
  obtain ⟨n, rfl⟩ := Int.eq_ofNat_of_zero_le h.1
  exact iI_b2 ⟨n, by omega⟩
theorem iI_shr {a : Int} (h : -2147483648 ≤ a ∧ a < 2147483648) (s : Int32) (k : Nat) (hs : (s.toBitVec.smod 32).toNat = k) : iI a >>> s = iI (a / 2 ^ k) := by
  have h2 : -2147483648 ≤ a / 2 ^ k ∧ a / 2 ^ k < 2147483648 := by
    have hp : (0 : Int) < 2 ^ k := Int.pow_pos (by decide)
    have h1 : (1 : Int) ≤ 2 ^ k := hp
    constructor
    · rw [Int.le_ediv_iff_mul_le hp]
      have : (-2147483648 : Int) * 2 ^ k ≤ (-2147483648) * 1 := Int.mul_le_mul_of_nonpos_left (by decide) h1
      omega
    · rw [Int.ediv_lt_iff_lt_mul hp]
      have : (2147483648 : Int) * 1 ≤ 2147483648 * 2 ^ k := Int.mul_le_mul_of_nonneg_left h1 (by decide)
      omega
  apply Int32.toInt_inj.mp
  rw [pk_shr _ _ k hs, iI_T h, iI_T h2, Int.shiftRight_eq_div_pow]
  congr 1
theorem iI_div {a b : Int} (h : 0 ≤ a ∧ a < 2147483648) (h0 : 0 < b ∧ b < 2147483648) : iI a / iI b = iI (a / b) := by
  obtain ⟨n, rfl⟩ := Int.eq_ofNat_of_zero_le h.1
  obtain ⟨m, rfl⟩ := Int.eq_ofNat_of_zero_le (Int.le_of_lt h0.1)
  rw [iI_nI, iI_nI, pk_div (by omega) (by omega) (by omega), ← iI_nI]
  congr 1
/-- an array's contents -/
def iF (F : Int → Int) : Nat → Int32 := fun j => iI (F j)
def up {α : Type} (F : Int → α) (i : Int) (x : α) : Int → α := fun j => if j = i then x else F j
theorem up_s {α : Type} {F : Int → α} {i : Int} {x : α} : up F i x i = x := by simp [up]
theorem up_n {α : Type} {F : Int → α} {i j : Int} {x : α} (h : j ≠ i) : up F i x j = F j := by simp [up, h]
theorem iF_rd {F : Int → Int} {i : Int} (h : 0 ≤ i ∧ i < 2147483648) : iF F (iI i).toNatClampNeg = iI (F i) := by
  rw [iI_cl h]
  show iI (F (i.toNat : Int)) = _
  rw [Int.toNat_of_nonneg h.1]
theorem iF_wr {F : Int → Int} {i x : Int} (h : 0 ≤ i ∧ i < 2147483648) : upd (iF F) (iI i).toNatClampNeg (iI x) = iF (up F i x) := by
  rw [iI_cl h]
  funext j
  show (if j = i.toNat then iI x else iI (F j)) = iI (if (j : Int) = i then x else F j)
  by_cases hj : j = i.toNat
  · rw [if_pos hj, if_pos (by omega)]
  · rw [if_neg hj, if_neg (by omega)]
theorem iF_0 : (fun _ : Nat => (0 : Int32)) = iF (fun _ => 0) := rfl
section RI
variable {p : Program} {l : Launch} {e : Env} {R : Room} {s : State} {m : MethodId} {args : Array Value} {below : List Frame} {meth : Method} {c : Code} {H : Heap} {locs : List Loc} {cells slots : Nat} {Q : State → Prop}
variable {cc : ByteArray} {pc : Nat} {ls : Array Slot} {rest : List Value}
/-- another name for the number on top -/
theorem ri_top {x y : Int32} (h : x = y) (k : W p l e R s m args below meth c H locs cells slots Q (F0 m pc ls (.int y :: rest))) : W p l e R s m args below meth c H locs cells slots Q (F0 m pc ls (.int x :: rest)) := by rw [h]; exact k
theorem ri_ex {a b : Int} (h : a = b) (k : W p l e R s m args below meth c H locs cells slots Q (F0 m pc ls (.int (iI b) :: rest))) : W p l e R s m args below meth c H locs cells slots Q (F0 m pc ls (.int (iI a) :: rest)) := by rw [h]; exact k
theorem ri_toplg {x y : Int64} (h : x = y) (k : W p l e R s m args below meth c H locs cells slots Q (F0 m pc ls (.long y :: rest))) : W p l e R s m args below meth c H locs cells slots Q (F0 m pc ls (.long x :: rest)) := by rw [h]; exact k
theorem ri_iadd (hexec : p.tables.exec = Jvm.exec) (hb : c.code = cc) {a b : Int} (hdg : decode cc pc = .ok (.iadd, 1)) (k : W p l e R s m args below meth c H locs cells slots Q (F0 m (pc + 1) ls (.int (iI (a + b)) :: rest))) : W p l e R s m args below meth c H locs cells slots Q (F0 m pc ls (.int (iI b) :: .int (iI a) :: rest)) := lv_iadd hexec hb hdg (by rw [iI_add]; exact k)
theorem ri_isub (hexec : p.tables.exec = Jvm.exec) (hb : c.code = cc) {a b : Int} (hdg : decode cc pc = .ok (.isub, 1)) (k : W p l e R s m args below meth c H locs cells slots Q (F0 m (pc + 1) ls (.int (iI (a - b)) :: rest))) : W p l e R s m args below meth c H locs cells slots Q (F0 m pc ls (.int (iI b) :: .int (iI a) :: rest)) := lv_isub hexec hb hdg (by rw [iI_sub]; exact k)
theorem ri_imul (hexec : p.tables.exec = Jvm.exec) (hb : c.code = cc) {a b : Int} (hdg : decode cc pc = .ok (.imul, 1)) (k : W p l e R s m args below meth c H locs cells slots Q (F0 m (pc + 1) ls (.int (iI (a * b)) :: rest))) : W p l e R s m args below meth c H locs cells slots Q (F0 m pc ls (.int (iI b) :: .int (iI a) :: rest)) := lv_imul hexec hb hdg (by rw [iI_mul]; exact k)
theorem ri_and1 (hexec : p.tables.exec = Jvm.exec) (hb : c.code = cc) {a b : Int} (ha : 0 ≤ a ∧ a < 2147483648) (kk : Nat) (hm : (iI b).toBitVec.toNat = 2 ^ kk - 1) (hdg : decode cc pc = .ok (.iand, 1)) (k : W p l e R s m args below meth c H locs cells slots Q (F0 m (pc + 1) ls (.int (iI (a % 2 ^ kk)) :: rest))) : W p l e R s m args below meth c H locs cells slots Q (F0 m pc ls (.int (iI b) :: .int (iI a) :: rest)) := lv_iand hexec hb hdg (by rw [iI_and ha kk hm]; exact k)
theorem ri_and2 (hexec : p.tables.exec = Jvm.exec) (hb : c.code = cc) {a : Int} (ha : 0 ≤ a ∧ a < 16) (hdg : decode cc pc = .ok (.iand, 1)) (k : W p l e R s m args below meth c H locs cells slots Q (F0 m (pc + 1) ls (.int (iI (2 * (a / 2 % 2))) :: rest))) : W p l e R s m args below meth c H locs cells slots Q (F0 m pc ls (.int (iI 2) :: .int (iI a) :: rest)) := lv_iand hexec hb hdg (by rw [iI_and2 ha]; exact k)
theorem ri_shr (hexec : p.tables.exec = Jvm.exec) (hb : c.code = cc) {a b : Int} (ha : -2147483648 ≤ a ∧ a < 2147483648) (kk : Nat) (hs : ((iI b &&& 31).toBitVec.smod 32).toNat = kk) (hdg : decode cc pc = .ok (.ishr, 1)) (k : W p l e R s m args below meth c H locs cells slots Q (F0 m (pc + 1) ls (.int (iI (a / 2 ^ kk)) :: rest))) : W p l e R s m args below meth c H locs cells slots Q (F0 m pc ls (.int (iI b) :: .int (iI a) :: rest)) := lv_ishr hexec hb hdg (by rw [iI_shr ha _ kk hs]; exact k)
theorem ri_icmp_eq (hexec : p.tables.exec = Jvm.exec) (hb : c.code = cc) {a b : Int} {off : Int} {tgt : Nat} (ha : -2147483648 ≤ a ∧ a < 2147483648) (hbb : -2147483648 ≤ b ∧ b < 2147483648) (hdg : decode cc pc = .ok (.if_icmp .eq off, 3)) (ht : (pc : Int) + off = (tgt : Int))
    (kt : a = b → W p l e R s m args below meth c H locs cells slots Q (F0 m tgt ls rest)) (kf : ¬ a = b → W p l e R s m args below meth c H locs cells slots Q (F0 m (pc + 3) ls rest)) : W p l e R s m args below meth c H locs cells slots Q (F0 m pc ls (.int (iI b) :: .int (iI a) :: rest)) := lv_icmp_eq hexec hb hdg ht (fun h => kt ((iI_eq ha hbb).mp h)) (fun h => kf (fun q => h ((iI_eq ha hbb).mpr q)))
theorem ri_if_eq (hexec : p.tables.exec = Jvm.exec) (hb : c.code = cc) {a : Int} {off : Int} {tgt : Nat} (ha : -2147483648 ≤ a ∧ a < 2147483648) (hdg : decode cc pc = .ok (.ifCond .eq off, 3)) (ht : (pc : Int) + off = (tgt : Int))
    (kt : a = 0 → W p l e R s m args below meth c H locs cells slots Q (F0 m tgt ls rest)) (kf : ¬ a = 0 → W p l e R s m args below meth c H locs cells slots Q (F0 m (pc + 3) ls rest)) : W p l e R s m args below meth c H locs cells slots Q (F0 m pc ls (.int (iI a) :: rest)) := lv_if_eq hexec hb hdg ht (fun h => kt ((iI_eq ha (by omega)).mp h)) (fun h => kf (fun q => h ((iI_eq ha (by omega)).mpr q)))
theorem ri_icmp_ne (hexec : p.tables.exec = Jvm.exec) (hb : c.code = cc) {a b : Int} {off : Int} {tgt : Nat} (ha : -2147483648 ≤ a ∧ a < 2147483648) (hbb : -2147483648 ≤ b ∧ b < 2147483648) (hdg : decode cc pc = .ok (.if_icmp .ne off, 3)) (ht : (pc : Int) + off = (tgt : Int))
    (kt : ¬ a = b → W p l e R s m args below meth c H locs cells slots Q (F0 m tgt ls rest)) (kf : a = b → W p l e R s m args below meth c H locs cells slots Q (F0 m (pc + 3) ls rest)) : W p l e R s m args below meth c H locs cells slots Q (F0 m pc ls (.int (iI b) :: .int (iI a) :: rest)) := lv_icmp_ne hexec hb hdg ht (fun h => kt (fun q => h ((iI_eq ha hbb).mpr q))) (fun h => kf ((iI_eq ha hbb).mp h))
theorem ri_if_ne (hexec : p.tables.exec = Jvm.exec) (hb : c.code = cc) {a : Int} {off : Int} {tgt : Nat} (ha : -2147483648 ≤ a ∧ a < 2147483648) (hdg : decode cc pc = .ok (.ifCond .ne off, 3)) (ht : (pc : Int) + off = (tgt : Int))
    (kt : ¬ a = 0 → W p l e R s m args below meth c H locs cells slots Q (F0 m tgt ls rest)) (kf : a = 0 → W p l e R s m args below meth c H locs cells slots Q (F0 m (pc + 3) ls rest)) : W p l e R s m args below meth c H locs cells slots Q (F0 m pc ls (.int (iI a) :: rest)) := lv_if_ne hexec hb hdg ht (fun h => kt (fun q => h ((iI_eq ha (by omega)).mpr q))) (fun h => kf ((iI_eq ha (by omega)).mp h))
theorem ri_icmp_lt (hexec : p.tables.exec = Jvm.exec) (hb : c.code = cc) {a b : Int} {off : Int} {tgt : Nat} (ha : -2147483648 ≤ a ∧ a < 2147483648) (hbb : -2147483648 ≤ b ∧ b < 2147483648) (hdg : decode cc pc = .ok (.if_icmp .lt off, 3)) (ht : (pc : Int) + off = (tgt : Int))
    (kt : a < b → W p l e R s m args below meth c H locs cells slots Q (F0 m tgt ls rest)) (kf : ¬ a < b → W p l e R s m args below meth c H locs cells slots Q (F0 m (pc + 3) ls rest)) : W p l e R s m args below meth c H locs cells slots Q (F0 m pc ls (.int (iI b) :: .int (iI a) :: rest)) := lv_icmp_lt hexec hb hdg ht (fun h => kt ((iI_lt ha hbb).mp h)) (fun h => kf (fun q => h ((iI_lt ha hbb).mpr q)))
theorem ri_if_lt (hexec : p.tables.exec = Jvm.exec) (hb : c.code = cc) {a : Int} {off : Int} {tgt : Nat} (ha : -2147483648 ≤ a ∧ a < 2147483648) (hdg : decode cc pc = .ok (.ifCond .lt off, 3)) (ht : (pc : Int) + off = (tgt : Int))
    (kt : a < 0 → W p l e R s m args below meth c H locs cells slots Q (F0 m tgt ls rest)) (kf : ¬ a < 0 → W p l e R s m args below meth c H locs cells slots Q (F0 m (pc + 3) ls rest)) : W p l e R s m args below meth c H locs cells slots Q (F0 m pc ls (.int (iI a) :: rest)) := lv_if_lt hexec hb hdg ht (fun h => kt ((iI_lt ha (by omega)).mp h)) (fun h => kf (fun q => h ((iI_lt ha (by omega)).mpr q)))
theorem ri_icmp_ge (hexec : p.tables.exec = Jvm.exec) (hb : c.code = cc) {a b : Int} {off : Int} {tgt : Nat} (ha : -2147483648 ≤ a ∧ a < 2147483648) (hbb : -2147483648 ≤ b ∧ b < 2147483648) (hdg : decode cc pc = .ok (.if_icmp .ge off, 3)) (ht : (pc : Int) + off = (tgt : Int))
    (kt : b ≤ a → W p l e R s m args below meth c H locs cells slots Q (F0 m tgt ls rest)) (kf : ¬ b ≤ a → W p l e R s m args below meth c H locs cells slots Q (F0 m (pc + 3) ls rest)) : W p l e R s m args below meth c H locs cells slots Q (F0 m pc ls (.int (iI b) :: .int (iI a) :: rest)) := lv_icmp_ge hexec hb hdg ht (fun h => kt ((iI_le hbb ha).mp h)) (fun h => kf (fun q => h ((iI_le hbb ha).mpr q)))
theorem ri_if_ge (hexec : p.tables.exec = Jvm.exec) (hb : c.code = cc) {a : Int} {off : Int} {tgt : Nat} (ha : -2147483648 ≤ a ∧ a < 2147483648) (hdg : decode cc pc = .ok (.ifCond .ge off, 3)) (ht : (pc : Int) + off = (tgt : Int))
    (kt : 0 ≤ a → W p l e R s m args below meth c H locs cells slots Q (F0 m tgt ls rest)) (kf : ¬ 0 ≤ a → W p l e R s m args below meth c H locs cells slots Q (F0 m (pc + 3) ls rest)) : W p l e R s m args below meth c H locs cells slots Q (F0 m pc ls (.int (iI a) :: rest)) := lv_if_ge hexec hb hdg ht (fun h => kt ((iI_le (by omega) ha).mp h)) (fun h => kf (fun q => h ((iI_le (by omega) ha).mpr q)))
theorem ri_icmp_gt (hexec : p.tables.exec = Jvm.exec) (hb : c.code = cc) {a b : Int} {off : Int} {tgt : Nat} (ha : -2147483648 ≤ a ∧ a < 2147483648) (hbb : -2147483648 ≤ b ∧ b < 2147483648) (hdg : decode cc pc = .ok (.if_icmp .gt off, 3)) (ht : (pc : Int) + off = (tgt : Int))
    (kt : b < a → W p l e R s m args below meth c H locs cells slots Q (F0 m tgt ls rest)) (kf : ¬ b < a → W p l e R s m args below meth c H locs cells slots Q (F0 m (pc + 3) ls rest)) : W p l e R s m args below meth c H locs cells slots Q (F0 m pc ls (.int (iI b) :: .int (iI a) :: rest)) := lv_icmp_gt hexec hb hdg ht (fun h => kt ((iI_lt hbb ha).mp h)) (fun h => kf (fun q => h ((iI_lt hbb ha).mpr q)))
theorem ri_if_gt (hexec : p.tables.exec = Jvm.exec) (hb : c.code = cc) {a : Int} {off : Int} {tgt : Nat} (ha : -2147483648 ≤ a ∧ a < 2147483648) (hdg : decode cc pc = .ok (.ifCond .gt off, 3)) (ht : (pc : Int) + off = (tgt : Int))
    (kt : 0 < a → W p l e R s m args below meth c H locs cells slots Q (F0 m tgt ls rest)) (kf : ¬ 0 < a → W p l e R s m args below meth c H locs cells slots Q (F0 m (pc + 3) ls rest)) : W p l e R s m args below meth c H locs cells slots Q (F0 m pc ls (.int (iI a) :: rest)) := lv_if_gt hexec hb hdg ht (fun h => kt ((iI_lt (by omega) ha).mp h)) (fun h => kf (fun q => h ((iI_lt (by omega) ha).mpr q)))
theorem ri_icmp_le (hexec : p.tables.exec = Jvm.exec) (hb : c.code = cc) {a b : Int} {off : Int} {tgt : Nat} (ha : -2147483648 ≤ a ∧ a < 2147483648) (hbb : -2147483648 ≤ b ∧ b < 2147483648) (hdg : decode cc pc = .ok (.if_icmp .le off, 3)) (ht : (pc : Int) + off = (tgt : Int))
    (kt : a ≤ b → W p l e R s m args below meth c H locs cells slots Q (F0 m tgt ls rest)) (kf : ¬ a ≤ b → W p l e R s m args below meth c H locs cells slots Q (F0 m (pc + 3) ls rest)) : W p l e R s m args below meth c H locs cells slots Q (F0 m pc ls (.int (iI b) :: .int (iI a) :: rest)) := lv_icmp_le hexec hb hdg ht (fun h => kt ((iI_le ha hbb).mp h)) (fun h => kf (fun q => h ((iI_le ha hbb).mpr q)))
theorem ri_if_le (hexec : p.tables.exec = Jvm.exec) (hb : c.code = cc) {a : Int} {off : Int} {tgt : Nat} (ha : -2147483648 ≤ a ∧ a < 2147483648) (hdg : decode cc pc = .ok (.ifCond .le off, 3)) (ht : (pc : Int) + off = (tgt : Int))
    (kt : a ≤ 0 → W p l e R s m args below meth c H locs cells slots Q (F0 m tgt ls rest)) (kf : ¬ a ≤ 0 → W p l e R s m args below meth c H locs cells slots Q (F0 m (pc + 3) ls rest)) : W p l e R s m args below meth c H locs cells slots Q (F0 m pc ls (.int (iI a) :: rest)) := lv_if_le hexec hb hdg ht (fun h => kt ((iI_le ha (by omega)).mp h)) (fun h => kf (fun q => h ((iI_le ha (by omega)).mpr q)))
variable {D : va_G} {cl : List vw_C} {A : Nat → Prop} {a : Nat} {tys : List (ClassId × FieldType)} {ws : va_W} {H0 : Heap}
theorem ri_iald (hexec : p.tables.exec = Jvm.exec) (hb : c.code = cc) (hK : va_K D cl tys s) (hP : va_P D cl ws H) (q0 t0 : Nat) {cA : ClassId} {n : Nat} {F : Int → Int} (ha : ws[q0]? = some (a, .inl (cA, n, .inl (iF F)))) (ht : tys[t0]? = some (cA, .int)) {i : Int} (hin : 0 ≤ i ∧ i < (n : Int)) (hn : n < 2147483648) (hdg : decode cc pc = .ok (.iaload, 1))
    (kk : W p l e R s m args below meth c H locs cells slots Q (F0 m (pc + 1) ls (.int (iI (F i)) :: rest))) : W p l e R s m args below meth c H locs cells slots Q (F0 m pc ls (.int (iI i) :: .ref a :: rest)) := va_iald hexec hb hK hP q0 t0 ha ht (iI_in hin hn) hdg (by rw [iF_rd (by omega)]; exact kk)
theorem ri_iast (hexec : p.tables.exec = Jvm.exec) (hb : c.code = cc) (hK : va_K D cl tys s) (hP : va_P D cl ws H) (hD : va_D A ws) (hS : va_S A H0 H locs) (q0 t0 : Nat) {cA : ClassId} {n : Nat} {F : Int → Int} (ha : ws[q0]? = some (a, .inl (cA, n, .inl (iF F)))) (ht : tys[t0]? = some (cA, .int)) {i x : Int} (hin : 0 ≤ i ∧ i < (n : Int)) (hn : n < 2147483648) (hdg : decode cc pc = .ok (.iastore, 1))
    (kk : ∀ (H1 : Heap) (locs1 : List Loc), va_P D cl (ws.set q0 (a, .inl (cA, n, .inl (iF (up F i x))))) H1 → va_D A (ws.set q0 (a, .inl (cA, n, .inl (iF (up F i x))))) → va_S A H0 H1 locs1 → W p l e R s m args below meth c H1 locs1 cells slots Q (F0 m (pc + 1) ls rest)) : W p l e R s m args below meth c H locs cells slots Q (F0 m pc ls (.int (iI x) :: .int (iI i) :: .ref a :: rest)) := by
  refine va_iast hexec hb hK hP hD hS q0 t0 ha ht (iI_in hin hn) hdg ?_
  rw [iF_wr (by omega)]
  exact kk
theorem ri_lald (hexec : p.tables.exec = Jvm.exec) (hb : c.code = cc) (hK : va_K D cl tys s) (hP : va_P D cl ws H) (q0 t0 : Nat) {cA : ClassId} {n : Nat} {f : Nat → Int64} (ha : ws[q0]? = some (a, .inl (cA, n, .inr (.inl f)))) (ht : tys[t0]? = some (cA, .long)) {i : Int} (hin : 0 ≤ i ∧ i < (n : Int)) (hn : n < 2147483648) (hdg : decode cc pc = .ok (.laload, 1))
    (kk : W p l e R s m args below meth c H locs cells slots Q (F0 m (pc + 1) ls (.long (f i.toNat) :: rest))) : W p l e R s m args below meth c H locs cells slots Q (F0 m pc ls (.int (iI i) :: .ref a :: rest)) := va_lald hexec hb hK hP q0 t0 ha ht (iI_in hin hn) hdg (by rw [iI_cl (by omega)]; exact kk)
theorem ri_last (hexec : p.tables.exec = Jvm.exec) (hb : c.code = cc) (hK : va_K D cl tys s) (hP : va_P D cl ws H) (hD : va_D A ws) (hS : va_S A H0 H locs) (q0 t0 : Nat) {cA : ClassId} {n : Nat} {f : Nat → Int64} (ha : ws[q0]? = some (a, .inl (cA, n, .inr (.inl f)))) (ht : tys[t0]? = some (cA, .long)) {i : Int} {x : Int64} (hin : 0 ≤ i ∧ i < (n : Int)) (hn : n < 2147483648) (hdg : decode cc pc = .ok (.lastore, 1))
    (kk : ∀ (H1 : Heap) (locs1 : List Loc), va_P D cl (ws.set q0 (a, .inl (cA, n, .inr (.inl (vp_updL f i.toNat x))))) H1 → va_D A (ws.set q0 (a, .inl (cA, n, .inr (.inl (vp_updL f i.toNat x))))) → va_S A H0 H1 locs1 → W p l e R s m args below meth c H1 locs1 cells slots Q (F0 m (pc + 1) ls rest)) : W p l e R s m args below meth c H locs cells slots Q (F0 m pc ls (.long x :: .int (iI i) :: .ref a :: rest)) := by
  refine va_last hexec hb hK hP hD hS q0 t0 ha ht (iI_in hin hn) hdg ?_
  rw [iI_cl (by omega)]
  exact kk
theorem ri_alen (hexec : p.tables.exec = Jvm.exec) (hb : c.code = cc) (hK : va_K D cl tys s) (hP : va_P D cl ws H) (q0 t0 : Nat) {cA : ClassId} {x : vp_A} (ha : ws[q0]? = some (a, .inl (cA, x))) {ty : FieldType} (ht : tys[t0]? = some (cA, ty)) (hdg : decode cc pc = .ok (.arraylength, 1))
    (kk : W p l e R s m args below meth c H locs cells slots Q (F0 m (pc + 1) ls (.int (iI x.1) :: rest))) : W p l e R s m args below meth c H locs cells slots Q (F0 m pc ls (.ref a :: rest)) := va_alen hexec hb hK hP q0 t0 ha ht (iI_n x.1) hdg kk
theorem ri_iinc (hexec : p.tables.exec = Jvm.exec) (hb : c.code = cc) {i nL k : Nat} {n x : Int} {lv lv' : List (Nat × Value)} (hdg : decode cc pc = .ok (.iinc i n, 3)) (h : lv_has ls nL lv) (hk : lv[k]? = some (i, .int (iI x))) (hn : i < nL) (hl : (i, Value.int (iI (x + n))) :: lv.filter (fun q => !(q.1 == i) && !(q.1 + 1 == i && q.2.category == 2)) = lv')
    (kk : ∀ ls' : Array Slot, lv_has ls' nL lv' → W p l e R s m args below meth c H locs cells slots Q (F0 m (pc + 3) ls' rest)) : W p l e R s m args below meth c H locs cells slots Q (F0 m pc ls rest) := lv_iinc hexec hb hdg h hk (iI_add x n) hn hl kk
end RI
theorem iI_max {a b : Int} (ha : -2147483648 ≤ a ∧ a < 2147483648) (hb : -2147483648 ≤ b ∧ b < 2147483648) : (if iI a < iI b then iI b else iI a) = iI (max a b) := by
  by_cases h : a < b
  · rw [if_pos ((iI_lt ha hb).mpr h)]; congr 1; omega
  · rw [if_neg (fun q => h ((iI_lt ha hb).mp q))]; congr 1; omega
theorem iI_min {a b : Int} (ha : -2147483648 ≤ a ∧ a < 2147483648) (hb : -2147483648 ≤ b ∧ b < 2147483648) : (if iI b < iI a then iI b else iI a) = iI (min a b) := by
  by_cases h : b < a
  · rw [if_pos ((iI_lt hb ha).mpr h)]; congr 1; omega
  · rw [if_neg (fun q => h ((iI_lt hb ha).mp q))]; congr 1; omega
end
section
/-! THE FORMS OF OUR CONTRACTS, and rows of calls by them. k: the classes of int[], long[], double[]; g: the own classes' numbers and slots. -/
abbrev kT : Type := ClassId × ClassId × ClassId
abbrev tyL (k : kT) : List (ClassId × FieldType) := [(k.1, .int), (k.2.1, .long), (k.2.2, .double)]
/-- links to fields of nest mates: owner, place, class, field, descriptor -/
def nestT : List (String × Nat × String × String × String) := [
  ("MachineTree", 102, "MachineTree$Walk", "left", "I"), ("MachineTree", 105, "MachineTree$Walk", "right", "I"), ("MachineTree", 118, "MachineTree$Tree", "open", "I"), ("MachineTree", 121, "MachineTree$Tree", "halted", "I"),
  ("MachineTree", 124, "MachineTree$Tree", "cycling", "I"), ("MachineTree", 127, "MachineTree$Tree", "drifting", "I"), ("MachineTree", 130, "MachineTree$Tree", "bestSteps", "I"), ("MachineTree", 133, "MachineTree$Tree", "bestOnes", "I"),
  ("MachineTree", 136, "MachineTree$Tree", "mostOnes", "I"), ("MachineTree", 141, "MachineTree$Tree", "best", "LMachineTree$Machine;"), ("MachineTree", 149, "MachineTree$Tree", "haltedSteps", "I"), ("MachineTree", 75, "MachineTree$Walk", "outcome", "I"),
  ("MachineTree", 84, "MachineTree$Walk", "steps", "I"), ("MachineTree", 87, "MachineTree$Walk", "period", "I"), ("MachineTree", 90, "MachineTree$Walk", "drift", "I"), ("MachineTree", 93, "MachineTree$Walk", "state", "I"),
  ("MachineTree", 96, "MachineTree$Walk", "head", "I"), ("MachineTree", 99, "MachineTree$Walk", "ones", "I"), ("MachineTree$Tree", 121, "MachineTree$Walk", "head", "I"), ("MachineTree$Tree", 128, "MachineTree$Walk", "state", "I"),
  ("MachineTree$Tree", 52, "MachineTree$Walk", "outcome", "I"), ("MachineTree$Tree", 73, "MachineTree$Walk", "steps", "I"), ("MachineTree$Tree", 79, "MachineTree$Walk", "ones", "I")]
def nestC (q : String × Nat × String × String × String) : Cond := .fieldLinkNest q.1 q.2.1 q.2.2.1 q.2.2.2.1 q.2.2.2.2 "MachineTree"
/-- what every method of ours knows of the machine's tables -/
def gK (g : va_G) (k : kT) (U : State) : Prop := va_K g vwCl (tyL k) U ∧ ∀ q ∈ nestT, va_Nw (nestC q) U
theorem gK.warm {g : va_G} {k : kT} {s U : State} (h : gK g k s) (hW : s.WarmedH U.vm) : gK g k U := ⟨va_K.moved hW.alike h.1, fun q hq => va_Nw.warmF hW (h.2 q hq)⟩
theorem gK.same {g : va_G} {k : kT} {s U : State} (h : gK g k s) (hv : s.vm = U.vm) : gK g k U := ⟨va_K.moved (u := s) (by rw [← hv]; exact Vm.Alike.refl s.vm) h.1, fun q hq => va_Nw.same rfl hv (h.2 q hq)⟩
/-- the start of a method that writes nothing -/
def pPre (g : va_G) (k : kT) (ws : va_W) (av : List Value) : Array Value → State → Prop := va_Pc av (fun U => va_P g vwCl ws U.heap ∧ gK g k U)
/-- the start of a method that writes in its world, or makes cells -/
def mPre (g : va_G) (k : kT) (ws : va_W) (sz : Nat) (av : List Value) : Array Value → State → Prop := va_Pc av (fun U => U.heap.size = sz ∧ va_P g vwCl ws U.heap ∧ gK g k U ∧ va_D (fun _ => True) ws)
theorem pPre_blind {g : va_G} {k : kT} {ws : va_W} {av : List Value} : FrameBlind (pPre g k ws av) := fun a U f mk h => ⟨h.1, h.2.1, gK.same (U := U.calling f mk a) h.2.2 rfl⟩
theorem mPre_blind {g : va_G} {k : kT} {ws : va_W} {sz : Nat} {av : List Value} : FrameBlind (mPre g k ws sz av) := fun a U f mk h => ⟨h.1, h.2.1, h.2.2.1, gK.same (U := U.calling f mk a) h.2.2.2.1 rfl, h.2.2.2.2⟩
/-- the world behind it -/
abbrev mB {S : Type} (g : va_G) (wc : va_W) (sz : Nat) (W1 : S → va_W) (u : S) (t : State) : Prop := va_P g vwCl (W1 u) t.heap ∧ va_D (va_A wc sz) (W1 u)
/-- a contract: reads alone, an int or a boolean -/
abbrev cP (l : Launch) (y : MethodName) (ws : List Cond) (rm : Room) (g : va_G) (k : kT) (wc : va_W) (av : List Value) (post : Int32 → Prop) : Prop := Met l y ws rm (pPre g k wc av) (vp_Si post) 0 0 (fun _ => False)
/-- a contract: void, writes in its world -/
abbrev cV {S : Type} (l : Launch) (y : MethodName) (ws : List Cond) (rm : Room) (g : va_G) (k : kT) (wc : va_W) (sz : Nat) (av : List Value) (mc ms : Nat) (W1 : S → va_W) (post : S → Prop) : Prop := Met l y ws rm (mPre g k wc sz av) (va_Qv post (mB g wc sz W1) (va_A wc sz)) mc ms (va_A wc sz)
/-- a contract: an int or a boolean, writes in its world -/
abbrev cI {S : Type} (l : Launch) (y : MethodName) (ws : List Cond) (rm : Room) (g : va_G) (k : kT) (wc : va_W) (sz : Nat) (av : List Value) (mc ms : Nat) (W1 : S → va_W) (post : Int32 → S → Prop) : Prop := Met l y ws rm (mPre g k wc sz av) (va_Qi post (mB g wc sz W1) (va_A wc sz)) mc ms (va_A wc sz)
section RC
variable {p : Program} {l : Launch} {e : Env} {R : Room} {s : State} {m : MethodId} {args : Array Value} {below : List Frame} {meth : Method} {c : Code} {H : Heap} {locs : List Loc} {cells slots : Nat} {Q : State → Prop}
variable {cc : ByteArray} {pc : Nat} {ls : Array Slot} {rest : List Value} {g : va_G} {k : kT} {y : MethodName} {bytes : ByteArray} {maxL nL n index mc ms : Nat} {ret : Option FieldType} {ws : List Cond} {rm : Room} {Ts : List Cond} {own : String} {b : Nat} {As st0 : List Value} {wa wc wr : va_W} {A0 : Nat → Prop} {H0 : Heap}
theorem rc_P {post : Int32 → Prop} {ci q0 : Nat} {q : vw_C} {fs : List Value} (S : CallFix p m c cc nL s args Ts own) (hM : cP l y ws rm g k wc (.ref b :: As) post) (cw : CallW R s args own q.1 index y bytes maxL ret ws rm 0 0 n)
    (hK : gK g k s) (hP : va_P g vwCl wa H) (isC : List Nat) (hC : isC.filterMap (fun i => wa[i]?) = wc) (hc : vwCl[ci]? = some q) (he : wc[q0]? = some (b, .inr (ci, fs))) (hst : st0 = As.reverse ++ .ref b :: rest) (hn : As.length = n) (hsz : ls.size = nL) (hw : (rest.map fun v => v.category).sum ≤ 8) (hf : cells ≤ R.cells ∧ slots ≤ R.slots) (hdg : decode cc pc = .ok (.invokevirtual index, 3))
    (kk : ∀ r : Int32, post r → W p l e R s m args below meth c H locs cells slots Q (F0 m (pc + 3) ls (.int r :: rest))) : W p l e R s m args below meth c H locs cells slots Q (F0 m pc ls st0) := by
  have hPc := hP.sub isC hC
  exact vp_callSi (va_Run.run (va_runV (As := As) (rest := rest) S hM cw ⟨pPre_blind, va_recv hK.1 hPc hc he, fun U hU hW => ⟨rfl, by rw [hU]; exact hPc, hK.warm hW⟩⟩ rfl hn hsz hst (lv_room hw) hdg hf)) kk
theorem rc_V {S : Type} {W1 : S → va_W} {post : S → Prop} {ci q0 : Nat} {q : vw_C} {fs : List Value} (S0 : CallFix p m c cc nL s args Ts own) (hM : cV l y ws rm g k wc H.size (.ref b :: As) mc ms W1 post) (cw : CallW R s args own q.1 index y bytes maxL ret ws rm mc ms n)
    (hK : gK g k s) (hP : va_P g vwCl wa H) (hD : va_D A0 wa) (hS : va_S A0 H0 H locs) (hA : ∀ q, H0.size ≤ q → A0 q) (isC isR : List Nat) (hC : isC.map (fun i => wa[i]?) = wc.map some) (hCn : va_nd isC = true) (hR : isR.map (fun i => wa[i]?) = wr.map some) (hRn : va_nd isR = true) (hdis : ∀ i ∈ isR, i ∉ isC)
    (hc : vwCl[ci]? = some q) (he : wc[q0]? = some (b, .inr (ci, fs))) (hst : st0 = As.reverse ++ .ref b :: rest) (hn : As.length = n) (hsz : ls.size = nL) (hw : (rest.map fun v => v.category).sum ≤ 8) (hf : cells + mc ≤ R.cells ∧ slots + ms ≤ R.slots) (hdg : decode cc pc = .ok (.invokevirtual index, 3))
    (kk : ∀ (u : S) (H1 : Heap) (locs1 : List Loc), post u → va_P g vwCl (wr ++ W1 u) H1 → va_D A0 (wr ++ W1 u) → va_S A0 H0 H1 locs1 → W p l e R s m args below meth c H1 locs1 (cells + mc) (slots + ms) Q (F0 m (pc + 3) ls rest)) : W p l e R s m args below meth c H locs cells slots Q (F0 m pc ls st0) := by
  have hPc : va_P g vwCl wc H := fun i x hx => by
    have h1 : (isC.map (fun i => wa[i]?))[i]? = some (some x) := by rw [hC, List.getElem?_map, hx]; rfl
    rw [List.getElem?_map] at h1
    cases hi : isC[i]? with
    | none => rw [hi] at h1; cases h1
    | some j => rw [hi] at h1; exact hP j x (Option.some.inj h1)
  have hFc := va_free (wc := wc) hD hS hA isC hC
  refine va_callv (va_runV (As := As) (rest := rest) S0 hM cw ⟨mPre_blind, va_recv hK.1 hPc hc he, fun U hU hW => ⟨rfl, by rw [hU], by rw [hU]; exact hPc, hK.warm hW, (hD.sub isC hCn hC).weaken (fun _ _ _ _ => trivial)⟩⟩ rfl hn hsz hst (lv_room hw) hdg hf) hS (fun q _ h => hFc q h) hFc (fun u t H1 locs1 ht hvm hp hB hz1 hk1 hS1 => ?_)
  obtain ⟨hP1, hD1⟩ := hB
  rw [ht] at hP1
  obtain ⟨hP2, hD2⟩ := va_join (wr := wr) (w1 := W1 u) hP hD isC isR hC hR hRn hdis hk1 hFc hP1 hD1
  exact kk u H1 locs1 hp hP2 hD2 hS1
theorem rc_I {S : Type} {W1 : S → va_W} {post : Int32 → S → Prop} {ci q0 : Nat} {q : vw_C} {fs : List Value} (S0 : CallFix p m c cc nL s args Ts own) (hM : cI l y ws rm g k wc H.size (.ref b :: As) mc ms W1 post) (cw : CallW R s args own q.1 index y bytes maxL ret ws rm mc ms n)
    (hK : gK g k s) (hP : va_P g vwCl wa H) (hD : va_D A0 wa) (hS : va_S A0 H0 H locs) (hA : ∀ q, H0.size ≤ q → A0 q) (isC isR : List Nat) (hC : isC.map (fun i => wa[i]?) = wc.map some) (hCn : va_nd isC = true) (hR : isR.map (fun i => wa[i]?) = wr.map some) (hRn : va_nd isR = true) (hdis : ∀ i ∈ isR, i ∉ isC)
    (hc : vwCl[ci]? = some q) (he : wc[q0]? = some (b, .inr (ci, fs))) (hst : st0 = As.reverse ++ .ref b :: rest) (hn : As.length = n) (hsz : ls.size = nL) (hw : (rest.map fun v => v.category).sum ≤ 8) (hf : cells + mc ≤ R.cells ∧ slots + ms ≤ R.slots) (hdg : decode cc pc = .ok (.invokevirtual index, 3))
    (kk : ∀ (r : Int32) (u : S) (H1 : Heap) (locs1 : List Loc), post r u → va_P g vwCl (wr ++ W1 u) H1 → va_D A0 (wr ++ W1 u) → va_S A0 H0 H1 locs1 → W p l e R s m args below meth c H1 locs1 (cells + mc) (slots + ms) Q (F0 m (pc + 3) ls (.int r :: rest))) : W p l e R s m args below meth c H locs cells slots Q (F0 m pc ls st0) := by
  have hPc : va_P g vwCl wc H := fun i x hx => by
    have h1 : (isC.map (fun i => wa[i]?))[i]? = some (some x) := by rw [hC, List.getElem?_map, hx]; rfl
    rw [List.getElem?_map] at h1
    cases hi : isC[i]? with
    | none => rw [hi] at h1; cases h1
    | some j => rw [hi] at h1; exact hP j x (Option.some.inj h1)
  have hFc := va_free (wc := wc) hD hS hA isC hC
  refine va_calli (va_runV (As := As) (rest := rest) S0 hM cw ⟨mPre_blind, va_recv hK.1 hPc hc he, fun U hU hW => ⟨rfl, by rw [hU], by rw [hU]; exact hPc, hK.warm hW, (hD.sub isC hCn hC).weaken (fun _ _ _ _ => trivial)⟩⟩ rfl hn hsz hst (lv_room hw) hdg hf) hS (fun q _ h => hFc q h) hFc (fun r u t H1 locs1 ht hvm hp hB hz1 hk1 hS1 => ?_)
  obtain ⟨hP1, hD1⟩ := hB
  rw [ht] at hP1
  obtain ⟨hP2, hD2⟩ := va_join (wr := wr) (w1 := W1 u) hP hD isC isR hC hR hRn hdis hk1 hFc hP1 hD1
  exact kk r u H1 locs1 hp hP2 hD2 hS1
/-- a static one -/
theorem rc_SV {S : Type} {W1 : S → va_W} {post : S → Prop} (S0 : CallFix p m c cc nL s args Ts own) (hM : cV l y ws rm g k wc H.size As mc ms W1 post) (cw : CallB R s args own index y bytes maxL ret ws rm mc ms n ∧ (Cond.static y).before args s = true)
    (hK : gK g k s) (hP : va_P g vwCl wa H) (hD : va_D A0 wa) (hS : va_S A0 H0 H locs) (hA : ∀ q, H0.size ≤ q → A0 q) (isC isR : List Nat) (hC : isC.map (fun i => wa[i]?) = wc.map some) (hCn : va_nd isC = true) (hR : isR.map (fun i => wa[i]?) = wr.map some) (hRn : va_nd isR = true) (hdis : ∀ i ∈ isR, i ∉ isC)
    (hst : st0 = As.reverse ++ rest) (hn : As.length = n) (hsz : ls.size = nL) (hw : (rest.map fun v => v.category).sum ≤ 8) (hf : cells + mc ≤ R.cells ∧ slots + ms ≤ R.slots) (hdg : decode cc pc = .ok (.invokestatic index, 3))
    (kk : ∀ (u : S) (H1 : Heap) (locs1 : List Loc), post u → va_P g vwCl (wr ++ W1 u) H1 → va_D A0 (wr ++ W1 u) → va_S A0 H0 H1 locs1 → W p l e R s m args below meth c H1 locs1 (cells + mc) (slots + ms) Q (F0 m (pc + 3) ls rest)) : W p l e R s m args below meth c H locs cells slots Q (F0 m pc ls st0) := by
  have hPc : va_P g vwCl wc H := fun i x hx => by
    have h1 : (isC.map (fun i => wa[i]?))[i]? = some (some x) := by rw [hC, List.getElem?_map, hx]; rfl
    rw [List.getElem?_map] at h1
    cases hi : isC[i]? with
    | none => rw [hi] at h1; cases h1
    | some j => rw [hi] at h1; exact hP j x (Option.some.inj h1)
  have hFc := va_free (wc := wc) hD hS hA isC hC
  refine va_callv (va_runS (As := As) (rest := rest) S0 hM cw ⟨mPre_blind, fun U hU hW => ⟨rfl, by rw [hU], by rw [hU]; exact hPc, hK.warm hW, (hD.sub isC hCn hC).weaken (fun _ _ _ _ => trivial)⟩⟩ rfl hn hsz hst (lv_room hw) hdg hf) hS (fun q _ h => hFc q h) hFc (fun u t H1 locs1 ht hvm hp hB hz1 hk1 hS1 => ?_)
  obtain ⟨hP1, hD1⟩ := hB
  rw [ht] at hP1
  obtain ⟨hP2, hD2⟩ := va_join (wr := wr) (w1 := W1 u) hP hD isC isR hC hR hRn hdis hk1 hFc hP1 hD1
  exact kk u H1 locs1 hp hP2 hD2 hS1
/-- a constructor -/
theorem rc_C {S : Type} {W1 : S → va_W} {post : S → Prop} (S0 : CallFix p m c cc nL s args Ts own) (hM : cV l y ws rm g k wc H.size (.ref b :: As) mc ms W1 post) (cw : CallB R s args own index y bytes maxL none ws rm mc ms n ∧ y.name = "<init>" ∧ (Cond.instanceMethod y).before args s = true)
    (hK : gK g k s) (hP : va_P g vwCl wa H) (hD : va_D A0 wa) (hS : va_S A0 H0 H locs) (hA : ∀ q, H0.size ≤ q → A0 q) (isC isR : List Nat) (hC : isC.map (fun i => wa[i]?) = wc.map some) (hCn : va_nd isC = true) (hR : isR.map (fun i => wa[i]?) = wr.map some) (hRn : va_nd isR = true) (hdis : ∀ i ∈ isR, i ∉ isC)
    (hst : st0 = As.reverse ++ .ref b :: rest) (hn : As.length = n) (hsz : ls.size = nL) (hw : (rest.map fun v => v.category).sum ≤ 8) (hf : cells + mc ≤ R.cells ∧ slots + ms ≤ R.slots) (hdg : decode cc pc = .ok (.invokespecial index, 3))
    (kk : ∀ (u : S) (H1 : Heap) (locs1 : List Loc), post u → va_P g vwCl (wr ++ W1 u) H1 → va_D A0 (wr ++ W1 u) → va_S A0 H0 H1 locs1 → W p l e R s m args below meth c H1 locs1 (cells + mc) (slots + ms) Q (F0 m (pc + 3) ls rest)) : W p l e R s m args below meth c H locs cells slots Q (F0 m pc ls st0) := by
  have hPc : va_P g vwCl wc H := fun i x hx => by
    have h1 : (isC.map (fun i => wa[i]?))[i]? = some (some x) := by rw [hC, List.getElem?_map, hx]; rfl
    rw [List.getElem?_map] at h1
    cases hi : isC[i]? with
    | none => rw [hi] at h1; cases h1
    | some j => rw [hi] at h1; exact hP j x (Option.some.inj h1)
  have hFc := va_free (wc := wc) hD hS hA isC hC
  refine va_callv (va_runI (As := As) (rest := rest) S0 hM cw ⟨mPre_blind, fun U hU hW => ⟨rfl, by rw [hU], by rw [hU]; exact hPc, hK.warm hW, (hD.sub isC hCn hC).weaken (fun _ _ _ _ => trivial)⟩⟩ rfl hn hsz hst (lv_room hw) hdg hf) hS (fun q _ h => hFc q h) hFc (fun u t H1 locs1 ht hvm hp hB hz1 hk1 hS1 => ?_)
  obtain ⟨hP1, hD1⟩ := hB
  rw [ht] at hP1
  obtain ⟨hP2, hD2⟩ := va_join (wr := wr) (w1 := W1 u) hP hD isC isR hC hR hRn hdis hk1 hFc hP1 hD1
  exact kk u H1 locs1 hp hP2 hD2 hS1
end RC
end
section
/-! HOW A CONTRACT IS BEGUN: the body gets its state Q as a name, and its ends as rows (hret). -/
theorem st_P {l : Launch} {y : MethodName} {ws ws' : List Cond} {rm : Room} {g : va_G} {k : kT} {wc : va_W} {av : List Value} {post : Int32 → Prop} {cc : ByteArray} {maxL : Nat}
    (hy : plainName y.cls = true) (hw : ws = Cond.code y cc maxL (some .int) :: ws') (hen : (lg_sl av).length ≤ maxL)
    (body : ∀ (p : Program) (e : Env) (s : State) (m : MethodId) (below : List Frame) (meth : Method) (c : Code) (Q : State → Prop), p.tables.exec = Jvm.exec → c.code = cc → c.maxLocals = maxL → s.vm.findClass y.cls = some m.cls → (∀ w ∈ ws, w.before av.toArray s = true) → va_P g vwCl wc s.heap → gK g k s →
      (∀ (v : Int32) (pc : Nat) (ls : Array Slot), decode cc pc = .ok (.ireturn, 1) → post v → W p l e rm s m av.toArray below meth c s.heap [] 0 0 Q (F0 m pc ls [.int v])) →
      ∀ ls : Array Slot, lv_has ls maxL (lv_args 0 av) → W p l e rm s m av.toArray below meth c s.heap [] 0 0 Q (F0 m 0 ls [])) : cP l y ws rm g k wc av post := by
  refine Met.ofW (cc := cc) (maxL := maxL) (ret := some .int) hy hw ?_
  intro p e s m args below meth c s₁ B hml hv
  obtain ⟨rfl, hP, hK⟩ := hv
  have hlocks := B.notSynchronized
  have hr := B.returns
  rw [lg_entry_eq]
  exact body p e s m below meth c _ B.exec B.bytes hml (findClass_of_methodNamed B.named) (atoms_spec (ws := ws) B.pre) hP hK (fun v pc ls d hp => W.iret (v := v) B.exec B.bytes hr (fun t ht hW => ⟨v, rfl, hp, ht⟩) (fun q hq => by cases hq) d) _ (lv_entry av hen)
theorem st_Z {l : Launch} {y : MethodName} {ws ws' : List Cond} {rm : Room} {g : va_G} {k : kT} {wc : va_W} {av : List Value} {post : Int32 → Prop} {cc : ByteArray} {maxL : Nat}
    (hy : plainName y.cls = true) (hw : ws = Cond.code y cc maxL (some .boolean) :: ws') (hen : (lg_sl av).length ≤ maxL)
    (body : ∀ (p : Program) (e : Env) (s : State) (m : MethodId) (below : List Frame) (meth : Method) (c : Code) (Q : State → Prop), p.tables.exec = Jvm.exec → c.code = cc → c.maxLocals = maxL → s.vm.findClass y.cls = some m.cls → (∀ w ∈ ws, w.before av.toArray s = true) → va_P g vwCl wc s.heap → gK g k s →
      (∀ (v : Int) (pc : Nat) (ls : Array Slot), decode cc pc = .ok (.ireturn, 1) → v = 0 ∨ v = 1 → post (iI v) → W p l e rm s m av.toArray below meth c s.heap [] 0 0 Q (F0 m pc ls [.int (iI v)])) →
      ∀ ls : Array Slot, lv_has ls maxL (lv_args 0 av) → W p l e rm s m av.toArray below meth c s.heap [] 0 0 Q (F0 m 0 ls [])) : cP l y ws rm g k wc av post := by
  refine Met.ofW (cc := cc) (maxL := maxL) (ret := some .boolean) hy hw ?_
  intro p e s m args below meth c s₁ B hml hv
  obtain ⟨rfl, hP, hK⟩ := hv
  have hlocks := B.notSynchronized
  have hr := B.returns
  rw [lg_entry_eq]
  exact body p e s m below meth c _ B.exec B.bytes hml (findClass_of_methodNamed B.named) (atoms_spec (ws := ws) B.pre) hP hK (fun v pc ls d h01 hp => W.zret (v := iI v) B.exec B.bytes hr (by rcases h01 with rfl | rfl <;> rfl) (fun t ht hW => ⟨iI v, rfl, hp, ht⟩) (fun q hq => by cases hq) d) _ (lv_entry av hen)
theorem st_V {S : Type} {l : Launch} {y : MethodName} {ws ws' : List Cond} {rm : Room} {g : va_G} {k : kT} {wc : va_W} {sz mc ms : Nat} {av : List Value} {W1 : S → va_W} {post : S → Prop} {cc : ByteArray} {maxL : Nat}
    (hy : plainName y.cls = true) (hw : ws = Cond.code y cc maxL none :: ws') (hen : (lg_sl av).length ≤ maxL)
    (body : ∀ (p : Program) (e : Env) (s : State) (m : MethodId) (below : List Frame) (meth : Method) (c : Code) (Q : State → Prop) (A : Nat → Prop), p.tables.exec = Jvm.exec → c.code = cc → c.maxLocals = maxL → s.vm.findClass y.cls = some m.cls → (∀ w ∈ ws, w.before av.toArray s = true) → meth.name = y.name → (∀ q, s.heap.size ≤ q → A q) → va_P g vwCl wc s.heap → va_D A wc → va_S A s.heap s.heap [] → gK g k s →
      (∀ (u : S) (H : Heap) (locs : List Loc) (pc : Nat) (ls : Array Slot), decode cc pc = .ok (.return_, 1) → post u → va_P g vwCl (W1 u) H → va_D A (W1 u) → va_S A s.heap H locs → W p l e rm s m av.toArray below meth c H locs mc ms Q (F0 m pc ls [])) →
      ∀ ls : Array Slot, lv_has ls maxL (lv_args 0 av) → W p l e rm s m av.toArray below meth c s.heap [] 0 0 Q (F0 m 0 ls [])) : cV l y ws rm g k wc sz av mc ms W1 post := by
  refine Met.ofW (cc := cc) (maxL := maxL) (ret := none) hy hw ?_
  intro p e s m args below meth c s₁ B hml hv
  obtain ⟨rfl, rfl, hP, hK, hD0⟩ := hv
  have hlocks := B.notSynchronized
  have hr := B.returns
  rw [lg_entry_eq]
  exact body p e s m below meth c _ (va_A wc s.heap.size) B.exec B.bytes hml (findClass_of_methodNamed B.named) (atoms_spec (ws := ws) B.pre) (name_of_methodNamed B.named B.method).1 (fun q h => Or.inr h) hP hD0.self va_S.rf hK
    (fun u H locs pc ls d hp hP hD hS => W.vret B.exec B.bytes hr (fun t ht hW => ⟨⟨u, rfl, hp, by rw [ht]; exact hP, hD⟩, hS.F ht⟩) hS.2.2 d) _ (lv_entry av hen)
theorem st_I {S : Type} {l : Launch} {y : MethodName} {ws ws' : List Cond} {rm : Room} {g : va_G} {k : kT} {wc : va_W} {sz mc ms : Nat} {av : List Value} {W1 : S → va_W} {post : Int32 → S → Prop} {cc : ByteArray} {maxL : Nat}
    (hy : plainName y.cls = true) (hw : ws = Cond.code y cc maxL (some .int) :: ws') (hen : (lg_sl av).length ≤ maxL)
    (body : ∀ (p : Program) (e : Env) (s : State) (m : MethodId) (below : List Frame) (meth : Method) (c : Code) (Q : State → Prop) (A : Nat → Prop), p.tables.exec = Jvm.exec → c.code = cc → c.maxLocals = maxL → s.vm.findClass y.cls = some m.cls → (∀ w ∈ ws, w.before av.toArray s = true) → (∀ q, s.heap.size ≤ q → A q) → va_P g vwCl wc s.heap → va_D A wc → va_S A s.heap s.heap [] → gK g k s →
      (∀ (v : Int32) (u : S) (H : Heap) (locs : List Loc) (pc : Nat) (ls : Array Slot), decode cc pc = .ok (.ireturn, 1) → post v u → va_P g vwCl (W1 u) H → va_D A (W1 u) → va_S A s.heap H locs → W p l e rm s m av.toArray below meth c H locs mc ms Q (F0 m pc ls [.int v])) →
      ∀ ls : Array Slot, lv_has ls maxL (lv_args 0 av) → W p l e rm s m av.toArray below meth c s.heap [] 0 0 Q (F0 m 0 ls [])) : cI l y ws rm g k wc sz av mc ms W1 post := by
  refine Met.ofW (cc := cc) (maxL := maxL) (ret := some .int) hy hw ?_
  intro p e s m args below meth c s₁ B hml hv
  obtain ⟨rfl, rfl, hP, hK, hD0⟩ := hv
  have hlocks := B.notSynchronized
  have hr := B.returns
  rw [lg_entry_eq]
  exact body p e s m below meth c _ (va_A wc s.heap.size) B.exec B.bytes hml (findClass_of_methodNamed B.named) (atoms_spec (ws := ws) B.pre) (fun q h => Or.inr h) hP hD0.self va_S.rf hK
    (fun v u H locs pc ls d hp hP hD hS => W.iret (v := v) B.exec B.bytes hr (fun t ht hW => ⟨⟨v, u, rfl, hp, by rw [ht]; exact hP, hD⟩, hS.F ht⟩) hS.2.2 d) _ (lv_entry av hen)
theorem st_ZI {S : Type} {l : Launch} {y : MethodName} {ws ws' : List Cond} {rm : Room} {g : va_G} {k : kT} {wc : va_W} {sz mc ms : Nat} {av : List Value} {W1 : S → va_W} {post : Int32 → S → Prop} {cc : ByteArray} {maxL : Nat}
    (hy : plainName y.cls = true) (hw : ws = Cond.code y cc maxL (some .boolean) :: ws') (hen : (lg_sl av).length ≤ maxL)
    (body : ∀ (p : Program) (e : Env) (s : State) (m : MethodId) (below : List Frame) (meth : Method) (c : Code) (Q : State → Prop) (A : Nat → Prop), p.tables.exec = Jvm.exec → c.code = cc → c.maxLocals = maxL → s.vm.findClass y.cls = some m.cls → (∀ w ∈ ws, w.before av.toArray s = true) → (∀ q, s.heap.size ≤ q → A q) → va_P g vwCl wc s.heap → va_D A wc → va_S A s.heap s.heap [] → gK g k s →
      (∀ (v : Int) (u : S) (H : Heap) (locs : List Loc) (pc : Nat) (ls : Array Slot), decode cc pc = .ok (.ireturn, 1) → v = 0 ∨ v = 1 → post (iI v) u → va_P g vwCl (W1 u) H → va_D A (W1 u) → va_S A s.heap H locs → W p l e rm s m av.toArray below meth c H locs mc ms Q (F0 m pc ls [.int (iI v)])) →
      ∀ ls : Array Slot, lv_has ls maxL (lv_args 0 av) → W p l e rm s m av.toArray below meth c s.heap [] 0 0 Q (F0 m 0 ls [])) : cI l y ws rm g k wc sz av mc ms W1 post := by
  refine Met.ofW (cc := cc) (maxL := maxL) (ret := some .boolean) hy hw ?_
  intro p e s m args below meth c s₁ B hml hv
  obtain ⟨rfl, rfl, hP, hK, hD0⟩ := hv
  have hlocks := B.notSynchronized
  have hr := B.returns
  rw [lg_entry_eq]
  exact body p e s m below meth c _ (va_A wc s.heap.size) B.exec B.bytes hml (findClass_of_methodNamed B.named) (atoms_spec (ws := ws) B.pre) (fun q h => Or.inr h) hP hD0.self va_S.rf hK
    (fun v u H locs pc ls d h01 hp hP hD hS => W.zret (v := iI v) B.exec B.bytes hr (by rcases h01 with rfl | rfl <;> rfl) (fun t ht hW => ⟨⟨iI v, u, rfl, hp, by rw [ht]; exact hP, hD⟩, hS.F ht⟩) hS.2.2 d) _ (lv_entry av hen)
end
section
/-! THE MATHEMATICS: a machine's run, by its codes c (the action of state s and symbol b is c (2 * s + b), none if below 0) -/
/-- state, head and tape behind k steps, none of which halts -/
def sC (c : Int → Int) : Nat → Int × Int × (Int → Int)
  | 0 => (0, 0, fun _ => 0)
  | k + 1 => match sC c k with
    | (s, h, t) => (c (2 * s + t h) / 4, (if c (2 * s + t h) / 2 % 2 = 0 then h - 1 else h + 1), up t h (c (2 * s + t h) % 2))
def sS (c : Int → Int) (k : Nat) : Int := (sC c k).1
def sH (c : Int → Int) (k : Nat) : Int := (sC c k).2.1
def sT (c : Int → Int) (k : Nat) : Int → Int := (sC c k).2.2
/-- the code of the action that step k + 1 takes -/
def zc (c : Int → Int) (k : Nat) : Int := c (2 * sS c k + sT c k (sH c k))
theorem sS_0 (c : Int → Int) : sS c 0 = 0 := rfl
theorem sH_0 (c : Int → Int) : sH c 0 = 0 := rfl
theorem sT_0 (c : Int → Int) : sT c 0 = fun _ => 0 := rfl
theorem sS_s (c : Int → Int) (k : Nat) : sS c (k + 1) = zc c k / 4 := rfl
theorem sH_s (c : Int → Int) (k : Nat) : sH c (k + 1) = if zc c k / 2 % 2 = 0 then sH c k - 1 else sH c k + 1 := rfl
theorem sT_s (c : Int → Int) (k : Nat) : sT c (k + 1) = up (sT c k) (sH c k) (zc c k % 2) := rfl
/-- the leftmost and the rightmost cell where the head was -/
def sL (c : Int → Int) : Nat → Int
  | 0 => 0
  | k + 1 => min (sL c k) (sH c (k + 1))
def sU (c : Int → Int) : Nat → Int
  | 0 => 0
  | k + 1 => max (sU c k) (sH c (k + 1))
/-- 1 where step k is a right record, -1 a left one, 0 else -/
def sR (c : Int → Int) : Nat → Int
  | 0 => 0
  | k + 1 => if sU c k < sH c (k + 1) then 1 else if sH c (k + 1) < sL c k then -1 else 0
/-- the ones on the tape -/
def sO (c : Int → Int) : Nat → Int
  | 0 => 0
  | k + 1 => sO c k + (zc c k % 2 - sT c k (sH c k))
/-- the first k steps all had an action -/
def alive (c : Int → Int) (k : Nat) : Prop := ∀ i, i < k → 0 ≤ zc c i
theorem alive_0 (c : Int → Int) : alive c 0 := fun _ h => absurd h (Nat.not_lt_zero _)
theorem alive_s {c : Int → Int} {k : Nat} (h : alive c k) (h2 : 0 ≤ zc c k) : alive c (k + 1) := fun i hi => by
  rcases Nat.lt_or_ge i k with q | q
  · exact h i q
  · rw [show i = k by omega]; exact h2
/-- codes of machines with at most four states -/
def okC (c : Int → Int) : Prop := ∀ j, 0 ≤ j → j < 8 → -1 ≤ c j ∧ c j < 16
theorem sT_01 (c : Int → Int) : ∀ (k : Nat) (j : Int), sT c k j = 0 ∨ sT c k j = 1
  | 0, j => Or.inl rfl
  | k + 1, j => by
    rw [sT_s]
    unfold up
    split
    · omega
    · exact sT_01 c k j
theorem sH_b (c : Int → Int) : ∀ k : Nat, -(k : Int) ≤ sH c k ∧ sH c k ≤ k
  | 0 => by rw [sH_0]; decide
  | k + 1 => by
    have h := sH_b c k
    rw [sH_s]
    split <;> omega
theorem sH_par (c : Int → Int) : ∀ k : Nat, (sH c k - k) % 2 = 0
  | 0 => by rw [sH_0]; rfl
  | k + 1 => by
    have h := sH_par c k
    rw [sH_s]
    split <;> omega
theorem sT_out (c : Int → Int) : ∀ (k : Nat) (j : Int), (j < -(k : Int) ∨ (k : Int) < j) → sT c k j = 0
  | 0, j, _ => rfl
  | k + 1, j, h => by
    have h1 := sH_b c k
    rw [sT_s, up_n (by omega)]
    exact sT_out c k j (by omega)
theorem sS_b {c : Int → Int} (hc : okC c) : ∀ k : Nat, alive c k → 0 ≤ sS c k ∧ sS c k < 4
  | 0, _ => by rw [sS_0]; decide
  | k + 1, h => by
    have h1 := sS_b hc k (fun i hi => h i (by omega))
    have h2 := h k (by omega)
    have h3 := sT_01 c k (sH c k)
    have h4 := hc (2 * sS c k + sT c k (sH c k)) (by omega) (by omega)
    rw [sS_s]
    unfold zc at h2 ⊢
    omega
theorem zc_b {c : Int → Int} (hc : okC c) {k : Nat} (h : alive c k) : -1 ≤ zc c k ∧ zc c k < 16 := by
  have h1 := sS_b hc k h
  have h3 := sT_01 c k (sH c k)
  exact hc _ (by omega) (by omega)
theorem sLU (c : Int → Int) : ∀ k : Nat, sL c k ≤ sH c k ∧ sH c k ≤ sU c k ∧ -(k : Int) ≤ sL c k ∧ sL c k ≤ 0 ∧ 0 ≤ sU c k ∧ sU c k ≤ k
  | 0 => by simp [sL, sU, sH_0]
  | k + 1 => by
    have h := sLU c k
    have h2 := sH_b c (k + 1)
    simp only [sL, sU]
    omega
theorem sR_b (c : Int → Int) : ∀ k : Nat, sR c k = 0 ∨ sR c k = 1 ∨ sR c k = -1
  | 0 => Or.inl rfl
  | k + 1 => by
    simp only [sR]
    split
    · exact Or.inr (Or.inl rfl)
    · split
      · exact Or.inr (Or.inr rfl)
      · exact Or.inl rfl
theorem sO_b (c : Int → Int) : ∀ k : Nat, -(k : Int) ≤ sO c k ∧ sO c k ≤ k
  | 0 => by simp [sO]
  | k + 1 => by
    have h := sO_b c k
    have h3 := sT_01 c k (sH c k)
    simp only [sO]
    omega
/-- the latest number below k with P, -1 if there is none -/
noncomputable def lat (P : Nat → Prop) : Nat → Int
  | 0 => -1
  | i + 1 => @ite _ (P i) (Classical.propDecidable _) (i : Int) (lat P i)
theorem lat_y {P : Nat → Prop} {i : Nat} (h : P i) : lat P (i + 1) = i := by
  show @ite _ (P i) (Classical.propDecidable _) (i : Int) (lat P i) = _
  rw [if_pos h]
theorem lat_n {P : Nat → Prop} {i : Nat} (h : ¬ P i) : lat P (i + 1) = lat P i := by
  show @ite _ (P i) (Classical.propDecidable _) (i : Int) (lat P i) = _
  rw [if_neg h]
theorem lat_b {P : Nat → Prop} : ∀ k : Nat, -1 ≤ lat P k ∧ lat P k < k
  | 0 => by show (-1 : Int) ≤ -1 ∧ (-1 : Int) < 0; decide
  | k + 1 => by
    have h := lat_b (P := P) k
    by_cases q : P k
    · rw [lat_y q]; omega
    · rw [lat_n q]; omega
theorem lat_P {P : Nat → Prop} : ∀ k : Nat, 0 ≤ lat P k → P (lat P k).toNat
  | 0, h => absurd h (by show ¬ (0 : Int) ≤ -1; decide)
  | k + 1, h => by
    by_cases q : P k
    · rw [lat_y q]; exact q
    · rw [lat_n q] at h ⊢; exact lat_P k h
/-- behind k steps it is as behind i steps -/
def cyc (c : Int → Int) (k i : Nat) : Prop := sS c i = sS c k ∧ sH c i = sH c k ∧ ∀ j, sT c i j = sT c k j
/-- the least of d times the head's cell, behind the steps k - n .. k -/
def far (c : Int → Int) (d : Int) (k : Nat) : Nat → Int
  | 0 => d * sH c k
  | n + 1 => min (far c d k n) (d * sH c (k - (n + 1)))
/-- the record k drifts from the record q -/
def dri (c : Int → Int) (k q : Nat) : Prop := 0 < q ∧ sR c q = sR c k ∧ sS c q = sS c k ∧ ∀ j : Int, 0 ≤ j → j ≤ sR c k * sH c q - far c (sR c k) k (k - q) → sT c q (sH c q - sR c k * j) = sT c k (sH c k - sR c k * j)
noncomputable def cyA (c : Int → Int) (k : Nat) : Int := lat (cyc c k) k
noncomputable def drA (c : Int → Int) (k : Nat) : Int := if sR c k = 0 then -1 else lat (dri c k) k
theorem cyA_b (c : Int → Int) (k : Nat) : -1 ≤ cyA c k ∧ cyA c k < k := lat_b k
theorem drA_b (c : Int → Int) (k : Nat) : -1 ≤ drA c k ∧ drA c k < k := by
  unfold drA
  split
  · omega
  · exact lat_b k
/-- outcome, steps, period, drift of a run that has taken k steps and takes at most f more -/
noncomputable def runF (c : Int → Int) : Nat → Nat → Int × Nat × Int × Int
  | 0, k => (0, k, 0, 0)
  | f + 1, k => if zc c k < 0 then (1, k + 1, 0, 0) else if 0 ≤ cyA c (k + 1) then (2, k + 1, (k + 1 : Nat) - cyA c (k + 1), 0) else if 0 ≤ drA c (k + 1) then (3, k + 1, (k + 1 : Nat) - drA c (k + 1), sH c (k + 1) - sH c (drA c (k + 1)).toNat) else runF c f (k + 1)
theorem cyc_par {c : Int → Int} {k i : Nat} (h : ((k : Int) - i) % 2 ≠ 0) : ¬ cyc c k i := fun q => by
  have h1 := sH_par c k
  have h2 := sH_par c i
  rw [q.2.1] at h2
  omega
theorem far_b (c : Int → Int) (d : Int) (hd : d = 1 ∨ d = -1) (k : Nat) : ∀ n : Nat, -(k : Int) ≤ far c d k n ∧ far c d k n ≤ k
  | 0 => by
    have h := sH_b c k
    show -(k : Int) ≤ d * sH c k ∧ d * sH c k ≤ k
    rcases hd with rfl | rfl <;> omega
  | n + 1 => by
    have h := far_b c d hd k n
    have h2 := sH_b c (k - (n + 1))
    simp only [far]
    rcases hd with rfl | rfl <;> omega
/-! the tape as words of 64 bits: bit b of word w is the cell 64 w + b - R -/
def bV (f : Nat → Bool) : (n : Nat) → BitVec n
  | 0 => 0#0
  | n + 1 => BitVec.cons (f n) (bV f n)
theorem bV_bit (f : Nat → Bool) : ∀ (n i : Nat), i < n → (bV f n).getLsbD i = f i
  | 0, i, h => absurd h (Nat.not_lt_zero _)
  | n + 1, i, h => by
    show (BitVec.cons (f n) (bV f n)).getLsbD i = f i
    rw [BitVec.getLsbD_cons]
    by_cases q : i = n
    · rw [if_pos q, q]
    · rw [if_neg q]; exact bV_bit f n i (by omega)
theorem ob_tb (x : BitVec 64) : (Int64.ofBitVec x).toBitVec = x := rfl
def bW (R : Int) (t : Int → Int) (w : Nat) : Int64 := Int64.ofBitVec (bV (fun b => decide (t (64 * w + b - R) = 1)) 64)
theorem bW_bit (R : Int) (t : Int → Int) (w b : Nat) (hb : b < 64) : (bW R t w).toBitVec.getLsbD b = decide (t (64 * w + b - R) = 1) := by
  unfold bW
  rw [ob_tb]
  exact bV_bit (fun b => decide (t (64 * w + b - R) = 1)) 64 b hb
theorem bW_0 (R : Int) (w : Nat) : bW R (fun _ => 0) w = 0 := by
  apply Int64.toBitVec_inj.mp
  apply BitVec.eq_of_getLsbD_eq
  intro i hi
  rw [bW_bit R _ w i hi]
  simp
theorem bW_eq {R : Int} {t u : Int → Int} (h : ∀ j, t j = u j) (w : Nat) : bW R t w = bW R u w := by
  rw [show t = u from funext h]
/-- reading a bit -/
theorem bW_rd (R : Int) (t : Int → Int) (w : Nat) (b : Int) (hb : 0 ≤ b ∧ b < 64) (h01 : t (64 * w + b - R) = 0 ∨ t (64 * w + b - R) = 1) : ((bW R t w).toUInt64 >>> ((iI b).toInt64.toUInt64 &&& Int64.toUInt64 63)).toInt64.toInt32 &&& iI 1 = iI (t (64 * w + b - R)) := by
  obtain ⟨n, rfl⟩ := Int.eq_ofNat_of_zero_le hb.1
  have hn : n < 64 := by omega
  have e1 : ((iI (n : Int)).toInt64.toUInt64 &&& Int64.toUInt64 63) = UInt64.ofNat n := by
    rw [iI_nI]
    have key : ∀ m : Fin 64, ((nI m.val).toInt64.toUInt64 &&& Int64.toUInt64 63) = UInt64.ofNat m.val := by decide +kernel
    exact key ⟨n, hn⟩
  rw [e1]
  apply Int32.toBitVec_inj.mp
  rw [Int32.toBitVec_and]
  apply BitVec.eq_of_getLsbD_eq
  intro i hi
  rw [BitVec.getLsbD_and]
  have e2 : ((bW R t w).toUInt64 >>> UInt64.ofNat n).toInt64.toInt32.toBitVec.getLsbD i = (bW R t w).toBitVec.getLsbD (n + i) := by
    show (((bW R t w).toUInt64 >>> UInt64.ofNat n).toBitVec.signExtend 32).getLsbD i = _
    rw [BitVec.getLsbD_signExtend]
    have e3 : ((bW R t w).toUInt64 >>> UInt64.ofNat n).toBitVec = (bW R t w).toBitVec >>> n := by
      show (bW R t w).toBitVec >>> ((UInt64.ofNat n).toBitVec % 64) = _
      rw [BitVec.ushiftRight_eq']
      congr 1
      show ((BitVec.ofNat 64 n) % (64#64)).toNat = n
      rw [BitVec.toNat_umod, BitVec.toNat_ofNat, BitVec.toNat_ofNat]
      simp only [Nat.reducePow, Nat.reduceMod]
      omega
    rw [e3]
    simp [hi, show i < 64 by omega, BitVec.getLsbD_ushiftRight]
  rw [e2]
  by_cases h0 : i = 0
  · subst h0
    have hbit := bW_bit R t w n hn
    rw [Nat.add_zero, hbit]
    rcases h01 with h | h <;> rw [h] <;> decide
  · have e4 : (iI 1).toBitVec.getLsbD i = false := by
      have key : ∀ m : Fin 32, m.val ≠ 0 → (iI 1).toBitVec.getLsbD m.val = false := by decide
      exact key ⟨i, hi⟩ h0
    rw [e4, Bool.and_false]
    rcases h01 with h | h <;> rw [h]
    · have key : ∀ m : Fin 32, false = (iI 0).toBitVec.getLsbD m.val := by decide
      exact key ⟨i, hi⟩
    · exact e4.symm
/-- turning a bit over -/
theorem bW_wr (R : Int) (t : Int → Int) (w : Nat) (b : Int) (hb : 0 ≤ b ∧ b < 64) (x : Int) (h : (t (64 * w + b - R) = 0 ∧ x = 1) ∨ (t (64 * w + b - R) = 1 ∧ x = 0)) : vp_updL (bW R t) w (bW R t w ^^^ ((1 : Int64) <<< ((iI b).toInt64 &&& 63))) = bW R (up t (64 * w + b - R) x) := by
  obtain ⟨n, rfl⟩ := Int.eq_ofNat_of_zero_le hb.1
  have hn : n < 64 := by omega
  have e1 : ((1 : Int64) <<< ((iI (n : Int)).toInt64 &&& 63)).toBitVec = BitVec.twoPow 64 n := by
    rw [iI_nI]
    have key : ∀ m : Fin 64, ((1 : Int64) <<< ((nI m.val).toInt64 &&& 63)).toBitVec = BitVec.twoPow 64 m.val := by decide +kernel
    exact key ⟨n, hn⟩
  funext j
  unfold vp_updL
  apply Int64.toBitVec_inj.mp
  apply BitVec.eq_of_getLsbD_eq
  intro i hi
  rw [bW_bit R _ j i hi]
  unfold up
  by_cases hj : j = w
  · subst hj
    rw [if_pos rfl, Int64.toBitVec_xor, BitVec.getLsbD_xor, e1, BitVec.getLsbD_twoPow, bW_bit R t j i hi]
    by_cases hin : i = n
    · subst hin
      rw [if_pos rfl]
      rcases h with ⟨h1, h2⟩ | ⟨h1, h2⟩
      · rw [h1, h2]; simp [hi]
      · rw [h1, h2]; simp [hi]
    · rw [if_neg (by omega)]
      simp [show ¬ n = i from fun q => hin q.symm]
  · rw [if_neg hj, bW_bit R t j i hi, if_neg (by omega)]
end
section
/-! MORE ROWS: new arrays, copies -/
theorem arr_one {g : va_G} {cl : List vw_C} {t1 t2 : List (ClassId × FieldType)} {s : State} {c1 c2 : ClassId} {i j : Nat} {ty : FieldType} (h1 : va_K g cl t1 s) (h2 : va_K g cl t2 s) (hi : t1[i]? = some (c1, ty)) (hj : t2[j]? = some (c2, ty)) (ht : ∀ C, ty ≠ .object C) : c1 = c2 := by
  have a := (h1.2 i _ hi).2
  have b := (h2.2 j _ hj).2
  cases ty with
  | object C => exact absurd rfl (ht C)
  | _ => exact Option.some.inj (a.symm.trans b)
def cpI (F G : Int → Int) (sp dp n : Int) : Int → Int := fun j => if dp ≤ j ∧ j < dp + n then F (sp + (j - dp)) else G j
theorem n9_ng {N : Nat} (hN : N < 100000) : ¬ iI (N : Int) < 0 := fun h => by
  rw [iI_0, iI_lt (by omega) (by omega)] at h
  omega
theorem n9_cl {N : Nat} (hN : N < 100000) : (iI (N : Int)).toNatClampNeg = N := by rw [iI_cl (by omega), Int.toNat_natCast]
theorem n9_i (N : Nat) (cA : ClassId) : vp_cell cA (N, .inl (iF (fun _ => 0))) = arrV cA N (fun _ => defaultValue .int) := by rw [vp_cell_i]; rfl
theorem n9_l (N : Nat) (cA : ClassId) : vp_cell cA (N, .inr (.inl (fun _ => 0))) = arrV cA N (fun _ => defaultValue .long) := by rw [vp_cell_l]; rfl
theorem n9_bi {N : Nat} (hN : N < 100000) : N * componentBytes .int ≤ 536870912 := by
  rw [show componentBytes .int = 4 from rfl]
  omega
theorem n9_bl {N : Nat} (hN : N < 100000) : N * componentBytes .long ≤ 536870912 := by
  rw [show componentBytes .long = 8 from rfl]
  omega
section R9
variable {p : Program} {l : Launch} {e : Env} {R : Room} {s : State} {m : MethodId} {args : Array Value} {below : List Frame} {meth : Method} {c : Code} {H : Heap} {locs : List Loc} {cells slots : Nat} {Q : State → Prop}
variable {cc : ByteArray} {pc : Nat} {ls : Array Slot} {rest : List Value} {g : va_G} {k : kT} {A : Nat → Prop} {ws : va_W} {H0 : Heap} {a : Nat}
theorem ri_newaI (hexec : p.tables.exec = Jvm.exec) (hb : c.code = cc) (harr : (Cond.arrayClass .int).before args s = true) (hK : gK g k s) (hP : va_P g vwCl ws H) (hD : va_D A ws) (hS : va_S A H0 H locs) (hA : ∀ q, H0.size ≤ q → A q)
    {n : Int} (N : Nat) (hn : n = (N : Int) ∧ N < 100000) (hcells : cells + 1 ≤ R.cells) (hslots : slots + N ≤ R.slots) (hdg : decode cc pc = .ok (.newarray .int, 2))
    (kk : ∀ (q : Nat) (H1 : Heap), va_P g vwCl (ws ++ [(q, .inl (k.1, N, .inl (iF (fun _ => 0))))]) H1 → va_D A (ws ++ [(q, .inl (k.1, N, .inl (iF (fun _ => 0))))]) → va_S A H0 H1 locs →
      W p l e R s m args below meth c H1 locs (cells + 1) (slots + N) Q (F0 m (pc + 2) ls (.ref q :: rest))) : W p l e R s m args below meth c H locs cells slots Q (F0 m pc ls (.int (iI n) :: rest)) := by
  obtain ⟨rfl, hN⟩ := hn
  refine va_newa (atype := .int) (ty := .int) (n := iI (N : Int)) (N' := N) (a0 := (N, .inl (iF (fun _ => 0)))) hexec hb harr rfl hK.1 hP hD hS hA (n9_i N) (n9_ng hN) (n9_cl hN) (n9_bi hN) hcells hslots hdg (fun q cA H1 hK1 hP1 hD1 hS1 => ?_)
  · have e1 : cA = k.1 := arr_one (i := 3) (j := 0) hK1 hK.1 rfl rfl (fun _ h => by cases h)
    subst e1
    exact kk q H1 hP1 hD1 hS1
theorem ri_newaJ (hexec : p.tables.exec = Jvm.exec) (hb : c.code = cc) (harr : (Cond.arrayClass .long).before args s = true) (hK : gK g k s) (hP : va_P g vwCl ws H) (hD : va_D A ws) (hS : va_S A H0 H locs) (hA : ∀ q, H0.size ≤ q → A q)
    {n : Int} (N : Nat) (hn : n = (N : Int) ∧ N < 100000) (hcells : cells + 1 ≤ R.cells) (hslots : slots + N ≤ R.slots) (hdg : decode cc pc = .ok (.newarray .long, 2))
    (kk : ∀ (q : Nat) (H1 : Heap), va_P g vwCl (ws ++ [(q, .inl (k.2.1, N, .inr (.inl (fun _ => 0))))]) H1 → va_D A (ws ++ [(q, .inl (k.2.1, N, .inr (.inl (fun _ => 0))))]) → va_S A H0 H1 locs →
      W p l e R s m args below meth c H1 locs (cells + 1) (slots + N) Q (F0 m (pc + 2) ls (.ref q :: rest))) : W p l e R s m args below meth c H locs cells slots Q (F0 m pc ls (.int (iI n) :: rest)) := by
  obtain ⟨rfl, hN⟩ := hn
  refine va_newa (atype := .long) (ty := .long) (n := iI (N : Int)) (N' := N) (a0 := (N, .inr (.inl (fun _ => 0)))) hexec hb harr rfl hK.1 hP hD hS hA (n9_l N) (n9_ng hN) (n9_cl hN) (n9_bl hN) hcells hslots hdg (fun q cA H1 hK1 hP1 hD1 hS1 => ?_)
  · have e1 : cA = k.2.1 := arr_one (i := 3) (j := 1) hK1 hK.1 rfl rfl (fun _ h => by cases h)
    subst e1
    exact kk q H1 hP1 hD1 hS1
theorem ri_copyI (hexec : p.tables.exec = Jvm.exec) (hb : c.code = cc) (hml : c.maxLocals = ls.size) {own : String} {index : Nat} (hown : s.vm.findClass own = some m.cls) (hlink : (Cond.methodLink own index arraycopyName).before args s = true) (hnat : (Cond.native arraycopyName).before args s = true) (hstat : (Cond.static arraycopyName).before args s = true) (hini : (Cond.initialized "java/lang/System").before args s = true)
    (hK : gK g k s) (hP : va_P g vwCl ws H) (hD : va_D A ws) (hS : va_S A H0 H locs) (q0 q1 : Nat) {a0 : Nat} {n0 n1 : Nat} {F G : Int → Int} (ha0 : ws[q0]? = some (a0, .inl (k.1, n0, .inl (iF F)))) (ha1 : ws[q1]? = some (a, .inl (k.1, n1, .inl (iF G))))
    {sp dp n : Int} (h : 0 ≤ sp ∧ 0 ≤ dp ∧ 0 ≤ n ∧ sp + n ≤ n0 ∧ dp + n ≤ n1 ∧ n0 < 100000 ∧ n1 < 100000)
    (hframes : 1 ≤ R.frames) (hlocals : (rest.map fun v => v.category).sum + (nativeFrameWords "java/lang/System" "arraycopy" 5 + 11) ≤ R.locals) (hdg : decode cc pc = .ok (.invokestatic index, 3))
    (kk : ∀ (H1 : Heap) (locs1 : List Loc), va_P g vwCl (ws.set q1 (a, .inl (k.1, n1, .inl (iF (cpI F G sp dp n))))) H1 → va_D A (ws.set q1 (a, .inl (k.1, n1, .inl (iF (cpI F G sp dp n))))) → va_S A H0 H1 locs1 → W p l e R s m args below meth c H1 locs1 cells slots Q (F0 m (pc + 3) ls rest)) : W p l e R s m args below meth c H locs cells slots Q (F0 m pc ls (.int (iI n) :: .int (iI dp) :: .ref a :: .int (iI sp) :: .ref a0 :: rest)) := by
  obtain ⟨h1, h2, h3, h4, h5, h6, h7⟩ := h
  have ng : ∀ z : Int, 0 ≤ z → z < 200000 → ¬ iI z < 0 := fun z z1 z2 q => by rw [iI_0, iI_lt (by omega) (by omega)] at q; omega
  have c1 := iI_cl (a := sp) (by omega)
  have c2 := iI_cl (a := dp) (by omega)
  have c3 := iI_cl (a := n) (by omega)
  refine va_copyi (ty := .int) hexec hb hml hown hlink hnat hstat hini hK.1 hP hD hS q0 q1 0 0 ha0 ha1 rfl rfl rfl (ng sp h1 (by omega)) (ng dp h2 (by omega)) (ng n h3 (by omega)) (by rw [c1, c3]; omega) (by rw [c2, c3]; omega) (fun i _ => rfl) hframes hlocals hdg ?_
  have e1 : va_cpy (iF F) (iF G) (iI sp).toNatClampNeg (iI dp).toNatClampNeg (iI n).toNatClampNeg = iF (cpI F G sp dp n) := by
    rw [c1, c2, c3]
    funext j
    unfold va_cpy cpI iF
    by_cases q : dp.toNat ≤ j ∧ j < dp.toNat + n.toNat
    · rw [if_pos q]
      show _ = iI (if _ then _ else _)
      rw [if_pos (by omega)]
      congr 2
      omega
    · rw [if_neg q]
      show _ = iI (if _ then _ else _)
      rw [if_neg (by omega)]
  rw [e1]
  exact kk
theorem ri_copyJ (hexec : p.tables.exec = Jvm.exec) (hb : c.code = cc) (hml : c.maxLocals = ls.size) {own : String} {index : Nat} (hown : s.vm.findClass own = some m.cls) (hlink : (Cond.methodLink own index arraycopyName).before args s = true) (hnat : (Cond.native arraycopyName).before args s = true) (hstat : (Cond.static arraycopyName).before args s = true) (hini : (Cond.initialized "java/lang/System").before args s = true)
    (hK : gK g k s) (hP : va_P g vwCl ws H) (hD : va_D A ws) (hS : va_S A H0 H locs) (q0 q1 : Nat) {a0 : Nat} {n0 n1 : Nat} {F G : Nat → Int64} (ha0 : ws[q0]? = some (a0, .inl (k.2.1, n0, .inr (.inl F)))) (ha1 : ws[q1]? = some (a, .inl (k.2.1, n1, .inr (.inl G))))
    {sp dp n : Int} (h : 0 ≤ sp ∧ 0 ≤ dp ∧ 0 ≤ n ∧ sp + n ≤ n0 ∧ dp + n ≤ n1 ∧ n0 < 100000 ∧ n1 < 100000)
    (hframes : 1 ≤ R.frames) (hlocals : (rest.map fun v => v.category).sum + (nativeFrameWords "java/lang/System" "arraycopy" 5 + 11) ≤ R.locals) (hdg : decode cc pc = .ok (.invokestatic index, 3))
    (kk : ∀ (H1 : Heap) (locs1 : List Loc), va_P g vwCl (ws.set q1 (a, .inl (k.2.1, n1, .inr (.inl (va_cpy F G sp.toNat dp.toNat n.toNat))))) H1 → va_D A (ws.set q1 (a, .inl (k.2.1, n1, .inr (.inl (va_cpy F G sp.toNat dp.toNat n.toNat))))) → va_S A H0 H1 locs1 → W p l e R s m args below meth c H1 locs1 cells slots Q (F0 m (pc + 3) ls rest)) : W p l e R s m args below meth c H locs cells slots Q (F0 m pc ls (.int (iI n) :: .int (iI dp) :: .ref a :: .int (iI sp) :: .ref a0 :: rest)) := by
  obtain ⟨h1, h2, h3, h4, h5, h6, h7⟩ := h
  have ng : ∀ z : Int, 0 ≤ z → z < 200000 → ¬ iI z < 0 := fun z z1 z2 q => by rw [iI_0, iI_lt (by omega) (by omega)] at q; omega
  have c1 := iI_cl (a := sp) (by omega)
  have c2 := iI_cl (a := dp) (by omega)
  have c3 := iI_cl (a := n) (by omega)
  refine va_copyl (ty := .long) hexec hb hml hown hlink hnat hstat hini hK.1 hP hD hS q0 q1 1 1 ha0 ha1 rfl rfl rfl (ng sp h1 (by omega)) (ng dp h2 (by omega)) (ng n h3 (by omega)) (by rw [c1, c3]; omega) (by rw [c2, c3]; omega) (fun i _ => rfl) hframes hlocals hdg ?_
  rw [c1, c2, c3]
  exact kk
end R9
end
section
/-! THE CLASS Machine: a number of states and eight codes -/
abbrev wMa (k : kT) (q qc : Nat) (n : Int) (F : Int → Int) : va_W := [(q, .inr (0, [.int (iI n), .ref qc])), (qc, .inl (k.1, 8, .inl (iF F)))]
abbrev rm_0 : Room := { frames := 0, cells := 0, slots := 0, locals := 0 }
abbrev rm_1 : Room := { frames := 1, cells := 0, slots := 0, locals := 32 }
set_option maxHeartbeats 4000000 in
set_option maxRecDepth 100000 in
theorem c_hasPlace (l : Launch) (g : va_G) (k : kT) (q qc : Nat) (n : Int) (F : Int → Int) (st sy : Int) (hn : 2 ≤ n ∧ n ≤ 4) (hst : -2147483648 ≤ st ∧ st < 2147483648) (hsy : -2147483648 ≤ sy ∧ sy < 2147483648) : cP l yX0_hasPlace wsX0_hasPlace rm_0 g k (wMa k q qc n F) [.ref q, .int (iI st), .int (iI sy)] (fun r => r = iI (if 0 ≤ st ∧ st < n ∧ (sy = 0 ∨ sy = 1) then 1 else 0)) := by
  refine st_Z (by decide) rfl (Nat.le_of_ble_eq_true rfl) ?_
  intro p e s m below meth c Q hx hb hml hown hts hP hK hret ls hl
  have hown : s.vm.findClass RX0 = some m.cls := hown
  have f9 := hts (.fieldLink RX0 9 "MachineTree$Machine" "states" "I") (by decide +kernel)
  have inX0 := (by decide +kernel : ∀ w ∈ wsX00, w ∈ wsX0_hasPlace)
  have hl : lv_has ls 3 [(0, .ref q), (1, .int (iI st)), (2, .int (iI sy))] := hl
  refine lv_iload_n hx hb dX0_hasPlace_0 rfl (lv_at hl 1 rfl) ?_
  refine ri_if_lt (a := st) (tgt := 25) hx hb (by omega) dX0_hasPlace_1 (by decide) (fun c1 => ?_) (fun c1 => ?_)
  · skip
    refine lv_iconst (v := iI 0) hx hb dX0_hasPlace_25 rfl ?_
    exact hret 0 _ _ dX0_hasPlace_26 (by first | exact Or.inl rfl | exact Or.inr rfl | omega) (by show iI 0 = iI _; congr 1; omega)
  · skip
    refine lv_iload_n hx hb dX0_hasPlace_4 rfl (lv_at hl 1 rfl) ?_
    refine lv_aload_n hx hb dX0_hasPlace_5 rfl (lv_at hl 0 rfl) ?_
    refine va_get (D := g) (ci := 0) (v := .int (iI n)) (C := RX0) (T := TX0) (N := 2) hx hb hts inX0 hown hK.1 hP 0 rfl rfl 0 (by decide) f9 (fun _ h9 => h9) rfl dX0_hasPlace_6 ?_
    refine ri_icmp_ge (a := st) (b := n) (tgt := 25) hx hb (by omega) (by omega) dX0_hasPlace_9 (by decide) (fun c9 => ?_) (fun c9 => ?_)
    · skip
      refine lv_iconst (v := iI 0) hx hb dX0_hasPlace_25 rfl ?_
      exact hret 0 _ _ dX0_hasPlace_26 (by first | exact Or.inl rfl | exact Or.inr rfl | omega) (by show iI 0 = iI _; congr 1; omega)
    · skip
      refine lv_iload_n hx hb dX0_hasPlace_12 rfl (lv_at hl 2 rfl) ?_
      refine ri_if_eq (a := sy) (tgt := 21) hx hb (by omega) dX0_hasPlace_13 (by decide) (fun c13 => ?_) (fun c13 => ?_)
      · skip
        refine lv_iconst (v := iI 1) hx hb dX0_hasPlace_21 rfl ?_
        refine lv_goto (tgt := 26) hx hb dX0_hasPlace_22 (by decide) ?_
        exact hret 1 _ _ dX0_hasPlace_26 (by first | exact Or.inl rfl | exact Or.inr rfl | omega) (by show iI 1 = iI _; congr 1; omega)
      · skip
        refine lv_iload_n hx hb dX0_hasPlace_16 rfl (lv_at hl 2 rfl) ?_
        refine lv_iconst (v := iI 1) hx hb dX0_hasPlace_17 rfl ?_
        refine ri_icmp_ne (a := sy) (b := 1) (tgt := 25) hx hb (by omega) (by omega) dX0_hasPlace_18 (by decide) (fun c18 => ?_) (fun c18 => ?_)
        · skip
          refine lv_iconst (v := iI 0) hx hb dX0_hasPlace_25 rfl ?_
          exact hret 0 _ _ dX0_hasPlace_26 (by first | exact Or.inl rfl | exact Or.inr rfl | omega) (by show iI 0 = iI _; congr 1; omega)
        · skip
          refine lv_iconst (v := iI 1) hx hb dX0_hasPlace_21 rfl ?_
          refine lv_goto (tgt := 26) hx hb dX0_hasPlace_22 (by decide) ?_
          exact hret 1 _ _ dX0_hasPlace_26 (by first | exact Or.inl rfl | exact Or.inr rfl | omega) (by show iI 1 = iI _; congr 1; omega)

set_option maxHeartbeats 4000000 in
set_option maxRecDepth 100000 in
theorem c_allows (l : Launch) (g : va_G) (k : kT) (q qc : Nat) (n : Int) (F : Int → Int) (co : Int) (hn : 2 ≤ n ∧ n ≤ 4) (hco : -2147483648 ≤ co ∧ co < 2147483648) : cP l yX0_allows wsX0_allows rm_0 g k (wMa k q qc n F) [.ref q, .int (iI co)] (fun r => r = iI (if -1 ≤ co ∧ co < 4 * n then 1 else 0)) := by
  refine st_Z (by decide) rfl (Nat.le_of_ble_eq_true rfl) ?_
  intro p e s m below meth c Q hx hb hml hown hts hP hK hret ls hl
  have hown : s.vm.findClass RX0 = some m.cls := hown
  have f9 := hts (.fieldLink RX0 9 "MachineTree$Machine" "states" "I") (by decide +kernel)
  have inX0 := (by decide +kernel : ∀ w ∈ wsX00, w ∈ wsX0_allows)
  have hl : lv_has ls 2 [(0, .ref q), (1, .int (iI co))] := hl
  refine lv_iload_n hx hb dX0_allows_0 rfl (lv_at hl 1 rfl) ?_
  refine lv_iconst (v := iI (-1)) hx hb dX0_allows_1 rfl ?_
  refine ri_icmp_lt (a := co) (b := (-1)) (tgt := 19) hx hb (by omega) (by omega) dX0_allows_2 (by decide) (fun c2 => ?_) (fun c2 => ?_)
  · skip
    refine lv_iconst (v := iI 0) hx hb dX0_allows_19 rfl ?_
    exact hret 0 _ _ dX0_allows_20 (by first | exact Or.inl rfl | exact Or.inr rfl | omega) (by show iI 0 = iI _; congr 1; omega)
  · skip
    refine lv_iload_n hx hb dX0_allows_5 rfl (lv_at hl 1 rfl) ?_
    refine lv_iconst (v := iI 4) hx hb dX0_allows_6 rfl ?_
    refine lv_aload_n hx hb dX0_allows_7 rfl (lv_at hl 0 rfl) ?_
    refine va_get (D := g) (ci := 0) (v := .int (iI n)) (C := RX0) (T := TX0) (N := 2) hx hb hts inX0 hown hK.1 hP 0 rfl rfl 0 (by decide) f9 (fun _ h9 => h9) rfl dX0_allows_8 ?_
    refine ri_imul (a := 4) (b := n) hx hb dX0_allows_11 ?_
    refine ri_icmp_ge (a := co) (b := (4 * n)) (tgt := 19) hx hb (by omega) (by omega) dX0_allows_12 (by decide) (fun c12 => ?_) (fun c12 => ?_)
    · skip
      refine lv_iconst (v := iI 0) hx hb dX0_allows_19 rfl ?_
      exact hret 0 _ _ dX0_allows_20 (by first | exact Or.inl rfl | exact Or.inr rfl | omega) (by show iI 0 = iI _; congr 1; omega)
    · skip
      refine lv_iconst (v := iI 1) hx hb dX0_allows_15 rfl ?_
      refine lv_goto (tgt := 20) hx hb dX0_allows_16 (by decide) ?_
      exact hret 1 _ _ dX0_allows_20 (by first | exact Or.inl rfl | exact Or.inr rfl | omega) (by show iI 1 = iI _; congr 1; omega)

set_option maxHeartbeats 4000000 in
set_option maxRecDepth 100000 in
theorem c_codeAt (l : Launch) (g : va_G) (k : kT) (q qc : Nat) (n : Int) (F : Int → Int) (st sy : Int) (hp : 0 ≤ 2 * st + sy ∧ 2 * st + sy < 8) : cP l yX0_codeAt wsX0_codeAt rm_0 g k (wMa k q qc n F) [.ref q, .int (iI st), .int (iI sy)] (fun r => r = iI (F (2 * st + sy))) := by
  refine st_P (by decide) rfl (Nat.le_of_ble_eq_true rfl) ?_
  intro p e s m below meth c Q hx hb hml hown hts hP hK hret ls hl
  have hown : s.vm.findClass RX0 = some m.cls := hown
  have f15 := hts (.fieldLink RX0 15 "MachineTree$Machine" "codes" "[I") (by decide +kernel)
  have inX0 := (by decide +kernel : ∀ w ∈ wsX00, w ∈ wsX0_codeAt)
  have hl : lv_has ls 4 [(0, .ref q), (1, .int (iI st)), (2, .int (iI sy))] := hl
  refine lv_iconst (v := iI 2) hx hb dX0_codeAt_0 rfl ?_
  refine lv_iload_n hx hb dX0_codeAt_1 rfl (lv_at hl 1 rfl) ?_
  refine ri_imul (a := 2) (b := st) hx hb dX0_codeAt_2 ?_
  refine lv_iload_n hx hb dX0_codeAt_3 rfl (lv_at hl 2 rfl) ?_
  refine ri_iadd (a := (2 * st)) (b := sy) hx hb dX0_codeAt_4 ?_
  refine lv_istore_n (lv' := [(3, .int (iI ((2 * st) + sy))), (0, .ref q), (1, .int (iI st)), (2, .int (iI sy))]) hx hb dX0_codeAt_5 rfl hl (by decide) rfl (fun ls hl => ?_)
  refine lv_iload_n hx hb dX0_codeAt_6 rfl (lv_at hl 0 rfl) ?_
  refine ri_if_lt (a := ((2 * st) + sy)) (tgt := 28) hx hb (by omega) dX0_codeAt_7 (by decide) (fun c7 => ?_) (fun c7 => ?_)
  · exact absurd c7 (by omega)
  · skip
    refine lv_iload_n hx hb dX0_codeAt_10 rfl (lv_at hl 0 rfl) ?_
    refine lv_aload_n hx hb dX0_codeAt_11 rfl (lv_at hl 1 rfl) ?_
    refine va_get (D := g) (ci := 0) (v := .ref qc) (C := RX0) (T := TX0) (N := 2) hx hb hts inX0 hown hK.1 hP 0 rfl rfl 1 (by decide) f15 (fun _ h9 => h9) rfl dX0_codeAt_12 ?_
    refine ri_alen hx hb hK.1 hP 1 0 rfl rfl dX0_codeAt_15 ?_
    refine ri_ex (b := 8) rfl ?_
    refine ri_icmp_ge (a := ((2 * st) + sy)) (b := 8) (tgt := 28) hx hb (by omega) (by omega) dX0_codeAt_16 (by decide) (fun c16 => ?_) (fun c16 => ?_)
    · exact absurd c16 (by omega)
    · skip
      refine lv_aload_n hx hb dX0_codeAt_19 rfl (lv_at hl 1 rfl) ?_
      refine va_get (D := g) (ci := 0) (v := .ref qc) (C := RX0) (T := TX0) (N := 2) hx hb hts inX0 hown hK.1 hP 0 rfl rfl 1 (by decide) f15 (fun _ h9 => h9) rfl dX0_codeAt_20 ?_
      refine lv_iload_n hx hb dX0_codeAt_23 rfl (lv_at hl 0 rfl) ?_
      refine ri_iald (F := F) (i := ((2 * st) + sy)) hx hb hK.1 hP 1 0 rfl rfl (by omega) (by omega) dX0_codeAt_24 ?_
      refine lv_goto (tgt := 29) hx hb dX0_codeAt_25 (by decide) ?_
      exact hret (iI (F ((2 * st) + sy))) _ _ dX0_codeAt_29 rfl

set_option maxHeartbeats 4000000 in
set_option maxRecDepth 100000 in
theorem c_put (l : Launch) (g : va_G) (k : kT) (q qc : Nat) (n : Int) (F : Int → Int) (sz : Nat) (st sy co : Int) (hp : 0 ≤ 2 * st + sy ∧ 2 * st + sy < 8) : cV l yX0_put wsX0_put rm_0 g k (wMa k q qc n F) sz [.ref q, .int (iI st), .int (iI sy), .int (iI co)] 0 0 (fun _ : Unit => wMa k q qc n (up F (2 * st + sy) co)) (fun _ => True) := by
  refine st_V (by decide) rfl (Nat.le_of_ble_eq_true rfl) ?_
  intro p e s m below meth c Q A hx hb hml hown hts hin hA hP hD hS hK hret ls hl
  have hown : s.vm.findClass RX0 = some m.cls := hown
  have f15 := hts (.fieldLink RX0 15 "MachineTree$Machine" "codes" "[I") (by decide +kernel)
  have inX0 := (by decide +kernel : ∀ w ∈ wsX00, w ∈ wsX0_put)
  have hl : lv_has ls 5 [(0, .ref q), (1, .int (iI st)), (2, .int (iI sy)), (3, .int (iI co))] := hl
  obtain ⟨H, hH⟩ : ∃ H, H = s.heap := ⟨_, rfl⟩
  obtain ⟨locs, hlo⟩ : ∃ L : List Loc, L = [] := ⟨_, rfl⟩
  rw [← hH] at hP
  have hS : va_S A s.heap H locs := by rw [hH, hlo]; exact hS
  rw [show W p l e rm_0 s m ([.ref q, .int (iI st), .int (iI sy), .int (iI co)] : List Value).toArray below meth c s.heap [] 0 0 Q (F0 m 0 ls []) = W p l e rm_0 s m ([.ref q, .int (iI st), .int (iI sy), .int (iI co)] : List Value).toArray below meth c H locs 0 0 Q (F0 m 0 ls []) by rw [hH, hlo]]
  clear hH hlo
  refine lv_iconst (v := iI 2) hx hb dX0_put_0 rfl ?_
  refine lv_iload_n hx hb dX0_put_1 rfl (lv_at hl 1 rfl) ?_
  refine ri_imul (a := 2) (b := st) hx hb dX0_put_2 ?_
  refine lv_iload_n hx hb dX0_put_3 rfl (lv_at hl 2 rfl) ?_
  refine ri_iadd (a := (2 * st)) (b := sy) hx hb dX0_put_4 ?_
  refine lv_istore (lv' := [(4, .int (iI ((2 * st) + sy))), (0, .ref q), (1, .int (iI st)), (2, .int (iI sy)), (3, .int (iI co))]) hx hb dX0_put_5 hl (by decide) rfl (fun ls hl => ?_)
  refine lv_iload hx hb dX0_put_7 (lv_at hl 0 rfl) ?_
  refine ri_if_lt (a := ((2 * st) + sy)) (tgt := 30) hx hb (by omega) dX0_put_9 (by decide) (fun c9 => ?_) (fun c9 => ?_)
  · exact absurd c9 (by omega)
  · skip
    refine lv_iload hx hb dX0_put_12 (lv_at hl 0 rfl) ?_
    refine lv_aload_n hx hb dX0_put_14 rfl (lv_at hl 1 rfl) ?_
    refine va_get (D := g) (ci := 0) (v := .ref qc) (C := RX0) (T := TX0) (N := 2) hx hb hts inX0 hown hK.1 hP 0 rfl rfl 1 (by decide) f15 (fun _ h9 => h9) rfl dX0_put_15 ?_
    refine ri_alen hx hb hK.1 hP 1 0 rfl rfl dX0_put_18 ?_
    refine ri_ex (b := 8) rfl ?_
    refine ri_icmp_ge (a := ((2 * st) + sy)) (b := 8) (tgt := 30) hx hb (by omega) (by omega) dX0_put_19 (by decide) (fun c19 => ?_) (fun c19 => ?_)
    · exact absurd c19 (by omega)
    · skip
      refine lv_aload_n hx hb dX0_put_22 rfl (lv_at hl 1 rfl) ?_
      refine va_get (D := g) (ci := 0) (v := .ref qc) (C := RX0) (T := TX0) (N := 2) hx hb hts inX0 hown hK.1 hP 0 rfl rfl 1 (by decide) f15 (fun _ h9 => h9) rfl dX0_put_23 ?_
      refine lv_iload hx hb dX0_put_26 (lv_at hl 0 rfl) ?_
      refine lv_iload_n hx hb dX0_put_28 rfl (lv_at hl 4 rfl) ?_
      refine ri_iast (F := F) (i := ((2 * st) + sy)) (x := co) hx hb hK.1 hP hD hS 1 0 rfl rfl (by omega) (by omega) dX0_put_29 (fun H locs hP hD hS => ?_)
      have hP : va_P g vwCl [(q, .inr (0, [.int (iI n), .ref qc])), (qc, .inl (k.1, 8, .inl (iF (up F ((2 * st) + sy) co))))] H := hP
      have hD : va_D A [(q, .inr (0, [.int (iI n), .ref qc])), (qc, .inl (k.1, 8, .inl (iF (up F ((2 * st) + sy) co))))] := hD
      exact hret () _ _ _ _ dX0_put_30 trivial hP hD hS

/-- the greatest next state among the first j codes -/
def gN (F : Int → Int) : Nat → Int
  | 0 => 0
  | j + 1 => max (gN F j) (F j / 4)
theorem gN_s (F : Int → Int) (i : Int) (h : 0 ≤ i) : gN F (i + 1).toNat = max (gN F i.toNat) (F i / 4) := by
  rw [show (i + 1).toNat = i.toNat + 1 by omega]
  show max (gN F i.toNat) (F ((i.toNat : Nat) : Int) / 4) = _
  rw [Int.toNat_of_nonneg h]
theorem gN_le (F : Int → Int) (hF : okC F) : ∀ j, j ≤ 8 → 0 ≤ gN F j ∧ gN F j < 4
  | 0, _ => by simp [gN]
  | j + 1, h => by
    have h1 := gN_le F hF j (by omega)
    have h2 := hF j (by omega) (by omega)
    simp only [gN]
    omega
set_option maxHeartbeats 4000000 in
set_option maxRecDepth 100000 in
theorem c_greatestNext (l : Launch) (g : va_G) (k : kT) (q qc : Nat) (n : Int) (F : Int → Int) (hF : okC F) : cP l yX0_greatestNext wsX0_greatestNext rm_1 g k (wMa k q qc n F) [.ref q] (fun r => r = iI (gN F 8)) := by
  refine st_P (by decide) rfl (Nat.le_of_ble_eq_true rfl) ?_
  intro p e s m below meth c Q hx hb hml hown hts hP hK hret ls hl
  have hown : s.vm.findClass RX0 = some m.cls := hown
  have f15 := hts (.fieldLink RX0 15 "MachineTree$Machine" "codes" "[I") (by decide +kernel)
  have inX0 := (by decide +kernel : ∀ w ∈ wsX00, w ∈ wsX0_greatestNext)
  have hl : lv_has ls 6 [(0, .ref q)] := hl
  refine lv_iconst (v := iI 0) hx hb dX0_greatestNext_0 rfl ?_
  refine lv_istore_n (lv' := [(1, .int (iI 0)), (0, .ref q)]) hx hb dX0_greatestNext_1 rfl hl (by decide) rfl (fun ls hl => ?_)
  refine lv_aload_n hx hb dX0_greatestNext_2 rfl (lv_at hl 1 rfl) ?_
  refine va_get (D := g) (ci := 0) (v := .ref qc) (C := RX0) (T := TX0) (N := 2) hx hb hts inX0 hown hK.1 hP 0 rfl rfl 1 (by decide) f15 (fun _ h9 => h9) rfl dX0_greatestNext_3 ?_
  refine lv_astore_n (lv' := [(2, .ref qc), (1, .int (iI 0)), (0, .ref q)]) hx hb dX0_greatestNext_6 rfl hl (by decide) rfl (fun ls hl => ?_)
  refine lv_aload_n hx hb dX0_greatestNext_7 rfl (lv_at hl 0 rfl) ?_
  refine ri_alen hx hb hK.1 hP 1 0 rfl rfl dX0_greatestNext_8 ?_
  refine ri_ex (b := 8) rfl ?_
  refine lv_istore_n (lv' := [(3, .int (iI 8)), (2, .ref qc), (1, .int (iI 0)), (0, .ref q)]) hx hb dX0_greatestNext_9 rfl hl (by decide) rfl (fun ls hl => ?_)
  refine lv_iconst (v := iI 0) hx hb dX0_greatestNext_10 rfl ?_
  refine lv_istore (lv' := [(4, .int (iI 0)), (3, .int (iI 8)), (2, .ref qc), (1, .int (iI 0)), (0, .ref q)]) hx hb dX0_greatestNext_11 hl (by decide) rfl (fun ls hl => ?_)
  have J13 : ∀ (n9 : Nat) (i : Int) (x : Int), 8 - i < (n9 : Int) → (0 ≤ i ∧ i ≤ 8) → (x = gN F i.toNat) → ∀ (ls : Array Slot), lv_has ls 6 [(0, .ref q), (1, .int (iI x)), (2, .ref qc), (3, .int (iI 8)), (4, .int (iI i))] → W p l e rm_1 s m ([.ref q] : List Value).toArray below meth c s.heap [] 0 0 Q (F0 m 13 ls []) := by
    intro n9
    induction n9 with
    | zero => intro i x hm9 hi hx9; exact absurd hm9 (by omega)
    | succ n9 ih =>
      intro i x hm9 hi hx9 ls hl
      refine lv_iload hx hb dX0_greatestNext_13 (lv_at hl 4 rfl) ?_
      refine lv_iload_n hx hb dX0_greatestNext_15 rfl (lv_at hl 3 rfl) ?_
      refine ri_icmp_ge (a := i) (b := 8) (tgt := 40) hx hb (by omega) (by omega) dX0_greatestNext_16 (by decide) (fun c16 => ?_) (fun c16 => ?_)
      · skip
        refine lv_iload_n hx hb dX0_greatestNext_40 rfl (lv_at hl 1 rfl) ?_
        exact hret (iI x) _ _ dX0_greatestNext_41 (by rw [hx9, show i.toNat = 8 by omega])
      · skip
        have hg := gN_le F hF i.toNat (by omega)
        have hf := hF i (by omega) (by omega)
        refine lv_aload_n hx hb dX0_greatestNext_19 rfl (lv_at hl 2 rfl) ?_
        refine lv_iload hx hb dX0_greatestNext_20 (lv_at hl 4 rfl) ?_
        refine ri_iald (F := F) (i := i) hx hb hK.1 hP 1 0 rfl rfl (by omega) (by omega) dX0_greatestNext_22 ?_
        refine lv_istore (lv' := [(5, .int (iI (F i))), (0, .ref q), (1, .int (iI x)), (2, .ref qc), (3, .int (iI 8)), (4, .int (iI i))]) hx hb dX0_greatestNext_23 hl (by decide) rfl (fun ls hl => ?_)
        refine lv_iload_n hx hb dX0_greatestNext_25 rfl (lv_at hl 2 rfl) ?_
        refine lv_iload hx hb dX0_greatestNext_26 (lv_at hl 0 rfl) ?_
        refine lv_iconst (v := iI 2) hx hb dX0_greatestNext_28 rfl ?_
        refine ri_shr (a := (F i)) (b := 2) hx hb (by omega) 2 (by decide) dX0_greatestNext_29 ?_
        refine ri_ex (b := ((F i) / 4)) (by first | rfl | simp | omega) ?_
        refine va_mmax hx hb (by rw [hml]; exact hl.1.symm) hown (hts (.methodLink RX0 25 Lib.Math.max.name) (by decide +kernel)) (hts (.static Lib.Math.max.name) (by decide +kernel)) (hts (.initialized "java/lang/Math") (by decide +kernel)) (hts (.code Lib.Math.max.name Lib.Math.max.code 2 (some .int)) (by decide +kernel)) (Nat.le_of_ble_eq_true rfl) (Nat.le_of_ble_eq_true rfl) (Nat.le_of_ble_eq_true rfl) (Nat.le_of_ble_eq_true rfl) dX0_greatestNext_30 ?_
        refine ri_top (iI_max (a := x) (b := ((F i) / 4)) (by omega) (by omega)) ?_
        refine lv_istore_n (lv' := [(1, .int (iI (max x ((F i) / 4)))), (5, .int (iI (F i))), (0, .ref q), (2, .ref qc), (3, .int (iI 8)), (4, .int (iI i))]) hx hb dX0_greatestNext_33 rfl hl (by decide) rfl (fun ls hl => ?_)
        refine ri_iinc (x := i) (lv' := [(4, .int (iI (i + 1))), (1, .int (iI (max x ((F i) / 4)))), (5, .int (iI (F i))), (0, .ref q), (2, .ref qc), (3, .int (iI 8))]) hx hb dX0_greatestNext_34 hl (k := 5) rfl (by decide) rfl (fun ls hl => ?_)
        refine lv_goto (tgt := 13) hx hb dX0_greatestNext_37 (by decide) ?_
        exact ih (i + 1) (max x ((F i) / 4)) (by omega) (by omega) (by rw [gN_s F i hi.1, ← hx9]) _ (lv_sub hl [3, 1, 4, 5, 0] rfl)
  exact J13 ((8 - 0 : Int).toNat.succ) 0 0 (by omega) (by omega) rfl _ (lv_sub hl [4, 3, 2, 1, 0] rfl)
end
section
set_option maxHeartbeats 4000000 in
set_option maxRecDepth 100000 in
theorem c_fillI (l : Launch) (g : va_G) (k : kT) (a N : Nat) (F : Int → Int) (sz : Nat) (v : Int) (hN : N < 100000) : cV l yJ7_fill_53178 wsJ7_fill_53178 rm_0 g k [(a, .inl (k.1, N, .inl (iF F)))] sz [.ref a, .int (iI v)] 0 0 (fun u : Int → Int => [(a, .inl (k.1, N, .inl (iF u)))]) (fun u => ∀ j : Int, 0 ≤ j → j < N → u j = v) := by
  refine st_V (by decide) rfl (Nat.le_of_ble_eq_true rfl) ?_
  intro p e s m below meth c Q A hx hb hml hown hts hin hA hP hD hS hK hret ls hl
  have hown : s.vm.findClass RJ7 = some m.cls := hown
  have hl : lv_has ls 4 [(0, .ref a), (1, .int (iI v))] := hl
  obtain ⟨H, hH⟩ : ∃ H, H = s.heap := ⟨_, rfl⟩
  obtain ⟨locs, hlo⟩ : ∃ L : List Loc, L = [] := ⟨_, rfl⟩
  rw [← hH] at hP
  have hS : va_S A s.heap H locs := by rw [hH, hlo]; exact hS
  rw [show W p l e rm_0 s m ([.ref a, .int (iI v)] : List Value).toArray below meth c s.heap [] 0 0 Q (F0 m 0 ls []) = W p l e rm_0 s m ([.ref a, .int (iI v)] : List Value).toArray below meth c H locs 0 0 Q (F0 m 0 ls []) by rw [hH, hlo]]
  clear hH hlo
  refine lv_iconst (v := iI 0) hx hb dJ7_fill_53178_0 rfl ?_
  refine lv_istore_n (lv' := [(2, .int (iI 0)), (0, .ref a), (1, .int (iI v))]) hx hb dJ7_fill_53178_1 rfl hl (by decide) rfl (fun ls hl => ?_)
  refine lv_aload_n hx hb dJ7_fill_53178_2 rfl (lv_at hl 1 rfl) ?_
  refine ri_alen hx hb hK.1 hP 0 0 rfl rfl dJ7_fill_53178_3 ?_
  refine ri_ex (b := ((N : Nat) : Int)) rfl ?_
  refine lv_istore_n (lv' := [(3, .int (iI ((N : Nat) : Int))), (2, .int (iI 0)), (0, .ref a), (1, .int (iI v))]) hx hb dJ7_fill_53178_4 rfl hl (by decide) rfl (fun ls hl => ?_)
  have J5 : ∀ (n9 : Nat) (i : Int) (G : Int → Int), (N : Int) - i < (n9 : Int) → (0 ≤ i ∧ i ≤ N) → (∀ j, 0 ≤ j → j < i → G j = v) → ∀ (ls : Array Slot), lv_has ls 4 [(0, .ref a), (1, .int (iI v)), (2, .int (iI i)), (3, .int (iI ((N : Nat) : Int)))] → ∀ (H : Heap) (locs : List Loc), va_P g vwCl [(a, .inl (k.1, N, .inl (iF G)))] H → va_D A [(a, .inl (k.1, N, .inl (iF G)))] → va_S A s.heap H locs → W p l e rm_0 s m ([.ref a, .int (iI v)] : List Value).toArray below meth c H locs 0 0 Q (F0 m 5 ls []) := by
    intro n9
    induction n9 with
    | zero => intro i G hm9 hi hG; exact absurd hm9 (by omega)
    | succ n9 ih =>
      intro i G hm9 hi hG ls hl H locs hP hD hS
      refine lv_iload_n hx hb dJ7_fill_53178_5 rfl (lv_at hl 2 rfl) ?_
      refine lv_iload_n hx hb dJ7_fill_53178_6 rfl (lv_at hl 3 rfl) ?_
      refine ri_icmp_ge (a := i) (b := ((N : Nat) : Int)) (tgt := 20) hx hb (by omega) (by omega) dJ7_fill_53178_7 (by decide) (fun c7 => ?_) (fun c7 => ?_)
      · skip
        exact hret G _ _ _ _ dJ7_fill_53178_20 (fun j h1 h2 => hG j h1 (by omega)) hP hD hS
      · skip
        refine lv_aload_n hx hb dJ7_fill_53178_10 rfl (lv_at hl 0 rfl) ?_
        refine lv_iload_n hx hb dJ7_fill_53178_11 rfl (lv_at hl 2 rfl) ?_
        refine lv_iload_n hx hb dJ7_fill_53178_12 rfl (lv_at hl 1 rfl) ?_
        refine ri_iast (F := G) (i := i) (x := v) hx hb hK.1 hP hD hS 0 0 rfl rfl (by omega) (by omega) dJ7_fill_53178_13 (fun H locs hP hD hS => ?_)
        have hP : va_P g vwCl [(a, .inl (k.1, N, .inl (iF (up G i v))))] H := hP
        have hD : va_D A [(a, .inl (k.1, N, .inl (iF (up G i v))))] := hD
        refine ri_iinc (x := i) (lv' := [(2, .int (iI (i + 1))), (0, .ref a), (1, .int (iI v)), (3, .int (iI ((N : Nat) : Int)))]) hx hb dJ7_fill_53178_14 hl (k := 2) rfl (by decide) rfl (fun ls hl => ?_)
        refine lv_goto (tgt := 5) hx hb dJ7_fill_53178_17 (by decide) ?_
        exact ih (i + 1) (up G i v) (by omega) (by omega) (fun j h1 h2 => by by_cases q : j = i <;> simp only [up, q, if_true, if_false]; exact hG j h1 (by omega)) _ (lv_sub hl [1, 2, 0, 3] rfl) _ _ hP hD hS
  exact J5 (((N : Int) - 0 : Int).toNat.succ) 0 F (by omega) (by omega) (fun j h1 h2 => absurd h2 (by omega)) _ (lv_sub hl [2, 3, 1, 0] rfl) _ _ hP hD hS

set_option maxHeartbeats 4000000 in
set_option maxRecDepth 100000 in
theorem c_fillJ (l : Launch) (g : va_G) (k : kT) (a N : Nat) (f : Nat → Int64) (sz : Nat) (v : Int64) (hN : N < 100000) : cV l yJ7_fill_d0a16 wsJ7_fill_d0a16 rm_0 g k [(a, .inl (k.2.1, N, .inr (.inl f)))] sz [.ref a, .long v] 0 0 (fun u : Nat → Int64 => [(a, .inl (k.2.1, N, .inr (.inl u)))]) (fun u => ∀ j : Nat, j < N → u j = v) := by
  refine st_V (by decide) rfl (Nat.le_of_ble_eq_true rfl) ?_
  intro p e s m below meth c Q A hx hb hml hown hts hin hA hP hD hS hK hret ls hl
  have hown : s.vm.findClass RJ7 = some m.cls := hown
  have hl : lv_has ls 5 [(0, .ref a), (1, .long v)] := hl
  obtain ⟨H, hH⟩ : ∃ H, H = s.heap := ⟨_, rfl⟩
  obtain ⟨locs, hlo⟩ : ∃ L : List Loc, L = [] := ⟨_, rfl⟩
  rw [← hH] at hP
  have hS : va_S A s.heap H locs := by rw [hH, hlo]; exact hS
  rw [show W p l e rm_0 s m ([.ref a, .long v] : List Value).toArray below meth c s.heap [] 0 0 Q (F0 m 0 ls []) = W p l e rm_0 s m ([.ref a, .long v] : List Value).toArray below meth c H locs 0 0 Q (F0 m 0 ls []) by rw [hH, hlo]]
  clear hH hlo
  refine lv_iconst (v := iI 0) hx hb dJ7_fill_d0a16_0 rfl ?_
  refine lv_istore_n (lv' := [(3, .int (iI 0)), (0, .ref a), (1, .long v)]) hx hb dJ7_fill_d0a16_1 rfl hl (by decide) rfl (fun ls hl => ?_)
  refine lv_aload_n hx hb dJ7_fill_d0a16_2 rfl (lv_at hl 1 rfl) ?_
  refine ri_alen hx hb hK.1 hP 0 1 rfl rfl dJ7_fill_d0a16_3 ?_
  refine ri_ex (b := ((N : Nat) : Int)) rfl ?_
  refine lv_istore (lv' := [(4, .int (iI ((N : Nat) : Int))), (3, .int (iI 0)), (0, .ref a), (1, .long v)]) hx hb dJ7_fill_d0a16_4 hl (by decide) rfl (fun ls hl => ?_)
  have J6 : ∀ (n9 : Nat) (i : Int) (G : Nat → Int64), (N : Int) - i < (n9 : Int) → (0 ≤ i ∧ i ≤ N) → (∀ j : Nat, (j : Int) < i → G j = v) → ∀ (ls : Array Slot), lv_has ls 5 [(0, .ref a), (1, .long v), (3, .int (iI i)), (4, .int (iI ((N : Nat) : Int)))] → ∀ (H : Heap) (locs : List Loc), va_P g vwCl [(a, .inl (k.2.1, N, .inr (.inl G)))] H → va_D A [(a, .inl (k.2.1, N, .inr (.inl G)))] → va_S A s.heap H locs → W p l e rm_0 s m ([.ref a, .long v] : List Value).toArray below meth c H locs 0 0 Q (F0 m 6 ls []) := by
    intro n9
    induction n9 with
    | zero => intro i G hm9 hi hG; exact absurd hm9 (by omega)
    | succ n9 ih =>
      intro i G hm9 hi hG ls hl H locs hP hD hS
      refine lv_iload_n hx hb dJ7_fill_d0a16_6 rfl (lv_at hl 2 rfl) ?_
      refine lv_iload hx hb dJ7_fill_d0a16_7 (lv_at hl 3 rfl) ?_
      refine ri_icmp_ge (a := i) (b := ((N : Nat) : Int)) (tgt := 22) hx hb (by omega) (by omega) dJ7_fill_d0a16_9 (by decide) (fun c9 => ?_) (fun c9 => ?_)
      · skip
        exact hret G _ _ _ _ dJ7_fill_d0a16_22 (fun j h1 => hG j (by omega)) hP hD hS
      · skip
        refine lv_aload_n hx hb dJ7_fill_d0a16_12 rfl (lv_at hl 0 rfl) ?_
        refine lv_iload_n hx hb dJ7_fill_d0a16_13 rfl (lv_at hl 2 rfl) ?_
        refine lv_lload_n hx hb dJ7_fill_d0a16_14 rfl (lv_at hl 1 rfl) ?_
        refine ri_last (f := G) (i := i) (x := v) hx hb hK.1 hP hD hS 0 1 rfl rfl (by omega) (by omega) dJ7_fill_d0a16_15 (fun H locs hP hD hS => ?_)
        have hP : va_P g vwCl [(a, .inl (k.2.1, N, .inr (.inl (vp_updL G (i : Int).toNat v))))] H := hP
        have hD : va_D A [(a, .inl (k.2.1, N, .inr (.inl (vp_updL G (i : Int).toNat v))))] := hD
        refine ri_iinc (x := i) (lv' := [(3, .int (iI (i + 1))), (0, .ref a), (1, .long v), (4, .int (iI ((N : Nat) : Int)))]) hx hb dJ7_fill_d0a16_16 hl (k := 2) rfl (by decide) rfl (fun ls hl => ?_)
        refine lv_goto (tgt := 6) hx hb dJ7_fill_d0a16_19 (by decide) ?_
        exact ih (i + 1) (vp_updL G (i : Int).toNat v) (by omega) (by omega) (fun j h1 => by by_cases q : j = i.toNat <;> simp only [vp_updL, q, if_true, if_false]; exact hG j (by omega)) _ (lv_sub hl [1, 2, 0, 3] rfl) _ _ hP hD hS
  exact J6 (((N : Int) - 0 : Int).toNat.succ) 0 f (by omega) (by omega) (fun j h1 => absurd h1 (by omega)) _ (lv_sub hl [2, 3, 1, 0] rfl) _ _ hP hD hS

abbrev rm_M : Room := { frames := 1, cells := 1, slots := 8, locals := 40 }
set_option maxHeartbeats 4000000 in
set_option maxRecDepth 100000 in
theorem c_Machine (l : Launch) (g : va_G) (k : kT) (q : Nat) (sz : Nat) (n : Int) : cV l yX0_init wsX0_init rm_M g k [(q, .inr (0, [.int (iI 0), .null]))] sz [.ref q, .int (iI n)] 1 8 (fun u : Nat × (Int → Int) => wMa k q u.1 n u.2) (fun u => ∀ j : Int, 0 ≤ j → j < 8 → u.2 j = -1) := by
  refine st_V (by decide) rfl (Nat.le_of_ble_eq_true rfl) ?_
  intro p e s m below meth c Q A hx hb hml hown hts hin hA hP hD hS hK hret ls hl
  have hown : s.vm.findClass RX0 = some m.cls := hown
  have f9 := hts (.fieldLink RX0 9 "MachineTree$Machine" "states" "I") (by decide +kernel)
  have inX0 := (by decide +kernel : ∀ w ∈ wsX00, w ∈ wsX0_init)
  have f15 := hts (.fieldLink RX0 15 "MachineTree$Machine" "codes" "[I") (by decide +kernel)
  have hl : lv_has ls 2 [(0, .ref q), (1, .int (iI n))] := hl
  obtain ⟨H, hH⟩ : ∃ H, H = s.heap := ⟨_, rfl⟩
  obtain ⟨locs, hlo⟩ : ∃ L : List Loc, L = [] := ⟨_, rfl⟩
  rw [← hH] at hP
  have hS : va_S A s.heap H locs := by rw [hH, hlo]; exact hS
  rw [show W p l e rm_M s m ([.ref q, .int (iI n)] : List Value).toArray below meth c s.heap [] 0 0 Q (F0 m 0 ls []) = W p l e rm_M s m ([.ref q, .int (iI n)] : List Value).toArray below meth c H locs 0 0 Q (F0 m 0 ls []) by rw [hH, hlo]]
  clear hH hlo
  refine lv_aload_n hx hb dX0_init_0 rfl (lv_at hl 0 rfl) ?_
  refine W.objInit hx hb hown (hts (.methodLink RX0 3 objectInit) (by decide +kernel)) (hts (.instanceMethod objectInit) (by decide +kernel)) (hts (.code objectInit ⟨#[0xb1]⟩ 1 none) (by decide +kernel)) rfl (by rw [hml]; exact hl.1) rfl dX0_init_1 (Nat.le_of_ble_eq_true rfl) (Nat.le_of_ble_eq_true rfl) ?_
  refine W.eq (g2 := F0 m 4 ls []) rfl ?_
  refine lv_aload_n hx hb dX0_init_4 rfl (lv_at hl 0 rfl) ?_
  refine lv_iload_n hx hb dX0_init_5 rfl (lv_at hl 1 rfl) ?_
  refine va_putF (D := g) (ci := 0) (v := .int (iI n)) (ty := .int) (C := RX0) (T := TX0) (N := 2) hx hb hts inX0 tyX0 tyX0_ok nmX0 hown hK.1 hP hD hS 0 rfl rfl 0 (by decide) f9 (fun _ h9 => h9) rfl hin rfl (by decide +kernel) rfl rfl (Nat.le_of_ble_eq_true rfl) dX0_init_6 (fun H locs hP hD hS => ?_)
  have hP : va_P g vwCl [(q, .inr (0, [.int (iI n), .null]))] H := hP
  have hD : va_D A [(q, .inr (0, [.int (iI n), .null]))] := hD
  refine lv_aload_n hx hb dX0_init_9 rfl (lv_at hl 0 rfl) ?_
  refine lv_bipush (v := iI 8) hx hb dX0_init_10 (by decide) ?_
  refine ri_newaI (n := 8) (N := 8) hx hb (hts (.arrayClass .int) (by decide +kernel)) hK hP hD hS hA (by omega) (Nat.le_of_ble_eq_true rfl) (Nat.le_of_ble_eq_true rfl) dX0_init_12 (fun q12 H hP hD hS => ?_)
  have hP : va_P g vwCl [(q, .inr (0, [.int (iI n), .null])), (q12, .inl (k.1, 8, .inl (iF (fun _ => 0))))] H := hP
  have hD : va_D A [(q, .inr (0, [.int (iI n), .null])), (q12, .inl (k.1, 8, .inl (iF (fun _ => 0))))] := hD
  refine W.widen (k := 1) (n := 8) (Nat.le_refl _) (Nat.le_refl _) ?_
  refine va_putF (D := g) (ci := 0) (v := .ref q12) (ty := (tyX0 1)) (C := RX0) (T := TX0) (N := 2) hx hb hts inX0 tyX0 tyX0_ok nmX0 hown hK.1 hP hD hS 0 rfl rfl 1 (by decide) f15 (fun _ h9 => h9) rfl hin rfl (by decide +kernel) rfl rfl (Nat.le_of_ble_eq_true rfl) dX0_init_14 (fun H locs hP hD hS => ?_)
  have hP : va_P g vwCl [(q, .inr (0, [.int (iI n), .ref q12])), (q12, .inl (k.1, 8, .inl (iF (fun _ => 0))))] H := hP
  have hD : va_D A [(q, .inr (0, [.int (iI n), .ref q12])), (q12, .inl (k.1, 8, .inl (iF (fun _ => 0))))] := hD
  refine lv_aload_n hx hb dX0_init_17 rfl (lv_at hl 0 rfl) ?_
  refine va_get (D := g) (ci := 0) (v := .ref q12) (C := RX0) (T := TX0) (N := 2) hx hb hts inX0 hown hK.1 hP 0 rfl rfl 1 (by decide) f15 (fun _ h9 => h9) rfl dX0_init_18 ?_
  refine lv_iconst (v := iI (-1)) hx hb dX0_init_21 rfl ?_
  refine rc_SV (own := RX0) (wc := [(q12, .inl (k.1, 8, .inl (iF (fun _ => 0))))]) (wr := [(q, .inr (0, [.int (iI n), .ref q12]))]) (As := [.ref q12, .int (iI (-1))]) (rest := []) ⟨hx, hb, hml, hown, hts⟩ (c_fillI l g k q12 8 (fun _ => 0) H.size (-1) (by decide)) (va_cwS 2 hts gX0_init_J7_fill_53178 rfl rfl rfl (by decide +kernel) ⟨Nat.le_of_ble_eq_true rfl, Nat.le_of_ble_eq_true rfl⟩) hK hP hD hS hA [1] [0] rfl (by decide) rfl (by decide) (by decide) rfl rfl hl.1 (Nat.le_of_ble_eq_true rfl) ⟨Nat.le_of_ble_eq_true rfl, Nat.le_of_ble_eq_true rfl⟩ dX0_init_22 (fun cs H locs hu22 hP hD hS => ?_)
  have hP : va_P g vwCl [(q, .inr (0, [.int (iI n), .ref q12])), (q12, .inl (k.1, 8, .inl (iF cs)))] H := hP
  have hD : va_D A [(q, .inr (0, [.int (iI n), .ref q12])), (q12, .inl (k.1, 8, .inl (iF cs)))] := hD
  have hP := hP.sub (ws' := [(q, .inr (0, [.int (iI n), .ref q12])), (q12, .inl (k.1, 8, .inl (iF cs)))]) [0, 1] rfl
  have hD := hD.sub (ws' := [(q, .inr (0, [.int (iI n), .ref q12])), (q12, .inl (k.1, 8, .inl (iF cs)))]) [0, 1] (by decide) rfl
  exact hret (q12, cs) _ _ _ _ dX0_init_25 (fun j h1 h2 => hu22 j h1 (by omega)) hP hD hS

set_option maxHeartbeats 4000000 in
set_option maxRecDepth 100000 in
theorem c_copyFrom (l : Launch) (g : va_G) (k : kT) (q qc : Nat) (n : Int) (F : Int → Int) (q2 qd : Nat) (n2 : Int) (G : Int → Int) (sz : Nat) : cV l yX0_copyFrom wsX0_copyFrom rm_1 g k (wMa k q qc n F ++ wMa k q2 qd n2 G) sz [.ref q, .ref q2] 0 0 (fun u : Int → Int => wMa k q qc n u ++ wMa k q2 qd n2 G) (fun u => ∀ j : Int, 0 ≤ j → j < 8 → u j = G j) := by
  refine st_V (by decide) rfl (Nat.le_of_ble_eq_true rfl) ?_
  intro p e s m below meth c Q A hx hb hml hown hts hin hA hP hD hS hK hret ls hl
  have hown : s.vm.findClass RX0 = some m.cls := hown
  have f15 := hts (.fieldLink RX0 15 "MachineTree$Machine" "codes" "[I") (by decide +kernel)
  have inX0 := (by decide +kernel : ∀ w ∈ wsX00, w ∈ wsX0_copyFrom)
  have hl : lv_has ls 2 [(0, .ref q), (1, .ref q2)] := hl
  obtain ⟨H, hH⟩ : ∃ H, H = s.heap := ⟨_, rfl⟩
  obtain ⟨locs, hlo⟩ : ∃ L : List Loc, L = [] := ⟨_, rfl⟩
  rw [← hH] at hP
  have hS : va_S A s.heap H locs := by rw [hH, hlo]; exact hS
  rw [show W p l e rm_1 s m ([.ref q, .ref q2] : List Value).toArray below meth c s.heap [] 0 0 Q (F0 m 0 ls []) = W p l e rm_1 s m ([.ref q, .ref q2] : List Value).toArray below meth c H locs 0 0 Q (F0 m 0 ls []) by rw [hH, hlo]]
  clear hH hlo
  refine lv_aload_n hx hb dX0_copyFrom_0 rfl (lv_at hl 1 rfl) ?_
  refine va_get (D := g) (ci := 0) (v := .ref qd) (C := RX0) (T := TX0) (N := 2) hx hb hts inX0 hown hK.1 hP 2 rfl rfl 1 (by decide) f15 (fun _ h9 => h9) rfl dX0_copyFrom_1 ?_
  refine lv_iconst (v := iI 0) hx hb dX0_copyFrom_4 rfl ?_
  refine lv_aload_n hx hb dX0_copyFrom_5 rfl (lv_at hl 0 rfl) ?_
  refine va_get (D := g) (ci := 0) (v := .ref qc) (C := RX0) (T := TX0) (N := 2) hx hb hts inX0 hown hK.1 hP 0 rfl rfl 1 (by decide) f15 (fun _ h9 => h9) rfl dX0_copyFrom_6 ?_
  refine lv_iconst (v := iI 0) hx hb dX0_copyFrom_9 rfl ?_
  refine lv_aload_n hx hb dX0_copyFrom_10 rfl (lv_at hl 0 rfl) ?_
  refine va_get (D := g) (ci := 0) (v := .ref qc) (C := RX0) (T := TX0) (N := 2) hx hb hts inX0 hown hK.1 hP 0 rfl rfl 1 (by decide) f15 (fun _ h9 => h9) rfl dX0_copyFrom_11 ?_
  refine ri_alen hx hb hK.1 hP 1 0 rfl rfl dX0_copyFrom_14 ?_
  refine ri_ex (b := 8) rfl ?_
  refine lv_aload_n hx hb dX0_copyFrom_15 rfl (lv_at hl 1 rfl) ?_
  refine va_get (D := g) (ci := 0) (v := .ref qd) (C := RX0) (T := TX0) (N := 2) hx hb hts inX0 hown hK.1 hP 2 rfl rfl 1 (by decide) f15 (fun _ h9 => h9) rfl dX0_copyFrom_16 ?_
  refine ri_alen hx hb hK.1 hP 3 0 rfl rfl dX0_copyFrom_19 ?_
  refine ri_ex (b := 8) rfl ?_
  refine va_mmin hx hb (by rw [hml]; exact hl.1.symm) hown (hts (.methodLink RX0 31 Lib.Math.min.name) (by decide +kernel)) (hts (.static Lib.Math.min.name) (by decide +kernel)) (hts (.initialized "java/lang/Math") (by decide +kernel)) (hts (.code Lib.Math.min.name Lib.Math.min.code 2 (some .int)) (by decide +kernel)) (Nat.le_of_ble_eq_true rfl) (Nat.le_of_ble_eq_true rfl) (Nat.le_of_ble_eq_true rfl) (Nat.le_of_ble_eq_true rfl) dX0_copyFrom_20 ?_
  refine ri_top (iI_min (a := 8) (b := 8) (by omega) (by omega)) ?_
  refine ri_copyI (F := G) (G := F) (sp := 0) (dp := 0) (n := (min 8 8)) hx hb (by rw [hml]; exact hl.1.symm) hown (hts (.methodLink RX0 34 arraycopyName) (by decide +kernel)) (hts (.native arraycopyName) (by decide +kernel)) (hts (.static arraycopyName) (by decide +kernel)) (hts (.initialized "java/lang/System") (by decide +kernel)) hK hP hD hS 3 1 rfl rfl (by omega) (Nat.le_of_ble_eq_true rfl) (Nat.le_of_ble_eq_true rfl) dX0_copyFrom_23 (fun H locs hP hD hS => ?_)
  have hP : va_P g vwCl [(q, .inr (0, [.int (iI n), .ref qc])), (qc, .inl (k.1, 8, .inl (iF (cpI G F 0 0 (min 8 8))))), (q2, .inr (0, [.int (iI n2), .ref qd])), (qd, .inl (k.1, 8, .inl (iF G)))] H := hP
  have hD : va_D A [(q, .inr (0, [.int (iI n), .ref qc])), (qc, .inl (k.1, 8, .inl (iF (cpI G F 0 0 (min 8 8))))), (q2, .inr (0, [.int (iI n2), .ref qd])), (qd, .inl (k.1, 8, .inl (iF G)))] := hD
  exact hret _ _ _ _ _ dX0_copyFrom_26 (fun j h1 h2 => by show cpI _ _ _ _ _ j = _; unfold cpI; rw [if_pos (by omega)]; congr 1; omega) hP hD hS
end
section
/-! THE CLASS Walk: the small methods -/
abbrev rm_2 : Room := { frames := 2, cells := 0, slots := 0, locals := 60 }
abbrev rm_3 : Room := { frames := 3, cells := 0, slots := 0, locals := 90 }
abbrev rm_4 : Room := { frames := 4, cells := 0, slots := 0, locals := 120 }
abbrev rm_5 : Room := { frames := 5, cells := 0, slots := 0, locals := 150 }
theorem up_self {α : Type} (F : Int → α) (i : Int) : up F i (F i) = F := by
  funext j
  unfold up
  by_cases h : j = i
  · rw [if_pos h, h]
  · rw [if_neg h]
/-- a Walk of reach 300 -/
abbrev wO300 (w t0 t1 a0 a1 a2 : Nat) (o st pe dr sta hd on lf rt : Int) : Nat × va_E := (w, .inr (2, [.int (iI 300), .int (iI 10), .ref t0, .ref t1, .ref a0, .ref a1, .ref a2, .int (iI o), .int (iI st), .int (iI pe), .int (iI dr), .int (iI sta), .int (iI hd), .int (iI on), .int (iI lf), .int (iI rt)]))
abbrev wW300 (k : kT) (w t0 t1 a0 a1 a2 : Nat) (o st pe dr sta hd on lf rt : Int) (tp tps : Nat → Int64) (hs ss sd : Int → Int) : va_W := [(w, .inr (2, [.int (iI 300), .int (iI 10), .ref t0, .ref t1, .ref a0, .ref a1, .ref a2, .int (iI o), .int (iI st), .int (iI pe), .int (iI dr), .int (iI sta), .int (iI hd), .int (iI on), .int (iI lf), .int (iI rt)])), (t0, .inl (k.2.1, 10, .inr (.inl tp))), (t1, .inl (k.2.1, 3010, .inr (.inl tps))), (a0, .inl (k.1, 301, .inl (iF hs))), (a1, .inl (k.1, 301, .inl (iF ss))), (a2, .inl (k.1, 301, .inl (iF sd)))]
set_option maxHeartbeats 4000000 in
set_option maxRecDepth 100000 in
theorem c_symbolIn300 (l : Launch) (g : va_G) (k : kT) (w t0 t1 a0 a1 a2 : Nat) (o st pe dr sta hd on lf rt : Int) (ra N : Nat) (f : Nat → Int64) (fr ce : Int) (t : Int → Int) (h01 : ∀ j, t j = 0 ∨ t j = 1) (ht0 : ∀ j, (j < -300 ∨ 300 < j) → t j = 0) (hfr : 0 ≤ fr ∧ fr + 10 ≤ N ∧ N < 100000) (hf : ∀ w : Nat, w < 10 → f (fr.toNat + w) = bW 300 t w) (hce : -2147483648 ≤ ce ∧ ce < 2147483648) : cP l yX2_symbolIn wsX2_symbolIn rm_0 g k [wO300 w t0 t1 a0 a1 a2 o st pe dr sta hd on lf rt, (ra, .inl (k.2.1, N, .inr (.inl f)))] [.ref w, .ref ra, .int (iI fr), .int (iI ce)] (fun r => r = iI (t ce)) := by
  refine st_P (by decide) rfl (Nat.le_of_ble_eq_true rfl) ?_
  intro p e s m below meth c Q hx hb hml hown hts hP hK hret ls hl
  have hown : s.vm.findClass RX2 = some m.cls := hown
  have f18 := hts (.fieldLink RX2 18 "MachineTree$Walk" "reach" "I") (by decide +kernel)
  have inX2 := (by decide +kernel : ∀ w ∈ wsX20, w ∈ wsX2_symbolIn)
  have hl : lv_has ls 6 [(0, .ref w), (1, .ref ra), (2, .int (iI fr)), (3, .int (iI ce))] := hl
  refine lv_iload_n hx hb dX2_symbolIn_0 rfl (lv_at hl 3 rfl) ?_
  refine lv_aload_n hx hb dX2_symbolIn_1 rfl (lv_at hl 0 rfl) ?_
  refine va_get (D := g) (ci := 2) (v := .int (iI 300)) (C := RX2) (T := TX2) (N := 16) hx hb hts inX2 hown hK.1 hP 0 rfl rfl 0 (by decide) f18 (fun _ h9 => h9) rfl dX2_symbolIn_2 ?_
  refine lv_ineg hx hb dX2_symbolIn_5 ?_
  refine ri_top (iI_neg 300) ?_
  refine ri_icmp_lt (a := ce) (b := (-300)) (tgt := 17) hx hb (by omega) (by omega) dX2_symbolIn_6 (by decide) (fun c6 => ?_) (fun c6 => ?_)
  · skip
    refine lv_iconst (v := iI 0) hx hb dX2_symbolIn_17 rfl ?_
    exact hret (iI 0) _ _ dX2_symbolIn_18 (by rw [ht0 ce (by omega)])
  · skip
    refine lv_iload_n hx hb dX2_symbolIn_9 rfl (lv_at hl 3 rfl) ?_
    refine lv_aload_n hx hb dX2_symbolIn_10 rfl (lv_at hl 0 rfl) ?_
    refine va_get (D := g) (ci := 2) (v := .int (iI 300)) (C := RX2) (T := TX2) (N := 16) hx hb hts inX2 hown hK.1 hP 0 rfl rfl 0 (by decide) f18 (fun _ h9 => h9) rfl dX2_symbolIn_11 ?_
    refine ri_icmp_le (a := ce) (b := 300) (tgt := 19) hx hb (by omega) (by omega) dX2_symbolIn_14 (by decide) (fun c14 => ?_) (fun c14 => ?_)
    · skip
      refine lv_iload_n hx hb dX2_symbolIn_19 rfl (lv_at hl 3 rfl) ?_
      refine lv_aload_n hx hb dX2_symbolIn_20 rfl (lv_at hl 0 rfl) ?_
      refine va_get (D := g) (ci := 2) (v := .int (iI 300)) (C := RX2) (T := TX2) (N := 16) hx hb hts inX2 hown hK.1 hP 0 rfl rfl 0 (by decide) f18 (fun _ h9 => h9) rfl dX2_symbolIn_21 ?_
      refine ri_iadd (a := ce) (b := 300) hx hb dX2_symbolIn_24 ?_
      refine lv_istore (lv' := [(4, .int (iI (ce + 300))), (0, .ref w), (1, .ref ra), (2, .int (iI fr)), (3, .int (iI ce))]) hx hb dX2_symbolIn_25 hl (by decide) rfl (fun ls hl => ?_)
      refine lv_iload_n hx hb dX2_symbolIn_27 rfl (lv_at hl 3 rfl) ?_
      refine lv_iload hx hb dX2_symbolIn_28 (lv_at hl 0 rfl) ?_
      refine lv_bipush (v := iI 6) hx hb dX2_symbolIn_30 (by decide) ?_
      refine ri_shr (a := (ce + 300)) (b := 6) hx hb (by omega) 6 (by decide) dX2_symbolIn_32 ?_
      refine ri_ex (b := ((ce + 300) / 64)) (by first | rfl | simp | omega) ?_
      refine ri_iadd (a := fr) (b := ((ce + 300) / 64)) hx hb dX2_symbolIn_33 ?_
      refine lv_istore (lv' := [(5, .int (iI (fr + ((ce + 300) / 64)))), (4, .int (iI (ce + 300))), (0, .ref w), (1, .ref ra), (2, .int (iI fr)), (3, .int (iI ce))]) hx hb dX2_symbolIn_34 hl (by decide) rfl (fun ls hl => ?_)
      refine lv_iload hx hb dX2_symbolIn_36 (lv_at hl 0 rfl) ?_
      refine ri_if_lt (a := (fr + ((ce + 300) / 64))) (tgt := 64) hx hb (by omega) dX2_symbolIn_38 (by decide) (fun c38 => ?_) (fun c38 => ?_)
      · exact absurd c38 (by omega)
      · skip
        refine lv_iload hx hb dX2_symbolIn_41 (lv_at hl 0 rfl) ?_
        refine lv_aload_n hx hb dX2_symbolIn_43 rfl (lv_at hl 3 rfl) ?_
        refine ri_alen hx hb hK.1 hP 1 1 rfl rfl dX2_symbolIn_44 ?_
        refine ri_ex (b := ((N : Nat) : Int)) rfl ?_
        refine ri_icmp_ge (a := (fr + ((ce + 300) / 64))) (b := ((N : Nat) : Int)) (tgt := 64) hx hb (by omega) (by omega) dX2_symbolIn_45 (by decide) (fun c45 => ?_) (fun c45 => ?_)
        · exact absurd c45 (by omega)
        · skip
          refine lv_aload_n hx hb dX2_symbolIn_48 rfl (lv_at hl 3 rfl) ?_
          refine lv_iload hx hb dX2_symbolIn_49 (lv_at hl 0 rfl) ?_
          refine ri_lald (f := f) (i := (fr + ((ce + 300) / 64))) hx hb hK.1 hP 1 1 rfl rfl (by omega) (by omega) dX2_symbolIn_51 ?_
          refine lv_iload hx hb dX2_symbolIn_52 (lv_at hl 1 rfl) ?_
          refine lv_bipush (v := iI 63) hx hb dX2_symbolIn_54 (by decide) ?_
          refine ri_and1 (a := (ce + 300)) (b := 63) hx hb (by omega) 6 (by decide) dX2_symbolIn_56 ?_
          refine ri_ex (b := ((ce + 300) % 64)) (by first | rfl | simp | omega) ?_
          refine lv_lushr hx hb dX2_symbolIn_57 rfl ?_
          refine lv_l2i hx hb dX2_symbolIn_58 rfl ?_
          refine lv_iconst (v := iI 1) hx hb dX2_symbolIn_59 rfl ?_
          refine lv_iand hx hb dX2_symbolIn_60 ?_
          refine ri_top (y := iI (t ce)) (by rw [show (fr + (ce + 300) / 64).toNat = fr.toNat + ((ce + 300) / 64).toNat by omega, hf _ (by omega)]; exact (bW_rd 300 t _ _ (by omega) (h01 _)).trans (by congr 2; omega)) ?_
          refine lv_goto (tgt := 65) hx hb dX2_symbolIn_61 (by decide) ?_
          exact hret (iI (t ce)) _ _ dX2_symbolIn_65 rfl
    · skip
      refine lv_iconst (v := iI 0) hx hb dX2_symbolIn_17 rfl ?_
      exact hret (iI 0) _ _ dX2_symbolIn_18 (by rw [ht0 ce (by omega)])

set_option maxHeartbeats 4000000 in
set_option maxRecDepth 100000 in
theorem c_symbolNow300 (l : Launch) (g : va_G) (k : kT) (w t0 t1 a0 a1 a2 : Nat) (o st pe dr sta hd on lf rt : Int) (ce : Int) (t : Int → Int) (h01 : ∀ j, t j = 0 ∨ t j = 1) (ht0 : ∀ j, (j < -300 ∨ 300 < j) → t j = 0) (hce : -2147483648 ≤ ce ∧ ce < 2147483648) : cP l yX2_symbolNow wsX2_symbolNow rm_1 g k [wO300 w t0 t1 a0 a1 a2 o st pe dr sta hd on lf rt, (t0, .inl (k.2.1, 10, .inr (.inl (bW 300 t))))] [.ref w, .int (iI ce)] (fun r => r = iI (t ce)) := by
  refine st_P (by decide) rfl (Nat.le_of_ble_eq_true rfl) ?_
  intro p e s m below meth c Q hx hb hml hown hts hP hK hret ls hl
  have hown : s.vm.findClass RX2 = some m.cls := hown
  have f27 := hts (.fieldLink RX2 27 "MachineTree$Walk" "tape" "[J") (by decide +kernel)
  have inX2 := (by decide +kernel : ∀ w ∈ wsX20, w ∈ wsX2_symbolNow)
  have hl : lv_has ls 2 [(0, .ref w), (1, .int (iI ce))] := hl
  refine lv_aload_n hx hb dX2_symbolNow_0 rfl (lv_at hl 0 rfl) ?_
  refine lv_aload_n hx hb dX2_symbolNow_1 rfl (lv_at hl 0 rfl) ?_
  refine va_get (D := g) (ci := 2) (v := .ref t0) (C := RX2) (T := TX2) (N := 16) hx hb hts inX2 hown hK.1 hP 0 rfl rfl 2 (by decide) f27 (fun _ h9 => h9) rfl dX2_symbolNow_2 ?_
  refine lv_iconst (v := iI 0) hx hb dX2_symbolNow_5 rfl ?_
  refine lv_iload_n hx hb dX2_symbolNow_6 rfl (lv_at hl 1 rfl) ?_
  refine rc_P (own := RX2) (q := (RX2, TX2, 16)) (wc := [(w, .inr (2, [.int (iI 300), .int (iI 10), .ref t0, .ref t1, .ref a0, .ref a1, .ref a2, .int (iI o), .int (iI st), .int (iI pe), .int (iI dr), .int (iI sta), .int (iI hd), .int (iI on), .int (iI lf), .int (iI rt)])), (t0, .inl (k.2.1, 10, .inr (.inl (bW 300 t))))]) (As := [.ref t0, .int (iI 0), .int (iI ce)]) (rest := []) ⟨hx, hb, hml, hown, hts⟩ (c_symbolIn300 l g k w t0 t1 a0 a1 a2 o st pe dr sta hd on lf rt t0 10 (bW 300 t) 0 ce t h01 ht0 (by omega) (fun w _ => by rw [show (0 : Int).toNat + w = w by omega]) hce) (cwV 3 hts gX2_symbolNow_X2_symbolIn rfl rfl rfl (by decide +kernel) ⟨Nat.le_of_ble_eq_true rfl, Nat.le_of_ble_eq_true rfl⟩) hK hP [0, 1] rfl (ci := 2) (q0 := 0) rfl rfl rfl rfl hl.1 (Nat.le_of_ble_eq_true rfl) ⟨Nat.le_of_ble_eq_true rfl, Nat.le_of_ble_eq_true rfl⟩ dX2_symbolNow_7 (fun r7 hr7 => ?_)
  refine ri_top (y := iI (t ce)) hr7 ?_
  exact hret (iI (t ce)) _ _ dX2_symbolNow_10 rfl

set_option maxHeartbeats 4000000 in
set_option maxRecDepth 100000 in
theorem c_write300 (l : Launch) (g : va_G) (k : kT) (w t0 t1 a0 a1 a2 : Nat) (o st pe dr sta hd on lf rt : Int) (sz : Nat) (sy : Int) (t : Int → Int) (h01 : ∀ j, t j = 0 ∨ t j = 1) (ht0 : ∀ j, (j < -300 ∨ 300 < j) → t j = 0) (hhd : -300 ≤ hd ∧ hd ≤ 300) (hsy : sy = 0 ∨ sy = 1) : cV l yX2_write wsX2_write rm_2 g k [wO300 w t0 t1 a0 a1 a2 o st pe dr sta hd on lf rt, (t0, .inl (k.2.1, 10, .inr (.inl (bW 300 t))))] sz [.ref w, .int (iI sy)] 0 0 (fun u : Int × (Nat → Int64) => [wO300 w t0 t1 a0 a1 a2 o st pe dr sta hd u.1 lf rt, (t0, .inl (k.2.1, 10, .inr (.inl u.2)))]) (fun u => u.1 = on + (sy - t hd) ∧ u.2 = bW 300 (up t hd sy)) := by
  refine st_V (by decide) rfl (Nat.le_of_ble_eq_true rfl) ?_
  intro p e s m below meth c Q A hx hb hml hown hts hin hA hP hD hS hK hret ls hl
  have hown : s.vm.findClass RX2 = some m.cls := hown
  have f56 := hts (.fieldLink RX2 56 "MachineTree$Walk" "head" "I") (by decide +kernel)
  have inX2 := (by decide +kernel : ∀ w ∈ wsX20, w ∈ wsX2_write)
  have f18 := hts (.fieldLink RX2 18 "MachineTree$Walk" "reach" "I") (by decide +kernel)
  have f27 := hts (.fieldLink RX2 27 "MachineTree$Walk" "tape" "[J") (by decide +kernel)
  have f91 := hts (.fieldLink RX2 91 "MachineTree$Walk" "ones" "I") (by decide +kernel)
  have hl : lv_has ls 5 [(0, .ref w), (1, .int (iI sy))] := hl
  obtain ⟨H, hH⟩ : ∃ H, H = s.heap := ⟨_, rfl⟩
  obtain ⟨locs, hlo⟩ : ∃ L : List Loc, L = [] := ⟨_, rfl⟩
  rw [← hH] at hP
  have hS : va_S A s.heap H locs := by rw [hH, hlo]; exact hS
  rw [show W p l e rm_2 s m ([.ref w, .int (iI sy)] : List Value).toArray below meth c s.heap [] 0 0 Q (F0 m 0 ls []) = W p l e rm_2 s m ([.ref w, .int (iI sy)] : List Value).toArray below meth c H locs 0 0 Q (F0 m 0 ls []) by rw [hH, hlo]]
  clear hH hlo
  refine lv_aload_n hx hb dX2_write_0 rfl (lv_at hl 0 rfl) ?_
  refine va_get (D := g) (ci := 2) (v := .int (iI hd)) (C := RX2) (T := TX2) (N := 16) hx hb hts inX2 hown hK.1 hP 0 rfl rfl 12 (by decide) f56 (fun _ h9 => h9) rfl dX2_write_1 ?_
  refine lv_aload_n hx hb dX2_write_4 rfl (lv_at hl 0 rfl) ?_
  refine va_get (D := g) (ci := 2) (v := .int (iI 300)) (C := RX2) (T := TX2) (N := 16) hx hb hts inX2 hown hK.1 hP 0 rfl rfl 0 (by decide) f18 (fun _ h9 => h9) rfl dX2_write_5 ?_
  refine ri_iadd (a := hd) (b := 300) hx hb dX2_write_8 ?_
  refine lv_istore_n (lv' := [(2, .int (iI (hd + 300))), (0, .ref w), (1, .int (iI sy))]) hx hb dX2_write_9 rfl hl (by decide) rfl (fun ls hl => ?_)
  refine lv_iload_n hx hb dX2_write_10 rfl (lv_at hl 0 rfl) ?_
  refine lv_bipush (v := iI 6) hx hb dX2_write_11 (by decide) ?_
  refine ri_shr (a := (hd + 300)) (b := 6) hx hb (by omega) 6 (by decide) dX2_write_13 ?_
  refine ri_ex (b := ((hd + 300) / 64)) (by first | rfl | simp | omega) ?_
  refine lv_istore_n (lv' := [(3, .int (iI ((hd + 300) / 64))), (2, .int (iI (hd + 300))), (0, .ref w), (1, .int (iI sy))]) hx hb dX2_write_14 rfl hl (by decide) rfl (fun ls hl => ?_)
  refine lv_aload_n hx hb dX2_write_15 rfl (lv_at hl 2 rfl) ?_
  refine lv_aload_n hx hb dX2_write_16 rfl (lv_at hl 2 rfl) ?_
  refine va_get (D := g) (ci := 2) (v := .int (iI hd)) (C := RX2) (T := TX2) (N := 16) hx hb hts inX2 hown hK.1 hP 0 rfl rfl 12 (by decide) f56 (fun _ h9 => h9) rfl dX2_write_17 ?_
  refine rc_P (own := RX2) (q := (RX2, TX2, 16)) (wc := [(w, .inr (2, [.int (iI 300), .int (iI 10), .ref t0, .ref t1, .ref a0, .ref a1, .ref a2, .int (iI o), .int (iI st), .int (iI pe), .int (iI dr), .int (iI sta), .int (iI hd), .int (iI on), .int (iI lf), .int (iI rt)])), (t0, .inl (k.2.1, 10, .inr (.inl (bW 300 t))))]) (As := [.int (iI hd)]) (rest := []) ⟨hx, hb, hml, hown, hts⟩ (c_symbolNow300 l g k w t0 t1 a0 a1 a2 o st pe dr sta hd on lf rt hd t h01 ht0 (by omega)) (cwV 1 hts gX2_write_X2_symbolNow rfl rfl rfl (by decide +kernel) ⟨Nat.le_of_ble_eq_true rfl, Nat.le_of_ble_eq_true rfl⟩) hK hP [0, 1] rfl (ci := 2) (q0 := 0) rfl rfl rfl rfl hl.1 (Nat.le_of_ble_eq_true rfl) ⟨Nat.le_of_ble_eq_true rfl, Nat.le_of_ble_eq_true rfl⟩ dX2_write_20 (fun r20 hr20 => ?_)
  refine ri_top (y := iI (t hd)) hr20 ?_
  have hth := h01 hd
  refine lv_istore (lv' := [(4, .int (iI (t hd))), (3, .int (iI ((hd + 300) / 64))), (2, .int (iI (hd + 300))), (0, .ref w), (1, .int (iI sy))]) hx hb dX2_write_23 hl (by decide) rfl (fun ls hl => ?_)
  refine lv_iload hx hb dX2_write_25 (lv_at hl 0 rfl) ?_
  refine lv_iload_n hx hb dX2_write_27 rfl (lv_at hl 4 rfl) ?_
  refine ri_icmp_eq (a := (t hd)) (b := sy) (tgt := 72) hx hb (by omega) (by omega) dX2_write_28 (by decide) (fun c28 => ?_) (fun c28 => ?_)
  · skip
    exact hret (on, bW 300 t) _ _ _ _ dX2_write_72 ⟨by show on = on + (sy - t hd); omega, by show bW 300 t = bW 300 (up t hd sy); rw [show sy = t hd by omega, up_self]⟩ hP hD hS
  · skip
    refine lv_iload_n hx hb dX2_write_31 rfl (lv_at hl 1 rfl) ?_
    refine ri_if_lt (a := ((hd + 300) / 64)) (tgt := 72) hx hb (by omega) dX2_write_32 (by decide) (fun c32 => ?_) (fun c32 => ?_)
    · exact absurd c32 (by omega)
    · skip
      refine lv_iload_n hx hb dX2_write_35 rfl (lv_at hl 1 rfl) ?_
      refine lv_aload_n hx hb dX2_write_36 rfl (lv_at hl 3 rfl) ?_
      refine va_get (D := g) (ci := 2) (v := .ref t0) (C := RX2) (T := TX2) (N := 16) hx hb hts inX2 hown hK.1 hP 0 rfl rfl 2 (by decide) f27 (fun _ h9 => h9) rfl dX2_write_37 ?_
      refine ri_alen hx hb hK.1 hP 1 1 rfl rfl dX2_write_40 ?_
      refine ri_ex (b := 10) rfl ?_
      refine ri_icmp_ge (a := ((hd + 300) / 64)) (b := 10) (tgt := 72) hx hb (by omega) (by omega) dX2_write_41 (by decide) (fun c41 => ?_) (fun c41 => ?_)
      · exact absurd c41 (by omega)
      · skip
        refine lv_aload_n hx hb dX2_write_44 rfl (lv_at hl 3 rfl) ?_
        refine va_get (D := g) (ci := 2) (v := .ref t0) (C := RX2) (T := TX2) (N := 16) hx hb hts inX2 hown hK.1 hP 0 rfl rfl 2 (by decide) f27 (fun _ h9 => h9) rfl dX2_write_45 ?_
        refine lv_iload_n hx hb dX2_write_48 rfl (lv_at hl 1 rfl) ?_
        refine lv_dup2_11 hx hb dX2_write_49 rfl rfl ?_
        refine ri_lald (f := (bW 300 t)) (i := ((hd + 300) / 64)) hx hb hK.1 hP 1 1 rfl rfl (by omega) (by omega) dX2_write_50 ?_
        refine lv_lconst (v := 1) hx hb dX2_write_51 rfl ?_
        refine lv_iload_n hx hb dX2_write_52 rfl (lv_at hl 2 rfl) ?_
        refine lv_bipush (v := iI 63) hx hb dX2_write_53 (by decide) ?_
        refine ri_and1 (a := (hd + 300)) (b := 63) hx hb (by omega) 6 (by decide) dX2_write_55 ?_
        refine ri_ex (b := ((hd + 300) % 64)) (by first | rfl | simp | omega) ?_
        refine lv_lshl hx hb dX2_write_56 rfl ?_
        refine lv_lxor hx hb dX2_write_57 ?_
        refine ri_last (f := (bW 300 t)) (i := ((hd + 300) / 64)) (x := (((bW 300 t) (((hd + 300) / 64) : Int).toNat) ^^^ ((1 : Int64) <<< ((iI ((hd + 300) % 64)).toInt64 &&& 63)))) hx hb hK.1 hP hD hS 1 1 rfl rfl (by omega) (by omega) dX2_write_58 (fun H locs hP hD hS => ?_)
        have hP : va_P g vwCl [(w, .inr (2, [.int (iI 300), .int (iI 10), .ref t0, .ref t1, .ref a0, .ref a1, .ref a2, .int (iI o), .int (iI st), .int (iI pe), .int (iI dr), .int (iI sta), .int (iI hd), .int (iI on), .int (iI lf), .int (iI rt)])), (t0, .inl (k.2.1, 10, .inr (.inl (vp_updL (bW 300 t) (((hd + 300) / 64) : Int).toNat (((bW 300 t) (((hd + 300) / 64) : Int).toNat) ^^^ ((1 : Int64) <<< ((iI ((hd + 300) % 64)).toInt64 &&& 63)))))))] H := hP
        have hD : va_D A [(w, .inr (2, [.int (iI 300), .int (iI 10), .ref t0, .ref t1, .ref a0, .ref a1, .ref a2, .int (iI o), .int (iI st), .int (iI pe), .int (iI dr), .int (iI sta), .int (iI hd), .int (iI on), .int (iI lf), .int (iI rt)])), (t0, .inl (k.2.1, 10, .inr (.inl (vp_updL (bW 300 t) (((hd + 300) / 64) : Int).toNat (((bW 300 t) (((hd + 300) / 64) : Int).toNat) ^^^ ((1 : Int64) <<< ((iI ((hd + 300) % 64)).toInt64 &&& 63)))))))] := hD
        refine lv_aload_n hx hb dX2_write_59 rfl (lv_at hl 3 rfl) ?_
        refine lv_dup hx hb dX2_write_60 rfl ?_
        refine va_get (D := g) (ci := 2) (v := .int (iI on)) (C := RX2) (T := TX2) (N := 16) hx hb hts inX2 hown hK.1 hP 0 rfl rfl 13 (by decide) f91 (fun _ h9 => h9) rfl dX2_write_61 ?_
        refine lv_iload_n hx hb dX2_write_64 rfl (lv_at hl 4 rfl) ?_
        refine lv_iload hx hb dX2_write_65 (lv_at hl 0 rfl) ?_
        refine ri_isub (a := sy) (b := (t hd)) hx hb dX2_write_67 ?_
        refine ri_iadd (a := on) (b := (sy - (t hd))) hx hb dX2_write_68 ?_
        refine va_put (D := g) (ci := 2) (v := .int (iI (on + (sy - (t hd))))) (ty := .int) (C := RX2) (T := TX2) (N := 16) hx hb hts inX2 tyX2 tyX2_ok nmX2 hown hK.1 hP hD hS 0 rfl rfl 13 (by decide) f91 (fun _ h9 => h9) rfl (by decide +kernel) rfl rfl (Nat.le_of_ble_eq_true rfl) dX2_write_69 (fun H locs hP hD hS => ?_)
        have hP : va_P g vwCl [(w, .inr (2, [.int (iI 300), .int (iI 10), .ref t0, .ref t1, .ref a0, .ref a1, .ref a2, .int (iI o), .int (iI st), .int (iI pe), .int (iI dr), .int (iI sta), .int (iI hd), .int (iI (on + (sy - (t hd)))), .int (iI lf), .int (iI rt)])), (t0, .inl (k.2.1, 10, .inr (.inl (vp_updL (bW 300 t) (((hd + 300) / 64) : Int).toNat (((bW 300 t) (((hd + 300) / 64) : Int).toNat) ^^^ ((1 : Int64) <<< ((iI ((hd + 300) % 64)).toInt64 &&& 63)))))))] H := hP
        have hD : va_D A [(w, .inr (2, [.int (iI 300), .int (iI 10), .ref t0, .ref t1, .ref a0, .ref a1, .ref a2, .int (iI o), .int (iI st), .int (iI pe), .int (iI dr), .int (iI sta), .int (iI hd), .int (iI (on + (sy - (t hd)))), .int (iI lf), .int (iI rt)])), (t0, .inl (k.2.1, 10, .inr (.inl (vp_updL (bW 300 t) (((hd + 300) / 64) : Int).toNat (((bW 300 t) (((hd + 300) / 64) : Int).toNat) ^^^ ((1 : Int64) <<< ((iI ((hd + 300) % 64)).toInt64 &&& 63)))))))] := hD
        exact hret (on + (sy - t hd), (vp_updL (bW 300 t) ((hd + 300) / 64).toNat ((bW 300 t) ((hd + 300) / 64).toNat ^^^ ((1 : Int64) <<< ((iI ((hd + 300) % 64)).toInt64 &&& 63))))) _ _ _ _ dX2_write_72 ⟨rfl, by show (vp_updL (bW 300 t) ((hd + 300) / 64).toNat ((bW 300 t) ((hd + 300) / 64).toNat ^^^ ((1 : Int64) <<< ((iI ((hd + 300) % 64)).toInt64 &&& 63)))) = _; rw [bW_wr 300 t _ _ (by omega) sy (by rw [show 64 * (((hd + 300) / 64).toNat : Int) + (hd + 300) % 64 - 300 = hd by omega]; omega), show 64 * (((hd + 300) / 64).toNat : Int) + (hd + 300) % 64 - 300 = hd by omega]⟩ hP hD hS

set_option maxHeartbeats 4000000 in
set_option maxRecDepth 100000 in
theorem c_note300 (l : Launch) (g : va_G) (k : kT) (w t0 t1 a0 a1 a2 : Nat) (o st pe dr sta hd on lf rt : Int) (tp tps : Nat → Int64) (hs ss sd : Int → Int) (sz : Nat) (side : Int) (hst : 0 ≤ st ∧ st ≤ 300) : cV l yX2_note wsX2_note rm_1 g k (wW300 k w t0 t1 a0 a1 a2 o st pe dr sta hd on lf rt tp tps hs ss sd) sz [.ref w, .int (iI side)] 0 0 (fun _ : Unit => wW300 k w t0 t1 a0 a1 a2 o st pe dr sta hd on lf rt tp (va_cpy tp tps 0 (st * 10).toNat 10) (up hs st hd) (up ss st sta) (up sd st side)) (fun _ => True) := by
  refine st_V (by decide) rfl (Nat.le_of_ble_eq_true rfl) ?_
  intro p e s m below meth c Q A hx hb hml hown hts hin hA hP hD hS hK hret ls hl
  have hown : s.vm.findClass RX2 = some m.cls := hown
  have f47 := hts (.fieldLink RX2 47 "MachineTree$Walk" "steps" "I") (by decide +kernel)
  have inX2 := (by decide +kernel : ∀ w ∈ wsX20, w ∈ wsX2_note)
  have f18 := hts (.fieldLink RX2 18 "MachineTree$Walk" "reach" "I") (by decide +kernel)
  have f34 := hts (.fieldLink RX2 34 "MachineTree$Walk" "heads" "[I") (by decide +kernel)
  have f56 := hts (.fieldLink RX2 56 "MachineTree$Walk" "head" "I") (by decide +kernel)
  have f38 := hts (.fieldLink RX2 38 "MachineTree$Walk" "states" "[I") (by decide +kernel)
  have f53 := hts (.fieldLink RX2 53 "MachineTree$Walk" "state" "I") (by decide +kernel)
  have f41 := hts (.fieldLink RX2 41 "MachineTree$Walk" "sides" "[I") (by decide +kernel)
  have f27 := hts (.fieldLink RX2 27 "MachineTree$Walk" "tape" "[J") (by decide +kernel)
  have f31 := hts (.fieldLink RX2 31 "MachineTree$Walk" "tapes" "[J") (by decide +kernel)
  have f24 := hts (.fieldLink RX2 24 "MachineTree$Walk" "words" "I") (by decide +kernel)
  have hl : lv_has ls 2 [(0, .ref w), (1, .int (iI side))] := hl
  obtain ⟨H, hH⟩ : ∃ H, H = s.heap := ⟨_, rfl⟩
  obtain ⟨locs, hlo⟩ : ∃ L : List Loc, L = [] := ⟨_, rfl⟩
  rw [← hH] at hP
  have hS : va_S A s.heap H locs := by rw [hH, hlo]; exact hS
  rw [show W p l e rm_1 s m ([.ref w, .int (iI side)] : List Value).toArray below meth c s.heap [] 0 0 Q (F0 m 0 ls []) = W p l e rm_1 s m ([.ref w, .int (iI side)] : List Value).toArray below meth c H locs 0 0 Q (F0 m 0 ls []) by rw [hH, hlo]]
  clear hH hlo
  refine lv_aload_n hx hb dX2_note_0 rfl (lv_at hl 0 rfl) ?_
  refine va_get (D := g) (ci := 2) (v := .int (iI st)) (C := RX2) (T := TX2) (N := 16) hx hb hts inX2 hown hK.1 hP 0 rfl rfl 8 (by decide) f47 (fun _ h9 => h9) rfl dX2_note_1 ?_
  refine ri_if_lt (a := st) (tgt := 18) hx hb (by omega) dX2_note_4 (by decide) (fun c4 => ?_) (fun c4 => ?_)
  · exact absurd c4 (by omega)
  · skip
    refine lv_aload_n hx hb dX2_note_7 rfl (lv_at hl 0 rfl) ?_
    refine va_get (D := g) (ci := 2) (v := .int (iI st)) (C := RX2) (T := TX2) (N := 16) hx hb hts inX2 hown hK.1 hP 0 rfl rfl 8 (by decide) f47 (fun _ h9 => h9) rfl dX2_note_8 ?_
    refine lv_aload_n hx hb dX2_note_11 rfl (lv_at hl 0 rfl) ?_
    refine va_get (D := g) (ci := 2) (v := .int (iI 300)) (C := RX2) (T := TX2) (N := 16) hx hb hts inX2 hown hK.1 hP 0 rfl rfl 0 (by decide) f18 (fun _ h9 => h9) rfl dX2_note_12 ?_
    refine ri_icmp_le (a := st) (b := 300) (tgt := 19) hx hb (by omega) (by omega) dX2_note_15 (by decide) (fun c15 => ?_) (fun c15 => ?_)
    · skip
      refine lv_aload_n hx hb dX2_note_19 rfl (lv_at hl 0 rfl) ?_
      refine va_get (D := g) (ci := 2) (v := .ref a0) (C := RX2) (T := TX2) (N := 16) hx hb hts inX2 hown hK.1 hP 0 rfl rfl 4 (by decide) f34 (fun _ h9 => h9) rfl dX2_note_20 ?_
      refine lv_aload_n hx hb dX2_note_23 rfl (lv_at hl 0 rfl) ?_
      refine va_get (D := g) (ci := 2) (v := .int (iI st)) (C := RX2) (T := TX2) (N := 16) hx hb hts inX2 hown hK.1 hP 0 rfl rfl 8 (by decide) f47 (fun _ h9 => h9) rfl dX2_note_24 ?_
      refine lv_aload_n hx hb dX2_note_27 rfl (lv_at hl 0 rfl) ?_
      refine va_get (D := g) (ci := 2) (v := .int (iI hd)) (C := RX2) (T := TX2) (N := 16) hx hb hts inX2 hown hK.1 hP 0 rfl rfl 12 (by decide) f56 (fun _ h9 => h9) rfl dX2_note_28 ?_
      refine ri_iast (F := hs) (i := st) (x := hd) hx hb hK.1 hP hD hS 3 0 rfl rfl (by omega) (by omega) dX2_note_31 (fun H locs hP hD hS => ?_)
      have hP : va_P g vwCl [(w, .inr (2, [.int (iI 300), .int (iI 10), .ref t0, .ref t1, .ref a0, .ref a1, .ref a2, .int (iI o), .int (iI st), .int (iI pe), .int (iI dr), .int (iI sta), .int (iI hd), .int (iI on), .int (iI lf), .int (iI rt)])), (t0, .inl (k.2.1, 10, .inr (.inl tp))), (t1, .inl (k.2.1, 3010, .inr (.inl tps))), (a0, .inl (k.1, 301, .inl (iF (up hs st hd)))), (a1, .inl (k.1, 301, .inl (iF ss))), (a2, .inl (k.1, 301, .inl (iF sd)))] H := hP
      have hD : va_D A [(w, .inr (2, [.int (iI 300), .int (iI 10), .ref t0, .ref t1, .ref a0, .ref a1, .ref a2, .int (iI o), .int (iI st), .int (iI pe), .int (iI dr), .int (iI sta), .int (iI hd), .int (iI on), .int (iI lf), .int (iI rt)])), (t0, .inl (k.2.1, 10, .inr (.inl tp))), (t1, .inl (k.2.1, 3010, .inr (.inl tps))), (a0, .inl (k.1, 301, .inl (iF (up hs st hd)))), (a1, .inl (k.1, 301, .inl (iF ss))), (a2, .inl (k.1, 301, .inl (iF sd)))] := hD
      refine lv_aload_n hx hb dX2_note_32 rfl (lv_at hl 0 rfl) ?_
      refine va_get (D := g) (ci := 2) (v := .ref a1) (C := RX2) (T := TX2) (N := 16) hx hb hts inX2 hown hK.1 hP 0 rfl rfl 5 (by decide) f38 (fun _ h9 => h9) rfl dX2_note_33 ?_
      refine lv_aload_n hx hb dX2_note_36 rfl (lv_at hl 0 rfl) ?_
      refine va_get (D := g) (ci := 2) (v := .int (iI st)) (C := RX2) (T := TX2) (N := 16) hx hb hts inX2 hown hK.1 hP 0 rfl rfl 8 (by decide) f47 (fun _ h9 => h9) rfl dX2_note_37 ?_
      refine lv_aload_n hx hb dX2_note_40 rfl (lv_at hl 0 rfl) ?_
      refine va_get (D := g) (ci := 2) (v := .int (iI sta)) (C := RX2) (T := TX2) (N := 16) hx hb hts inX2 hown hK.1 hP 0 rfl rfl 11 (by decide) f53 (fun _ h9 => h9) rfl dX2_note_41 ?_
      refine ri_iast (F := ss) (i := st) (x := sta) hx hb hK.1 hP hD hS 4 0 rfl rfl (by omega) (by omega) dX2_note_44 (fun H locs hP hD hS => ?_)
      have hP : va_P g vwCl [(w, .inr (2, [.int (iI 300), .int (iI 10), .ref t0, .ref t1, .ref a0, .ref a1, .ref a2, .int (iI o), .int (iI st), .int (iI pe), .int (iI dr), .int (iI sta), .int (iI hd), .int (iI on), .int (iI lf), .int (iI rt)])), (t0, .inl (k.2.1, 10, .inr (.inl tp))), (t1, .inl (k.2.1, 3010, .inr (.inl tps))), (a0, .inl (k.1, 301, .inl (iF (up hs st hd)))), (a1, .inl (k.1, 301, .inl (iF (up ss st sta)))), (a2, .inl (k.1, 301, .inl (iF sd)))] H := hP
      have hD : va_D A [(w, .inr (2, [.int (iI 300), .int (iI 10), .ref t0, .ref t1, .ref a0, .ref a1, .ref a2, .int (iI o), .int (iI st), .int (iI pe), .int (iI dr), .int (iI sta), .int (iI hd), .int (iI on), .int (iI lf), .int (iI rt)])), (t0, .inl (k.2.1, 10, .inr (.inl tp))), (t1, .inl (k.2.1, 3010, .inr (.inl tps))), (a0, .inl (k.1, 301, .inl (iF (up hs st hd)))), (a1, .inl (k.1, 301, .inl (iF (up ss st sta)))), (a2, .inl (k.1, 301, .inl (iF sd)))] := hD
      refine lv_aload_n hx hb dX2_note_45 rfl (lv_at hl 0 rfl) ?_
      refine va_get (D := g) (ci := 2) (v := .ref a2) (C := RX2) (T := TX2) (N := 16) hx hb hts inX2 hown hK.1 hP 0 rfl rfl 6 (by decide) f41 (fun _ h9 => h9) rfl dX2_note_46 ?_
      refine lv_aload_n hx hb dX2_note_49 rfl (lv_at hl 0 rfl) ?_
      refine va_get (D := g) (ci := 2) (v := .int (iI st)) (C := RX2) (T := TX2) (N := 16) hx hb hts inX2 hown hK.1 hP 0 rfl rfl 8 (by decide) f47 (fun _ h9 => h9) rfl dX2_note_50 ?_
      refine lv_iload_n hx hb dX2_note_53 rfl (lv_at hl 1 rfl) ?_
      refine ri_iast (F := sd) (i := st) (x := side) hx hb hK.1 hP hD hS 5 0 rfl rfl (by omega) (by omega) dX2_note_54 (fun H locs hP hD hS => ?_)
      have hP : va_P g vwCl [(w, .inr (2, [.int (iI 300), .int (iI 10), .ref t0, .ref t1, .ref a0, .ref a1, .ref a2, .int (iI o), .int (iI st), .int (iI pe), .int (iI dr), .int (iI sta), .int (iI hd), .int (iI on), .int (iI lf), .int (iI rt)])), (t0, .inl (k.2.1, 10, .inr (.inl tp))), (t1, .inl (k.2.1, 3010, .inr (.inl tps))), (a0, .inl (k.1, 301, .inl (iF (up hs st hd)))), (a1, .inl (k.1, 301, .inl (iF (up ss st sta)))), (a2, .inl (k.1, 301, .inl (iF (up sd st side))))] H := hP
      have hD : va_D A [(w, .inr (2, [.int (iI 300), .int (iI 10), .ref t0, .ref t1, .ref a0, .ref a1, .ref a2, .int (iI o), .int (iI st), .int (iI pe), .int (iI dr), .int (iI sta), .int (iI hd), .int (iI on), .int (iI lf), .int (iI rt)])), (t0, .inl (k.2.1, 10, .inr (.inl tp))), (t1, .inl (k.2.1, 3010, .inr (.inl tps))), (a0, .inl (k.1, 301, .inl (iF (up hs st hd)))), (a1, .inl (k.1, 301, .inl (iF (up ss st sta)))), (a2, .inl (k.1, 301, .inl (iF (up sd st side))))] := hD
      refine lv_aload_n hx hb dX2_note_55 rfl (lv_at hl 0 rfl) ?_
      refine va_get (D := g) (ci := 2) (v := .ref t0) (C := RX2) (T := TX2) (N := 16) hx hb hts inX2 hown hK.1 hP 0 rfl rfl 2 (by decide) f27 (fun _ h9 => h9) rfl dX2_note_56 ?_
      refine lv_iconst (v := iI 0) hx hb dX2_note_59 rfl ?_
      refine lv_aload_n hx hb dX2_note_60 rfl (lv_at hl 0 rfl) ?_
      refine va_get (D := g) (ci := 2) (v := .ref t1) (C := RX2) (T := TX2) (N := 16) hx hb hts inX2 hown hK.1 hP 0 rfl rfl 3 (by decide) f31 (fun _ h9 => h9) rfl dX2_note_61 ?_
      refine lv_aload_n hx hb dX2_note_64 rfl (lv_at hl 0 rfl) ?_
      refine va_get (D := g) (ci := 2) (v := .int (iI st)) (C := RX2) (T := TX2) (N := 16) hx hb hts inX2 hown hK.1 hP 0 rfl rfl 8 (by decide) f47 (fun _ h9 => h9) rfl dX2_note_65 ?_
      refine lv_aload_n hx hb dX2_note_68 rfl (lv_at hl 0 rfl) ?_
      refine va_get (D := g) (ci := 2) (v := .int (iI 10)) (C := RX2) (T := TX2) (N := 16) hx hb hts inX2 hown hK.1 hP 0 rfl rfl 1 (by decide) f24 (fun _ h9 => h9) rfl dX2_note_69 ?_
      refine ri_imul (a := st) (b := 10) hx hb dX2_note_72 ?_
      refine lv_aload_n hx hb dX2_note_73 rfl (lv_at hl 0 rfl) ?_
      refine va_get (D := g) (ci := 2) (v := .int (iI 10)) (C := RX2) (T := TX2) (N := 16) hx hb hts inX2 hown hK.1 hP 0 rfl rfl 1 (by decide) f24 (fun _ h9 => h9) rfl dX2_note_74 ?_
      refine ri_copyJ (F := tp) (G := tps) (sp := 0) (dp := (st * 10)) (n := 10) hx hb (by rw [hml]; exact hl.1.symm) hown (hts (.methodLink RX2 106 arraycopyName) (by decide +kernel)) (hts (.native arraycopyName) (by decide +kernel)) (hts (.static arraycopyName) (by decide +kernel)) (hts (.initialized "java/lang/System") (by decide +kernel)) hK hP hD hS 1 2 rfl rfl (by omega) (Nat.le_of_ble_eq_true rfl) (Nat.le_of_ble_eq_true rfl) dX2_note_77 (fun H locs hP hD hS => ?_)
      have hP : va_P g vwCl [(w, .inr (2, [.int (iI 300), .int (iI 10), .ref t0, .ref t1, .ref a0, .ref a1, .ref a2, .int (iI o), .int (iI st), .int (iI pe), .int (iI dr), .int (iI sta), .int (iI hd), .int (iI on), .int (iI lf), .int (iI rt)])), (t0, .inl (k.2.1, 10, .inr (.inl tp))), (t1, .inl (k.2.1, 3010, .inr (.inl (va_cpy tp tps (0 : Int).toNat ((st * 10) : Int).toNat (10 : Int).toNat)))), (a0, .inl (k.1, 301, .inl (iF (up hs st hd)))), (a1, .inl (k.1, 301, .inl (iF (up ss st sta)))), (a2, .inl (k.1, 301, .inl (iF (up sd st side))))] H := hP
      have hD : va_D A [(w, .inr (2, [.int (iI 300), .int (iI 10), .ref t0, .ref t1, .ref a0, .ref a1, .ref a2, .int (iI o), .int (iI st), .int (iI pe), .int (iI dr), .int (iI sta), .int (iI hd), .int (iI on), .int (iI lf), .int (iI rt)])), (t0, .inl (k.2.1, 10, .inr (.inl tp))), (t1, .inl (k.2.1, 3010, .inr (.inl (va_cpy tp tps (0 : Int).toNat ((st * 10) : Int).toNat (10 : Int).toNat)))), (a0, .inl (k.1, 301, .inl (iF (up hs st hd)))), (a1, .inl (k.1, 301, .inl (iF (up ss st sta)))), (a2, .inl (k.1, 301, .inl (iF (up sd st side))))] := hD
      exact hret () _ _ _ _ dX2_note_80 trivial hP hD hS
    · exact absurd (by omega) c15

/-- a Walk of reach 120 -/
abbrev wO120 (w t0 t1 a0 a1 a2 : Nat) (o st pe dr sta hd on lf rt : Int) : Nat × va_E := (w, .inr (2, [.int (iI 120), .int (iI 4), .ref t0, .ref t1, .ref a0, .ref a1, .ref a2, .int (iI o), .int (iI st), .int (iI pe), .int (iI dr), .int (iI sta), .int (iI hd), .int (iI on), .int (iI lf), .int (iI rt)]))
abbrev wW120 (k : kT) (w t0 t1 a0 a1 a2 : Nat) (o st pe dr sta hd on lf rt : Int) (tp tps : Nat → Int64) (hs ss sd : Int → Int) : va_W := [(w, .inr (2, [.int (iI 120), .int (iI 4), .ref t0, .ref t1, .ref a0, .ref a1, .ref a2, .int (iI o), .int (iI st), .int (iI pe), .int (iI dr), .int (iI sta), .int (iI hd), .int (iI on), .int (iI lf), .int (iI rt)])), (t0, .inl (k.2.1, 4, .inr (.inl tp))), (t1, .inl (k.2.1, 484, .inr (.inl tps))), (a0, .inl (k.1, 121, .inl (iF hs))), (a1, .inl (k.1, 121, .inl (iF ss))), (a2, .inl (k.1, 121, .inl (iF sd)))]
set_option maxHeartbeats 4000000 in
set_option maxRecDepth 100000 in
theorem c_symbolIn120 (l : Launch) (g : va_G) (k : kT) (w t0 t1 a0 a1 a2 : Nat) (o st pe dr sta hd on lf rt : Int) (ra N : Nat) (f : Nat → Int64) (fr ce : Int) (t : Int → Int) (h01 : ∀ j, t j = 0 ∨ t j = 1) (ht0 : ∀ j, (j < -120 ∨ 120 < j) → t j = 0) (hfr : 0 ≤ fr ∧ fr + 4 ≤ N ∧ N < 100000) (hf : ∀ w : Nat, w < 4 → f (fr.toNat + w) = bW 120 t w) (hce : -2147483648 ≤ ce ∧ ce < 2147483648) : cP l yX2_symbolIn wsX2_symbolIn rm_0 g k [wO120 w t0 t1 a0 a1 a2 o st pe dr sta hd on lf rt, (ra, .inl (k.2.1, N, .inr (.inl f)))] [.ref w, .ref ra, .int (iI fr), .int (iI ce)] (fun r => r = iI (t ce)) := by
  refine st_P (by decide) rfl (Nat.le_of_ble_eq_true rfl) ?_
  intro p e s m below meth c Q hx hb hml hown hts hP hK hret ls hl
  have hown : s.vm.findClass RX2 = some m.cls := hown
  have f18 := hts (.fieldLink RX2 18 "MachineTree$Walk" "reach" "I") (by decide +kernel)
  have inX2 := (by decide +kernel : ∀ w ∈ wsX20, w ∈ wsX2_symbolIn)
  have hl : lv_has ls 6 [(0, .ref w), (1, .ref ra), (2, .int (iI fr)), (3, .int (iI ce))] := hl
  refine lv_iload_n hx hb dX2_symbolIn_0 rfl (lv_at hl 3 rfl) ?_
  refine lv_aload_n hx hb dX2_symbolIn_1 rfl (lv_at hl 0 rfl) ?_
  refine va_get (D := g) (ci := 2) (v := .int (iI 120)) (C := RX2) (T := TX2) (N := 16) hx hb hts inX2 hown hK.1 hP 0 rfl rfl 0 (by decide) f18 (fun _ h9 => h9) rfl dX2_symbolIn_2 ?_
  refine lv_ineg hx hb dX2_symbolIn_5 ?_
  refine ri_top (iI_neg 120) ?_
  refine ri_icmp_lt (a := ce) (b := (-120)) (tgt := 17) hx hb (by omega) (by omega) dX2_symbolIn_6 (by decide) (fun c6 => ?_) (fun c6 => ?_)
  · skip
    refine lv_iconst (v := iI 0) hx hb dX2_symbolIn_17 rfl ?_
    exact hret (iI 0) _ _ dX2_symbolIn_18 (by rw [ht0 ce (by omega)])
  · skip
    refine lv_iload_n hx hb dX2_symbolIn_9 rfl (lv_at hl 3 rfl) ?_
    refine lv_aload_n hx hb dX2_symbolIn_10 rfl (lv_at hl 0 rfl) ?_
    refine va_get (D := g) (ci := 2) (v := .int (iI 120)) (C := RX2) (T := TX2) (N := 16) hx hb hts inX2 hown hK.1 hP 0 rfl rfl 0 (by decide) f18 (fun _ h9 => h9) rfl dX2_symbolIn_11 ?_
    refine ri_icmp_le (a := ce) (b := 120) (tgt := 19) hx hb (by omega) (by omega) dX2_symbolIn_14 (by decide) (fun c14 => ?_) (fun c14 => ?_)
    · skip
      refine lv_iload_n hx hb dX2_symbolIn_19 rfl (lv_at hl 3 rfl) ?_
      refine lv_aload_n hx hb dX2_symbolIn_20 rfl (lv_at hl 0 rfl) ?_
      refine va_get (D := g) (ci := 2) (v := .int (iI 120)) (C := RX2) (T := TX2) (N := 16) hx hb hts inX2 hown hK.1 hP 0 rfl rfl 0 (by decide) f18 (fun _ h9 => h9) rfl dX2_symbolIn_21 ?_
      refine ri_iadd (a := ce) (b := 120) hx hb dX2_symbolIn_24 ?_
      refine lv_istore (lv' := [(4, .int (iI (ce + 120))), (0, .ref w), (1, .ref ra), (2, .int (iI fr)), (3, .int (iI ce))]) hx hb dX2_symbolIn_25 hl (by decide) rfl (fun ls hl => ?_)
      refine lv_iload_n hx hb dX2_symbolIn_27 rfl (lv_at hl 3 rfl) ?_
      refine lv_iload hx hb dX2_symbolIn_28 (lv_at hl 0 rfl) ?_
      refine lv_bipush (v := iI 6) hx hb dX2_symbolIn_30 (by decide) ?_
      refine ri_shr (a := (ce + 120)) (b := 6) hx hb (by omega) 6 (by decide) dX2_symbolIn_32 ?_
      refine ri_ex (b := ((ce + 120) / 64)) (by first | rfl | simp | omega) ?_
      refine ri_iadd (a := fr) (b := ((ce + 120) / 64)) hx hb dX2_symbolIn_33 ?_
      refine lv_istore (lv' := [(5, .int (iI (fr + ((ce + 120) / 64)))), (4, .int (iI (ce + 120))), (0, .ref w), (1, .ref ra), (2, .int (iI fr)), (3, .int (iI ce))]) hx hb dX2_symbolIn_34 hl (by decide) rfl (fun ls hl => ?_)
      refine lv_iload hx hb dX2_symbolIn_36 (lv_at hl 0 rfl) ?_
      refine ri_if_lt (a := (fr + ((ce + 120) / 64))) (tgt := 64) hx hb (by omega) dX2_symbolIn_38 (by decide) (fun c38 => ?_) (fun c38 => ?_)
      · exact absurd c38 (by omega)
      · skip
        refine lv_iload hx hb dX2_symbolIn_41 (lv_at hl 0 rfl) ?_
        refine lv_aload_n hx hb dX2_symbolIn_43 rfl (lv_at hl 3 rfl) ?_
        refine ri_alen hx hb hK.1 hP 1 1 rfl rfl dX2_symbolIn_44 ?_
        refine ri_ex (b := ((N : Nat) : Int)) rfl ?_
        refine ri_icmp_ge (a := (fr + ((ce + 120) / 64))) (b := ((N : Nat) : Int)) (tgt := 64) hx hb (by omega) (by omega) dX2_symbolIn_45 (by decide) (fun c45 => ?_) (fun c45 => ?_)
        · exact absurd c45 (by omega)
        · skip
          refine lv_aload_n hx hb dX2_symbolIn_48 rfl (lv_at hl 3 rfl) ?_
          refine lv_iload hx hb dX2_symbolIn_49 (lv_at hl 0 rfl) ?_
          refine ri_lald (f := f) (i := (fr + ((ce + 120) / 64))) hx hb hK.1 hP 1 1 rfl rfl (by omega) (by omega) dX2_symbolIn_51 ?_
          refine lv_iload hx hb dX2_symbolIn_52 (lv_at hl 1 rfl) ?_
          refine lv_bipush (v := iI 63) hx hb dX2_symbolIn_54 (by decide) ?_
          refine ri_and1 (a := (ce + 120)) (b := 63) hx hb (by omega) 6 (by decide) dX2_symbolIn_56 ?_
          refine ri_ex (b := ((ce + 120) % 64)) (by first | rfl | simp | omega) ?_
          refine lv_lushr hx hb dX2_symbolIn_57 rfl ?_
          refine lv_l2i hx hb dX2_symbolIn_58 rfl ?_
          refine lv_iconst (v := iI 1) hx hb dX2_symbolIn_59 rfl ?_
          refine lv_iand hx hb dX2_symbolIn_60 ?_
          refine ri_top (y := iI (t ce)) (by rw [show (fr + (ce + 120) / 64).toNat = fr.toNat + ((ce + 120) / 64).toNat by omega, hf _ (by omega)]; exact (bW_rd 120 t _ _ (by omega) (h01 _)).trans (by congr 2; omega)) ?_
          refine lv_goto (tgt := 65) hx hb dX2_symbolIn_61 (by decide) ?_
          exact hret (iI (t ce)) _ _ dX2_symbolIn_65 rfl
    · skip
      refine lv_iconst (v := iI 0) hx hb dX2_symbolIn_17 rfl ?_
      exact hret (iI 0) _ _ dX2_symbolIn_18 (by rw [ht0 ce (by omega)])

set_option maxHeartbeats 4000000 in
set_option maxRecDepth 100000 in
theorem c_symbolNow120 (l : Launch) (g : va_G) (k : kT) (w t0 t1 a0 a1 a2 : Nat) (o st pe dr sta hd on lf rt : Int) (ce : Int) (t : Int → Int) (h01 : ∀ j, t j = 0 ∨ t j = 1) (ht0 : ∀ j, (j < -120 ∨ 120 < j) → t j = 0) (hce : -2147483648 ≤ ce ∧ ce < 2147483648) : cP l yX2_symbolNow wsX2_symbolNow rm_1 g k [wO120 w t0 t1 a0 a1 a2 o st pe dr sta hd on lf rt, (t0, .inl (k.2.1, 4, .inr (.inl (bW 120 t))))] [.ref w, .int (iI ce)] (fun r => r = iI (t ce)) := by
  refine st_P (by decide) rfl (Nat.le_of_ble_eq_true rfl) ?_
  intro p e s m below meth c Q hx hb hml hown hts hP hK hret ls hl
  have hown : s.vm.findClass RX2 = some m.cls := hown
  have f27 := hts (.fieldLink RX2 27 "MachineTree$Walk" "tape" "[J") (by decide +kernel)
  have inX2 := (by decide +kernel : ∀ w ∈ wsX20, w ∈ wsX2_symbolNow)
  have hl : lv_has ls 2 [(0, .ref w), (1, .int (iI ce))] := hl
  refine lv_aload_n hx hb dX2_symbolNow_0 rfl (lv_at hl 0 rfl) ?_
  refine lv_aload_n hx hb dX2_symbolNow_1 rfl (lv_at hl 0 rfl) ?_
  refine va_get (D := g) (ci := 2) (v := .ref t0) (C := RX2) (T := TX2) (N := 16) hx hb hts inX2 hown hK.1 hP 0 rfl rfl 2 (by decide) f27 (fun _ h9 => h9) rfl dX2_symbolNow_2 ?_
  refine lv_iconst (v := iI 0) hx hb dX2_symbolNow_5 rfl ?_
  refine lv_iload_n hx hb dX2_symbolNow_6 rfl (lv_at hl 1 rfl) ?_
  refine rc_P (own := RX2) (q := (RX2, TX2, 16)) (wc := [(w, .inr (2, [.int (iI 120), .int (iI 4), .ref t0, .ref t1, .ref a0, .ref a1, .ref a2, .int (iI o), .int (iI st), .int (iI pe), .int (iI dr), .int (iI sta), .int (iI hd), .int (iI on), .int (iI lf), .int (iI rt)])), (t0, .inl (k.2.1, 4, .inr (.inl (bW 120 t))))]) (As := [.ref t0, .int (iI 0), .int (iI ce)]) (rest := []) ⟨hx, hb, hml, hown, hts⟩ (c_symbolIn120 l g k w t0 t1 a0 a1 a2 o st pe dr sta hd on lf rt t0 4 (bW 120 t) 0 ce t h01 ht0 (by omega) (fun w _ => by rw [show (0 : Int).toNat + w = w by omega]) hce) (cwV 3 hts gX2_symbolNow_X2_symbolIn rfl rfl rfl (by decide +kernel) ⟨Nat.le_of_ble_eq_true rfl, Nat.le_of_ble_eq_true rfl⟩) hK hP [0, 1] rfl (ci := 2) (q0 := 0) rfl rfl rfl rfl hl.1 (Nat.le_of_ble_eq_true rfl) ⟨Nat.le_of_ble_eq_true rfl, Nat.le_of_ble_eq_true rfl⟩ dX2_symbolNow_7 (fun r7 hr7 => ?_)
  refine ri_top (y := iI (t ce)) hr7 ?_
  exact hret (iI (t ce)) _ _ dX2_symbolNow_10 rfl

set_option maxHeartbeats 4000000 in
set_option maxRecDepth 100000 in
theorem c_write120 (l : Launch) (g : va_G) (k : kT) (w t0 t1 a0 a1 a2 : Nat) (o st pe dr sta hd on lf rt : Int) (sz : Nat) (sy : Int) (t : Int → Int) (h01 : ∀ j, t j = 0 ∨ t j = 1) (ht0 : ∀ j, (j < -120 ∨ 120 < j) → t j = 0) (hhd : -120 ≤ hd ∧ hd ≤ 120) (hsy : sy = 0 ∨ sy = 1) : cV l yX2_write wsX2_write rm_2 g k [wO120 w t0 t1 a0 a1 a2 o st pe dr sta hd on lf rt, (t0, .inl (k.2.1, 4, .inr (.inl (bW 120 t))))] sz [.ref w, .int (iI sy)] 0 0 (fun u : Int × (Nat → Int64) => [wO120 w t0 t1 a0 a1 a2 o st pe dr sta hd u.1 lf rt, (t0, .inl (k.2.1, 4, .inr (.inl u.2)))]) (fun u => u.1 = on + (sy - t hd) ∧ u.2 = bW 120 (up t hd sy)) := by
  refine st_V (by decide) rfl (Nat.le_of_ble_eq_true rfl) ?_
  intro p e s m below meth c Q A hx hb hml hown hts hin hA hP hD hS hK hret ls hl
  have hown : s.vm.findClass RX2 = some m.cls := hown
  have f56 := hts (.fieldLink RX2 56 "MachineTree$Walk" "head" "I") (by decide +kernel)
  have inX2 := (by decide +kernel : ∀ w ∈ wsX20, w ∈ wsX2_write)
  have f18 := hts (.fieldLink RX2 18 "MachineTree$Walk" "reach" "I") (by decide +kernel)
  have f27 := hts (.fieldLink RX2 27 "MachineTree$Walk" "tape" "[J") (by decide +kernel)
  have f91 := hts (.fieldLink RX2 91 "MachineTree$Walk" "ones" "I") (by decide +kernel)
  have hl : lv_has ls 5 [(0, .ref w), (1, .int (iI sy))] := hl
  obtain ⟨H, hH⟩ : ∃ H, H = s.heap := ⟨_, rfl⟩
  obtain ⟨locs, hlo⟩ : ∃ L : List Loc, L = [] := ⟨_, rfl⟩
  rw [← hH] at hP
  have hS : va_S A s.heap H locs := by rw [hH, hlo]; exact hS
  rw [show W p l e rm_2 s m ([.ref w, .int (iI sy)] : List Value).toArray below meth c s.heap [] 0 0 Q (F0 m 0 ls []) = W p l e rm_2 s m ([.ref w, .int (iI sy)] : List Value).toArray below meth c H locs 0 0 Q (F0 m 0 ls []) by rw [hH, hlo]]
  clear hH hlo
  refine lv_aload_n hx hb dX2_write_0 rfl (lv_at hl 0 rfl) ?_
  refine va_get (D := g) (ci := 2) (v := .int (iI hd)) (C := RX2) (T := TX2) (N := 16) hx hb hts inX2 hown hK.1 hP 0 rfl rfl 12 (by decide) f56 (fun _ h9 => h9) rfl dX2_write_1 ?_
  refine lv_aload_n hx hb dX2_write_4 rfl (lv_at hl 0 rfl) ?_
  refine va_get (D := g) (ci := 2) (v := .int (iI 120)) (C := RX2) (T := TX2) (N := 16) hx hb hts inX2 hown hK.1 hP 0 rfl rfl 0 (by decide) f18 (fun _ h9 => h9) rfl dX2_write_5 ?_
  refine ri_iadd (a := hd) (b := 120) hx hb dX2_write_8 ?_
  refine lv_istore_n (lv' := [(2, .int (iI (hd + 120))), (0, .ref w), (1, .int (iI sy))]) hx hb dX2_write_9 rfl hl (by decide) rfl (fun ls hl => ?_)
  refine lv_iload_n hx hb dX2_write_10 rfl (lv_at hl 0 rfl) ?_
  refine lv_bipush (v := iI 6) hx hb dX2_write_11 (by decide) ?_
  refine ri_shr (a := (hd + 120)) (b := 6) hx hb (by omega) 6 (by decide) dX2_write_13 ?_
  refine ri_ex (b := ((hd + 120) / 64)) (by first | rfl | simp | omega) ?_
  refine lv_istore_n (lv' := [(3, .int (iI ((hd + 120) / 64))), (2, .int (iI (hd + 120))), (0, .ref w), (1, .int (iI sy))]) hx hb dX2_write_14 rfl hl (by decide) rfl (fun ls hl => ?_)
  refine lv_aload_n hx hb dX2_write_15 rfl (lv_at hl 2 rfl) ?_
  refine lv_aload_n hx hb dX2_write_16 rfl (lv_at hl 2 rfl) ?_
  refine va_get (D := g) (ci := 2) (v := .int (iI hd)) (C := RX2) (T := TX2) (N := 16) hx hb hts inX2 hown hK.1 hP 0 rfl rfl 12 (by decide) f56 (fun _ h9 => h9) rfl dX2_write_17 ?_
  refine rc_P (own := RX2) (q := (RX2, TX2, 16)) (wc := [(w, .inr (2, [.int (iI 120), .int (iI 4), .ref t0, .ref t1, .ref a0, .ref a1, .ref a2, .int (iI o), .int (iI st), .int (iI pe), .int (iI dr), .int (iI sta), .int (iI hd), .int (iI on), .int (iI lf), .int (iI rt)])), (t0, .inl (k.2.1, 4, .inr (.inl (bW 120 t))))]) (As := [.int (iI hd)]) (rest := []) ⟨hx, hb, hml, hown, hts⟩ (c_symbolNow120 l g k w t0 t1 a0 a1 a2 o st pe dr sta hd on lf rt hd t h01 ht0 (by omega)) (cwV 1 hts gX2_write_X2_symbolNow rfl rfl rfl (by decide +kernel) ⟨Nat.le_of_ble_eq_true rfl, Nat.le_of_ble_eq_true rfl⟩) hK hP [0, 1] rfl (ci := 2) (q0 := 0) rfl rfl rfl rfl hl.1 (Nat.le_of_ble_eq_true rfl) ⟨Nat.le_of_ble_eq_true rfl, Nat.le_of_ble_eq_true rfl⟩ dX2_write_20 (fun r20 hr20 => ?_)
  refine ri_top (y := iI (t hd)) hr20 ?_
  have hth := h01 hd
  refine lv_istore (lv' := [(4, .int (iI (t hd))), (3, .int (iI ((hd + 120) / 64))), (2, .int (iI (hd + 120))), (0, .ref w), (1, .int (iI sy))]) hx hb dX2_write_23 hl (by decide) rfl (fun ls hl => ?_)
  refine lv_iload hx hb dX2_write_25 (lv_at hl 0 rfl) ?_
  refine lv_iload_n hx hb dX2_write_27 rfl (lv_at hl 4 rfl) ?_
  refine ri_icmp_eq (a := (t hd)) (b := sy) (tgt := 72) hx hb (by omega) (by omega) dX2_write_28 (by decide) (fun c28 => ?_) (fun c28 => ?_)
  · skip
    exact hret (on, bW 120 t) _ _ _ _ dX2_write_72 ⟨by show on = on + (sy - t hd); omega, by show bW 120 t = bW 120 (up t hd sy); rw [show sy = t hd by omega, up_self]⟩ hP hD hS
  · skip
    refine lv_iload_n hx hb dX2_write_31 rfl (lv_at hl 1 rfl) ?_
    refine ri_if_lt (a := ((hd + 120) / 64)) (tgt := 72) hx hb (by omega) dX2_write_32 (by decide) (fun c32 => ?_) (fun c32 => ?_)
    · exact absurd c32 (by omega)
    · skip
      refine lv_iload_n hx hb dX2_write_35 rfl (lv_at hl 1 rfl) ?_
      refine lv_aload_n hx hb dX2_write_36 rfl (lv_at hl 3 rfl) ?_
      refine va_get (D := g) (ci := 2) (v := .ref t0) (C := RX2) (T := TX2) (N := 16) hx hb hts inX2 hown hK.1 hP 0 rfl rfl 2 (by decide) f27 (fun _ h9 => h9) rfl dX2_write_37 ?_
      refine ri_alen hx hb hK.1 hP 1 1 rfl rfl dX2_write_40 ?_
      refine ri_ex (b := 4) rfl ?_
      refine ri_icmp_ge (a := ((hd + 120) / 64)) (b := 4) (tgt := 72) hx hb (by omega) (by omega) dX2_write_41 (by decide) (fun c41 => ?_) (fun c41 => ?_)
      · exact absurd c41 (by omega)
      · skip
        refine lv_aload_n hx hb dX2_write_44 rfl (lv_at hl 3 rfl) ?_
        refine va_get (D := g) (ci := 2) (v := .ref t0) (C := RX2) (T := TX2) (N := 16) hx hb hts inX2 hown hK.1 hP 0 rfl rfl 2 (by decide) f27 (fun _ h9 => h9) rfl dX2_write_45 ?_
        refine lv_iload_n hx hb dX2_write_48 rfl (lv_at hl 1 rfl) ?_
        refine lv_dup2_11 hx hb dX2_write_49 rfl rfl ?_
        refine ri_lald (f := (bW 120 t)) (i := ((hd + 120) / 64)) hx hb hK.1 hP 1 1 rfl rfl (by omega) (by omega) dX2_write_50 ?_
        refine lv_lconst (v := 1) hx hb dX2_write_51 rfl ?_
        refine lv_iload_n hx hb dX2_write_52 rfl (lv_at hl 2 rfl) ?_
        refine lv_bipush (v := iI 63) hx hb dX2_write_53 (by decide) ?_
        refine ri_and1 (a := (hd + 120)) (b := 63) hx hb (by omega) 6 (by decide) dX2_write_55 ?_
        refine ri_ex (b := ((hd + 120) % 64)) (by first | rfl | simp | omega) ?_
        refine lv_lshl hx hb dX2_write_56 rfl ?_
        refine lv_lxor hx hb dX2_write_57 ?_
        refine ri_last (f := (bW 120 t)) (i := ((hd + 120) / 64)) (x := (((bW 120 t) (((hd + 120) / 64) : Int).toNat) ^^^ ((1 : Int64) <<< ((iI ((hd + 120) % 64)).toInt64 &&& 63)))) hx hb hK.1 hP hD hS 1 1 rfl rfl (by omega) (by omega) dX2_write_58 (fun H locs hP hD hS => ?_)
        have hP : va_P g vwCl [(w, .inr (2, [.int (iI 120), .int (iI 4), .ref t0, .ref t1, .ref a0, .ref a1, .ref a2, .int (iI o), .int (iI st), .int (iI pe), .int (iI dr), .int (iI sta), .int (iI hd), .int (iI on), .int (iI lf), .int (iI rt)])), (t0, .inl (k.2.1, 4, .inr (.inl (vp_updL (bW 120 t) (((hd + 120) / 64) : Int).toNat (((bW 120 t) (((hd + 120) / 64) : Int).toNat) ^^^ ((1 : Int64) <<< ((iI ((hd + 120) % 64)).toInt64 &&& 63)))))))] H := hP
        have hD : va_D A [(w, .inr (2, [.int (iI 120), .int (iI 4), .ref t0, .ref t1, .ref a0, .ref a1, .ref a2, .int (iI o), .int (iI st), .int (iI pe), .int (iI dr), .int (iI sta), .int (iI hd), .int (iI on), .int (iI lf), .int (iI rt)])), (t0, .inl (k.2.1, 4, .inr (.inl (vp_updL (bW 120 t) (((hd + 120) / 64) : Int).toNat (((bW 120 t) (((hd + 120) / 64) : Int).toNat) ^^^ ((1 : Int64) <<< ((iI ((hd + 120) % 64)).toInt64 &&& 63)))))))] := hD
        refine lv_aload_n hx hb dX2_write_59 rfl (lv_at hl 3 rfl) ?_
        refine lv_dup hx hb dX2_write_60 rfl ?_
        refine va_get (D := g) (ci := 2) (v := .int (iI on)) (C := RX2) (T := TX2) (N := 16) hx hb hts inX2 hown hK.1 hP 0 rfl rfl 13 (by decide) f91 (fun _ h9 => h9) rfl dX2_write_61 ?_
        refine lv_iload_n hx hb dX2_write_64 rfl (lv_at hl 4 rfl) ?_
        refine lv_iload hx hb dX2_write_65 (lv_at hl 0 rfl) ?_
        refine ri_isub (a := sy) (b := (t hd)) hx hb dX2_write_67 ?_
        refine ri_iadd (a := on) (b := (sy - (t hd))) hx hb dX2_write_68 ?_
        refine va_put (D := g) (ci := 2) (v := .int (iI (on + (sy - (t hd))))) (ty := .int) (C := RX2) (T := TX2) (N := 16) hx hb hts inX2 tyX2 tyX2_ok nmX2 hown hK.1 hP hD hS 0 rfl rfl 13 (by decide) f91 (fun _ h9 => h9) rfl (by decide +kernel) rfl rfl (Nat.le_of_ble_eq_true rfl) dX2_write_69 (fun H locs hP hD hS => ?_)
        have hP : va_P g vwCl [(w, .inr (2, [.int (iI 120), .int (iI 4), .ref t0, .ref t1, .ref a0, .ref a1, .ref a2, .int (iI o), .int (iI st), .int (iI pe), .int (iI dr), .int (iI sta), .int (iI hd), .int (iI (on + (sy - (t hd)))), .int (iI lf), .int (iI rt)])), (t0, .inl (k.2.1, 4, .inr (.inl (vp_updL (bW 120 t) (((hd + 120) / 64) : Int).toNat (((bW 120 t) (((hd + 120) / 64) : Int).toNat) ^^^ ((1 : Int64) <<< ((iI ((hd + 120) % 64)).toInt64 &&& 63)))))))] H := hP
        have hD : va_D A [(w, .inr (2, [.int (iI 120), .int (iI 4), .ref t0, .ref t1, .ref a0, .ref a1, .ref a2, .int (iI o), .int (iI st), .int (iI pe), .int (iI dr), .int (iI sta), .int (iI hd), .int (iI (on + (sy - (t hd)))), .int (iI lf), .int (iI rt)])), (t0, .inl (k.2.1, 4, .inr (.inl (vp_updL (bW 120 t) (((hd + 120) / 64) : Int).toNat (((bW 120 t) (((hd + 120) / 64) : Int).toNat) ^^^ ((1 : Int64) <<< ((iI ((hd + 120) % 64)).toInt64 &&& 63)))))))] := hD
        exact hret (on + (sy - t hd), (vp_updL (bW 120 t) ((hd + 120) / 64).toNat ((bW 120 t) ((hd + 120) / 64).toNat ^^^ ((1 : Int64) <<< ((iI ((hd + 120) % 64)).toInt64 &&& 63))))) _ _ _ _ dX2_write_72 ⟨rfl, by show (vp_updL (bW 120 t) ((hd + 120) / 64).toNat ((bW 120 t) ((hd + 120) / 64).toNat ^^^ ((1 : Int64) <<< ((iI ((hd + 120) % 64)).toInt64 &&& 63)))) = _; rw [bW_wr 120 t _ _ (by omega) sy (by rw [show 64 * (((hd + 120) / 64).toNat : Int) + (hd + 120) % 64 - 120 = hd by omega]; omega), show 64 * (((hd + 120) / 64).toNat : Int) + (hd + 120) % 64 - 120 = hd by omega]⟩ hP hD hS

set_option maxHeartbeats 4000000 in
set_option maxRecDepth 100000 in
theorem c_note120 (l : Launch) (g : va_G) (k : kT) (w t0 t1 a0 a1 a2 : Nat) (o st pe dr sta hd on lf rt : Int) (tp tps : Nat → Int64) (hs ss sd : Int → Int) (sz : Nat) (side : Int) (hst : 0 ≤ st ∧ st ≤ 120) : cV l yX2_note wsX2_note rm_1 g k (wW120 k w t0 t1 a0 a1 a2 o st pe dr sta hd on lf rt tp tps hs ss sd) sz [.ref w, .int (iI side)] 0 0 (fun _ : Unit => wW120 k w t0 t1 a0 a1 a2 o st pe dr sta hd on lf rt tp (va_cpy tp tps 0 (st * 4).toNat 4) (up hs st hd) (up ss st sta) (up sd st side)) (fun _ => True) := by
  refine st_V (by decide) rfl (Nat.le_of_ble_eq_true rfl) ?_
  intro p e s m below meth c Q A hx hb hml hown hts hin hA hP hD hS hK hret ls hl
  have hown : s.vm.findClass RX2 = some m.cls := hown
  have f47 := hts (.fieldLink RX2 47 "MachineTree$Walk" "steps" "I") (by decide +kernel)
  have inX2 := (by decide +kernel : ∀ w ∈ wsX20, w ∈ wsX2_note)
  have f18 := hts (.fieldLink RX2 18 "MachineTree$Walk" "reach" "I") (by decide +kernel)
  have f34 := hts (.fieldLink RX2 34 "MachineTree$Walk" "heads" "[I") (by decide +kernel)
  have f56 := hts (.fieldLink RX2 56 "MachineTree$Walk" "head" "I") (by decide +kernel)
  have f38 := hts (.fieldLink RX2 38 "MachineTree$Walk" "states" "[I") (by decide +kernel)
  have f53 := hts (.fieldLink RX2 53 "MachineTree$Walk" "state" "I") (by decide +kernel)
  have f41 := hts (.fieldLink RX2 41 "MachineTree$Walk" "sides" "[I") (by decide +kernel)
  have f27 := hts (.fieldLink RX2 27 "MachineTree$Walk" "tape" "[J") (by decide +kernel)
  have f31 := hts (.fieldLink RX2 31 "MachineTree$Walk" "tapes" "[J") (by decide +kernel)
  have f24 := hts (.fieldLink RX2 24 "MachineTree$Walk" "words" "I") (by decide +kernel)
  have hl : lv_has ls 2 [(0, .ref w), (1, .int (iI side))] := hl
  obtain ⟨H, hH⟩ : ∃ H, H = s.heap := ⟨_, rfl⟩
  obtain ⟨locs, hlo⟩ : ∃ L : List Loc, L = [] := ⟨_, rfl⟩
  rw [← hH] at hP
  have hS : va_S A s.heap H locs := by rw [hH, hlo]; exact hS
  rw [show W p l e rm_1 s m ([.ref w, .int (iI side)] : List Value).toArray below meth c s.heap [] 0 0 Q (F0 m 0 ls []) = W p l e rm_1 s m ([.ref w, .int (iI side)] : List Value).toArray below meth c H locs 0 0 Q (F0 m 0 ls []) by rw [hH, hlo]]
  clear hH hlo
  refine lv_aload_n hx hb dX2_note_0 rfl (lv_at hl 0 rfl) ?_
  refine va_get (D := g) (ci := 2) (v := .int (iI st)) (C := RX2) (T := TX2) (N := 16) hx hb hts inX2 hown hK.1 hP 0 rfl rfl 8 (by decide) f47 (fun _ h9 => h9) rfl dX2_note_1 ?_
  refine ri_if_lt (a := st) (tgt := 18) hx hb (by omega) dX2_note_4 (by decide) (fun c4 => ?_) (fun c4 => ?_)
  · exact absurd c4 (by omega)
  · skip
    refine lv_aload_n hx hb dX2_note_7 rfl (lv_at hl 0 rfl) ?_
    refine va_get (D := g) (ci := 2) (v := .int (iI st)) (C := RX2) (T := TX2) (N := 16) hx hb hts inX2 hown hK.1 hP 0 rfl rfl 8 (by decide) f47 (fun _ h9 => h9) rfl dX2_note_8 ?_
    refine lv_aload_n hx hb dX2_note_11 rfl (lv_at hl 0 rfl) ?_
    refine va_get (D := g) (ci := 2) (v := .int (iI 120)) (C := RX2) (T := TX2) (N := 16) hx hb hts inX2 hown hK.1 hP 0 rfl rfl 0 (by decide) f18 (fun _ h9 => h9) rfl dX2_note_12 ?_
    refine ri_icmp_le (a := st) (b := 120) (tgt := 19) hx hb (by omega) (by omega) dX2_note_15 (by decide) (fun c15 => ?_) (fun c15 => ?_)
    · skip
      refine lv_aload_n hx hb dX2_note_19 rfl (lv_at hl 0 rfl) ?_
      refine va_get (D := g) (ci := 2) (v := .ref a0) (C := RX2) (T := TX2) (N := 16) hx hb hts inX2 hown hK.1 hP 0 rfl rfl 4 (by decide) f34 (fun _ h9 => h9) rfl dX2_note_20 ?_
      refine lv_aload_n hx hb dX2_note_23 rfl (lv_at hl 0 rfl) ?_
      refine va_get (D := g) (ci := 2) (v := .int (iI st)) (C := RX2) (T := TX2) (N := 16) hx hb hts inX2 hown hK.1 hP 0 rfl rfl 8 (by decide) f47 (fun _ h9 => h9) rfl dX2_note_24 ?_
      refine lv_aload_n hx hb dX2_note_27 rfl (lv_at hl 0 rfl) ?_
      refine va_get (D := g) (ci := 2) (v := .int (iI hd)) (C := RX2) (T := TX2) (N := 16) hx hb hts inX2 hown hK.1 hP 0 rfl rfl 12 (by decide) f56 (fun _ h9 => h9) rfl dX2_note_28 ?_
      refine ri_iast (F := hs) (i := st) (x := hd) hx hb hK.1 hP hD hS 3 0 rfl rfl (by omega) (by omega) dX2_note_31 (fun H locs hP hD hS => ?_)
      have hP : va_P g vwCl [(w, .inr (2, [.int (iI 120), .int (iI 4), .ref t0, .ref t1, .ref a0, .ref a1, .ref a2, .int (iI o), .int (iI st), .int (iI pe), .int (iI dr), .int (iI sta), .int (iI hd), .int (iI on), .int (iI lf), .int (iI rt)])), (t0, .inl (k.2.1, 4, .inr (.inl tp))), (t1, .inl (k.2.1, 484, .inr (.inl tps))), (a0, .inl (k.1, 121, .inl (iF (up hs st hd)))), (a1, .inl (k.1, 121, .inl (iF ss))), (a2, .inl (k.1, 121, .inl (iF sd)))] H := hP
      have hD : va_D A [(w, .inr (2, [.int (iI 120), .int (iI 4), .ref t0, .ref t1, .ref a0, .ref a1, .ref a2, .int (iI o), .int (iI st), .int (iI pe), .int (iI dr), .int (iI sta), .int (iI hd), .int (iI on), .int (iI lf), .int (iI rt)])), (t0, .inl (k.2.1, 4, .inr (.inl tp))), (t1, .inl (k.2.1, 484, .inr (.inl tps))), (a0, .inl (k.1, 121, .inl (iF (up hs st hd)))), (a1, .inl (k.1, 121, .inl (iF ss))), (a2, .inl (k.1, 121, .inl (iF sd)))] := hD
      refine lv_aload_n hx hb dX2_note_32 rfl (lv_at hl 0 rfl) ?_
      refine va_get (D := g) (ci := 2) (v := .ref a1) (C := RX2) (T := TX2) (N := 16) hx hb hts inX2 hown hK.1 hP 0 rfl rfl 5 (by decide) f38 (fun _ h9 => h9) rfl dX2_note_33 ?_
      refine lv_aload_n hx hb dX2_note_36 rfl (lv_at hl 0 rfl) ?_
      refine va_get (D := g) (ci := 2) (v := .int (iI st)) (C := RX2) (T := TX2) (N := 16) hx hb hts inX2 hown hK.1 hP 0 rfl rfl 8 (by decide) f47 (fun _ h9 => h9) rfl dX2_note_37 ?_
      refine lv_aload_n hx hb dX2_note_40 rfl (lv_at hl 0 rfl) ?_
      refine va_get (D := g) (ci := 2) (v := .int (iI sta)) (C := RX2) (T := TX2) (N := 16) hx hb hts inX2 hown hK.1 hP 0 rfl rfl 11 (by decide) f53 (fun _ h9 => h9) rfl dX2_note_41 ?_
      refine ri_iast (F := ss) (i := st) (x := sta) hx hb hK.1 hP hD hS 4 0 rfl rfl (by omega) (by omega) dX2_note_44 (fun H locs hP hD hS => ?_)
      have hP : va_P g vwCl [(w, .inr (2, [.int (iI 120), .int (iI 4), .ref t0, .ref t1, .ref a0, .ref a1, .ref a2, .int (iI o), .int (iI st), .int (iI pe), .int (iI dr), .int (iI sta), .int (iI hd), .int (iI on), .int (iI lf), .int (iI rt)])), (t0, .inl (k.2.1, 4, .inr (.inl tp))), (t1, .inl (k.2.1, 484, .inr (.inl tps))), (a0, .inl (k.1, 121, .inl (iF (up hs st hd)))), (a1, .inl (k.1, 121, .inl (iF (up ss st sta)))), (a2, .inl (k.1, 121, .inl (iF sd)))] H := hP
      have hD : va_D A [(w, .inr (2, [.int (iI 120), .int (iI 4), .ref t0, .ref t1, .ref a0, .ref a1, .ref a2, .int (iI o), .int (iI st), .int (iI pe), .int (iI dr), .int (iI sta), .int (iI hd), .int (iI on), .int (iI lf), .int (iI rt)])), (t0, .inl (k.2.1, 4, .inr (.inl tp))), (t1, .inl (k.2.1, 484, .inr (.inl tps))), (a0, .inl (k.1, 121, .inl (iF (up hs st hd)))), (a1, .inl (k.1, 121, .inl (iF (up ss st sta)))), (a2, .inl (k.1, 121, .inl (iF sd)))] := hD
      refine lv_aload_n hx hb dX2_note_45 rfl (lv_at hl 0 rfl) ?_
      refine va_get (D := g) (ci := 2) (v := .ref a2) (C := RX2) (T := TX2) (N := 16) hx hb hts inX2 hown hK.1 hP 0 rfl rfl 6 (by decide) f41 (fun _ h9 => h9) rfl dX2_note_46 ?_
      refine lv_aload_n hx hb dX2_note_49 rfl (lv_at hl 0 rfl) ?_
      refine va_get (D := g) (ci := 2) (v := .int (iI st)) (C := RX2) (T := TX2) (N := 16) hx hb hts inX2 hown hK.1 hP 0 rfl rfl 8 (by decide) f47 (fun _ h9 => h9) rfl dX2_note_50 ?_
      refine lv_iload_n hx hb dX2_note_53 rfl (lv_at hl 1 rfl) ?_
      refine ri_iast (F := sd) (i := st) (x := side) hx hb hK.1 hP hD hS 5 0 rfl rfl (by omega) (by omega) dX2_note_54 (fun H locs hP hD hS => ?_)
      have hP : va_P g vwCl [(w, .inr (2, [.int (iI 120), .int (iI 4), .ref t0, .ref t1, .ref a0, .ref a1, .ref a2, .int (iI o), .int (iI st), .int (iI pe), .int (iI dr), .int (iI sta), .int (iI hd), .int (iI on), .int (iI lf), .int (iI rt)])), (t0, .inl (k.2.1, 4, .inr (.inl tp))), (t1, .inl (k.2.1, 484, .inr (.inl tps))), (a0, .inl (k.1, 121, .inl (iF (up hs st hd)))), (a1, .inl (k.1, 121, .inl (iF (up ss st sta)))), (a2, .inl (k.1, 121, .inl (iF (up sd st side))))] H := hP
      have hD : va_D A [(w, .inr (2, [.int (iI 120), .int (iI 4), .ref t0, .ref t1, .ref a0, .ref a1, .ref a2, .int (iI o), .int (iI st), .int (iI pe), .int (iI dr), .int (iI sta), .int (iI hd), .int (iI on), .int (iI lf), .int (iI rt)])), (t0, .inl (k.2.1, 4, .inr (.inl tp))), (t1, .inl (k.2.1, 484, .inr (.inl tps))), (a0, .inl (k.1, 121, .inl (iF (up hs st hd)))), (a1, .inl (k.1, 121, .inl (iF (up ss st sta)))), (a2, .inl (k.1, 121, .inl (iF (up sd st side))))] := hD
      refine lv_aload_n hx hb dX2_note_55 rfl (lv_at hl 0 rfl) ?_
      refine va_get (D := g) (ci := 2) (v := .ref t0) (C := RX2) (T := TX2) (N := 16) hx hb hts inX2 hown hK.1 hP 0 rfl rfl 2 (by decide) f27 (fun _ h9 => h9) rfl dX2_note_56 ?_
      refine lv_iconst (v := iI 0) hx hb dX2_note_59 rfl ?_
      refine lv_aload_n hx hb dX2_note_60 rfl (lv_at hl 0 rfl) ?_
      refine va_get (D := g) (ci := 2) (v := .ref t1) (C := RX2) (T := TX2) (N := 16) hx hb hts inX2 hown hK.1 hP 0 rfl rfl 3 (by decide) f31 (fun _ h9 => h9) rfl dX2_note_61 ?_
      refine lv_aload_n hx hb dX2_note_64 rfl (lv_at hl 0 rfl) ?_
      refine va_get (D := g) (ci := 2) (v := .int (iI st)) (C := RX2) (T := TX2) (N := 16) hx hb hts inX2 hown hK.1 hP 0 rfl rfl 8 (by decide) f47 (fun _ h9 => h9) rfl dX2_note_65 ?_
      refine lv_aload_n hx hb dX2_note_68 rfl (lv_at hl 0 rfl) ?_
      refine va_get (D := g) (ci := 2) (v := .int (iI 4)) (C := RX2) (T := TX2) (N := 16) hx hb hts inX2 hown hK.1 hP 0 rfl rfl 1 (by decide) f24 (fun _ h9 => h9) rfl dX2_note_69 ?_
      refine ri_imul (a := st) (b := 4) hx hb dX2_note_72 ?_
      refine lv_aload_n hx hb dX2_note_73 rfl (lv_at hl 0 rfl) ?_
      refine va_get (D := g) (ci := 2) (v := .int (iI 4)) (C := RX2) (T := TX2) (N := 16) hx hb hts inX2 hown hK.1 hP 0 rfl rfl 1 (by decide) f24 (fun _ h9 => h9) rfl dX2_note_74 ?_
      refine ri_copyJ (F := tp) (G := tps) (sp := 0) (dp := (st * 4)) (n := 4) hx hb (by rw [hml]; exact hl.1.symm) hown (hts (.methodLink RX2 106 arraycopyName) (by decide +kernel)) (hts (.native arraycopyName) (by decide +kernel)) (hts (.static arraycopyName) (by decide +kernel)) (hts (.initialized "java/lang/System") (by decide +kernel)) hK hP hD hS 1 2 rfl rfl (by omega) (Nat.le_of_ble_eq_true rfl) (Nat.le_of_ble_eq_true rfl) dX2_note_77 (fun H locs hP hD hS => ?_)
      have hP : va_P g vwCl [(w, .inr (2, [.int (iI 120), .int (iI 4), .ref t0, .ref t1, .ref a0, .ref a1, .ref a2, .int (iI o), .int (iI st), .int (iI pe), .int (iI dr), .int (iI sta), .int (iI hd), .int (iI on), .int (iI lf), .int (iI rt)])), (t0, .inl (k.2.1, 4, .inr (.inl tp))), (t1, .inl (k.2.1, 484, .inr (.inl (va_cpy tp tps (0 : Int).toNat ((st * 4) : Int).toNat (4 : Int).toNat)))), (a0, .inl (k.1, 121, .inl (iF (up hs st hd)))), (a1, .inl (k.1, 121, .inl (iF (up ss st sta)))), (a2, .inl (k.1, 121, .inl (iF (up sd st side))))] H := hP
      have hD : va_D A [(w, .inr (2, [.int (iI 120), .int (iI 4), .ref t0, .ref t1, .ref a0, .ref a1, .ref a2, .int (iI o), .int (iI st), .int (iI pe), .int (iI dr), .int (iI sta), .int (iI hd), .int (iI on), .int (iI lf), .int (iI rt)])), (t0, .inl (k.2.1, 4, .inr (.inl tp))), (t1, .inl (k.2.1, 484, .inr (.inl (va_cpy tp tps (0 : Int).toNat ((st * 4) : Int).toNat (4 : Int).toNat)))), (a0, .inl (k.1, 121, .inl (iF (up hs st hd)))), (a1, .inl (k.1, 121, .inl (iF (up ss st sta)))), (a2, .inl (k.1, 121, .inl (iF (up sd st side))))] := hD
      exact hret () _ _ _ _ dX2_note_80 trivial hP hD hS
    · exact absurd (by omega) c15
end
section
/-! FACTS for the walks: contents that agree are one cell; what a Walk's rows hold -/
theorem arr_re {cA : ClassId} {n : Nat} {f f' : Nat → Value} (h : ∀ j, j < n → f j = f' j) : arrV cA n f = arrV cA n f' := by
  unfold arrV
  congr 1
  first
  | (apply Array.ext
     · simp
     · intro i h1 h2
       simp at h1 h2 ⊢
       exact h i (by omega))
  | (congr 1
     apply List.ext_getElem
     · simp
     · intro i h1 h2
       simp at h1 h2 ⊢
       exact h i (by omega))
theorem P_reJ {g : va_G} {cl : List vw_C} {ws : va_W} {H : Heap} {A : Nat → Prop} {a n i : Nat} {cA : ClassId} {f f' : Nat → Int64} (hP : va_P g cl ws H) (hD : va_D A ws) (hi : ws[i]? = some (a, .inl (cA, n, .inr (.inl f)))) (h : ∀ j, j < n → f j = f' j) : va_P g cl (ws.set i (a, .inl (cA, n, .inr (.inl f')))) H ∧ va_D A (ws.set i (a, .inl (cA, n, .inr (.inl f')))) := by
  refine ⟨hP.set hD hi ?_ (fun _ _ => rfl), hD.set hi⟩
  have h1 : H[a]? = some (vp_cell cA (n, .inr (.inl f))) := hP i _ hi
  show H[a]? = some (vp_cell cA (n, .inr (.inl f')))
  rw [h1, vp_cell_l, vp_cell_l, arr_re (fun j hj => by rw [h j hj])]
theorem P_reI {g : va_G} {cl : List vw_C} {ws : va_W} {H : Heap} {A : Nat → Prop} {a n i : Nat} {cA : ClassId} {F F' : Int → Int} (hP : va_P g cl ws H) (hD : va_D A ws) (hi : ws[i]? = some (a, .inl (cA, n, .inl (iF F)))) (h : ∀ j : Int, 0 ≤ j → j < n → F j = F' j) : va_P g cl (ws.set i (a, .inl (cA, n, .inl (iF F')))) H ∧ va_D A (ws.set i (a, .inl (cA, n, .inl (iF F')))) := by
  refine ⟨hP.set hD hi ?_ (fun _ _ => rfl), hD.set hi⟩
  have h1 : H[a]? = some (vp_cell cA (n, .inl (iF F))) := hP i _ hi
  show H[a]? = some (vp_cell cA (n, .inl (iF F')))
  rw [h1, vp_cell_i, vp_cell_i, arr_re (fun j hj => by show Value.int (iI (F j)) = Value.int (iI (F' j)); rw [h j (by omega) (by omega)])]
  rfl
def hdN (co hd : Int) : Int := if co / 2 % 2 = 0 then hd - 1 else hd + 1
theorem hdN_b (co hd : Int) : hdN co hd = hd - 1 ∨ hdN co hd = hd + 1 := by
  unfold hdN
  split
  · exact Or.inl rfl
  · exact Or.inr rfl
def sdN (lf rt h : Int) : Int := if rt < h then 1 else if h < lf then -1 else 0
/-- what the rows of a Walk hold behind k steps -/
def Rp (c : Int → Int) (R : Int) (Wd k : Nat) (tps : Nat → Int64) (hs ss sd : Int → Int) : Prop := ∀ i : Nat, i ≤ k → hs i = sH c i ∧ ss i = sS c i ∧ sd i = sR c i ∧ ∀ w, w < Wd → tps (i * Wd + w) = bW R (sT c i) w
theorem Rp_0 {c : Int → Int} {R : Int} {Wd : Nat} {tp tps : Nat → Int64} {hs ss sd : Int → Int} (htp : ∀ w, w < Wd → tp w = bW R (sT c 0) w) : Rp c R Wd 0 (va_cpy tp tps 0 0 Wd) (up hs 0 0) (up ss 0 0) (up sd 0 0) := by
  intro i hi
  obtain rfl : i = 0 := by omega
  refine ⟨up_s, up_s, up_s, fun w hw => ?_⟩
  rw [← htp w hw]
  unfold va_cpy
  rw [if_pos (by omega)]
  congr 1
  omega
theorem Rp_s {c : Int → Int} {R : Int} {Wd k : Nat} {tps : Nat → Int64} {hs ss sd : Int → Int} (h : Rp c R Wd k tps hs ss sd) : Rp c R Wd (k + 1) (va_cpy (bW R (sT c (k + 1))) tps 0 ((k + 1) * Wd) Wd) (up hs ((k + 1 : Nat) : Int) (sH c (k + 1))) (up ss ((k + 1 : Nat) : Int) (sS c (k + 1))) (up sd ((k + 1 : Nat) : Int) (sR c (k + 1))) := by
  intro i hi
  by_cases q : i = k + 1
  · subst q
    refine ⟨up_s, up_s, up_s, fun w hw => ?_⟩
    unfold va_cpy
    rw [if_pos (by omega)]
    congr 1
    omega
  · obtain ⟨h1, h2, h3, h4⟩ := h i (by omega)
    have hne : (i : Int) ≠ ((k + 1 : Nat) : Int) := by omega
    refine ⟨by rw [up_n hne, h1], by rw [up_n hne, h2], by rw [up_n hne, h3], fun w hw => ?_⟩
    rw [← h4 w hw]
    unfold va_cpy
    rw [if_neg]
    intro hh
    have h5 : (i + 1) * Wd ≤ (k + 1) * Wd := Nat.mul_le_mul_right Wd (by omega)
    have h6 : (i + 1) * Wd = i * Wd + Wd := by rw [Nat.add_mul, Nat.one_mul]
    omega
theorem bW_all {R : Int} {Wd : Nat} (hW : 0 ≤ R ∧ 2 * R < 64 * Wd) {t u : Int → Int} (ht : ∀ j, t j = 0 ∨ t j = 1) (hu : ∀ j, u j = 0 ∨ u j = 1) (ht0 : ∀ j, (j < -R ∨ R < j) → t j = 0) (hu0 : ∀ j, (j < -R ∨ R < j) → u j = 0) : (∀ w : Nat, w < Wd → bW R t w = bW R u w) ↔ ∀ j, t j = u j := by
  constructor
  · intro h j
    by_cases q : j < -R ∨ R < j
    · rw [ht0 j q, hu0 j q]
    · have e1 : (64 * (((j + R).toNat / 64 : Nat) : Int) + (((j + R).toNat % 64 : Nat) : Int) - R) = j := by omega
      have h1 := bW_bit R t ((j + R).toNat / 64) ((j + R).toNat % 64) (by omega)
      have h2 := bW_bit R u ((j + R).toNat / 64) ((j + R).toNat % 64) (by omega)
      rw [h _ (by omega), h2, e1] at h1
      have h3 := ht j
      have h4 := hu j
      simp only [decide_eq_decide] at h1
      omega
  · intro h w _
    exact bW_eq h w
theorem lat_2 {P : Nat → Prop} {th : Int} (h0 : 0 ≤ th) (h1 : ¬ P th.toNat) (h2 : 1 ≤ th → ¬ P (th - 1).toNat) : lat P (th + 1).toNat = lat P (th + -2 + 1).toNat := by
  rw [show (th + 1).toNat = th.toNat + 1 by omega, lat_n h1]
  by_cases q : 1 ≤ th
  · rw [show th.toNat = (th - 1).toNat + 1 by omega, lat_n (h2 q)]
    congr 1
    omega
  · congr 1
    omega
theorem lat_1 {P : Nat → Prop} {th : Int} (h0 : 0 ≤ th) (h1 : ¬ P th.toNat) : lat P (th + 1).toNat = lat P (th + -1 + 1).toNat := by
  rw [show (th + 1).toNat = th.toNat + 1 by omega, lat_n h1]
  congr 1
  omega
theorem lat_h {P : Nat → Prop} {th : Int} (h0 : 0 ≤ th) (h1 : P th.toNat) : lat P (th + 1).toNat = th := by
  rw [show (th + 1).toNat = th.toNat + 1 by omega, lat_y h1, Int.toNat_of_nonneg h0]
theorem far_s {c : Int → Int} {d : Int} {k : Nat} {th : Int} (h : 0 ≤ th) (h2 : th ≤ (k : Int) - 1) : far c d k ((k : Int) - 1 - (th + -1)).toNat = min (far c d k ((k : Int) - 1 - th).toNat) (d * sH c th.toNat) := by
  rw [show ((k : Int) - 1 - (th + -1)).toNat = ((k : Int) - 1 - th).toNat + 1 by omega]
  show min _ (d * sH c (k - (((k : Int) - 1 - th).toNat + 1))) = _
  rw [show k - (((k : Int) - 1 - th).toNat + 1) = th.toNat by omega]
/-- what look() finds -/
noncomputable def lkG (c : Int → Int) (k : Nat) (o pe dr : Int) : Int × Int × Int := if 0 ≤ cyA c k then (2, (k : Int) - cyA c k, dr) else if 0 ≤ drA c k then (3, (k : Int) - drA c k, sH c k - sH c (drA c k).toNat) else (o, pe, dr)
theorem runF_s {c : Int → Int} {L k : Nat} (h : k < L) : runF c (L - k) k = if zc c k < 0 then (1, k + 1, 0, 0) else if 0 ≤ cyA c (k + 1) then (2, k + 1, (k + 1 : Nat) - cyA c (k + 1), 0) else if 0 ≤ drA c (k + 1) then (3, k + 1, (k + 1 : Nat) - drA c (k + 1), sH c (k + 1) - sH c (drA c (k + 1)).toNat) else runF c (L - (k + 1)) (k + 1) := by
  rw [show L - k = (L - (k + 1)) + 1 by omega]
  rfl
/-- how many steps the configuration at a run's end has behind it -/
def kF (F : Int × Nat × Int × Int) : Nat := if F.1 = 1 then F.2.1 - 1 else F.2.1
/-- a run on its way: configuration kk, steps s, outcome o, period pe, drift dr -/
def onW (c : Int → Int) (R : Int) (Wd L kk : Nat) (o s pe dr : Int) (tps : Nat → Int64) (hs ss sd : Int → Int) : Prop :=
  (o = 0 ∧ s = kk ∧ pe = 0 ∧ dr = 0 ∧ kk ≤ L ∧ runF c L 0 = runF c (L - kk) kk ∧ alive c kk ∧ Rp c R Wd kk tps hs ss sd) ∨
  (o ≠ 0 ∧ (o = 1 ∨ o = 2 ∨ o = 3) ∧ 1 ≤ s ∧ s ≤ L ∧ runF c L 0 = (o, s.toNat, pe, dr) ∧ kk = kF (o, s.toNat, pe, dr) ∧ alive c kk)
theorem onW_halt {c : Int → Int} {R : Int} {Wd L kk : Nat} {tps : Nat → Int64} {hs ss sd : Int → Int} (hk : kk < L) (hr : runF c L 0 = runF c (L - kk) kk) (ha : alive c kk) (hz : zc c kk < 0) : onW c R Wd L kk 1 ((kk + 1 : Nat) : Int) 0 0 tps hs ss sd := by
  right
  refine ⟨by decide, Or.inl rfl, by omega, by omega, ?_, ?_, ha⟩
  · rw [hr, runF_s hk, if_pos hz, Int.toNat_natCast]
  · rw [Int.toNat_natCast]; rfl
theorem onW_look {c : Int → Int} {R : Int} {Wd L kk : Nat} {tps : Nat → Int64} {hs ss sd : Int → Int} {u : Int × Int × Int} (hk : kk < L) (hr : runF c L 0 = runF c (L - kk) kk) (ha : alive c kk) (hz : ¬ zc c kk < 0) (hu : u = lkG c (kk + 1) 0 0 0) (hRp : Rp c R Wd (kk + 1) tps hs ss sd) : onW c R Wd L (kk + 1) u.1 ((kk + 1 : Nat) : Int) u.2.1 u.2.2 tps hs ss sd := by
  have ha2 : alive c (kk + 1) := alive_s ha (by omega)
  rw [runF_s hk, if_neg hz] at hr
  unfold lkG at hu
  by_cases q1 : 0 ≤ cyA c (kk + 1)
  · rw [if_pos q1] at hu hr
    subst hu
    right
    refine ⟨by show (2 : Int) ≠ 0; decide, Or.inr (Or.inl rfl), by omega, by omega, ?_, ?_, ha2⟩
    · rw [hr, Int.toNat_natCast]
    · rw [Int.toNat_natCast]; rfl
  · rw [if_neg q1] at hu hr
    by_cases q2 : 0 ≤ drA c (kk + 1)
    · rw [if_pos q2] at hu hr
      subst hu
      right
      refine ⟨by show (3 : Int) ≠ 0; decide, Or.inr (Or.inr rfl), by omega, by omega, ?_, ?_, ha2⟩
      · rw [hr, Int.toNat_natCast]
      · rw [Int.toNat_natCast]; rfl
    · rw [if_neg q2] at hu hr
      subst hu
      left
      exact ⟨rfl, rfl, rfl, rfl, by omega, hr, ha2, hRp⟩
/-- the end of a run -/
theorem onW_end {c : Int → Int} {R : Int} {Wd L kk : Nat} {o s pe dr : Int} {tps : Nat → Int64} {hs ss sd : Int → Int} (h : onW c R Wd L kk o s pe dr tps hs ss sd) (he : (L : Int) ≤ s ∨ ¬ o = 0) : o = (runF c L 0).1 ∧ s = ((runF c L 0).2.1 : Int) ∧ pe = (runF c L 0).2.2.1 ∧ dr = (runF c L 0).2.2.2 ∧ kk = kF (runF c L 0) ∧ alive c (kF (runF c L 0)) := by
  rcases h with ⟨h1, h2, h3, h4, h5, h6, h7, -⟩ | ⟨h1, h2, h3, h4, h5, h6, h7⟩
  · have e : kk = L := by omega
    subst e
    rw [Nat.sub_self] at h6
    have e2 : runF c kk 0 = (0, kk, 0, 0) := h6
    rw [e2]
    exact ⟨h1, h2, h3, h4, rfl, h7⟩
  · rw [h5]
    exact ⟨rfl, by show s = (s.toNat : Int); omega, rfl, rfl, h6, h6 ▸ h7⟩
end
section
/-! THE CLASS Walk: a step, and the looks back -/
set_option maxHeartbeats 4000000 in
set_option maxRecDepth 100000 in
theorem c_act300 (l : Launch) (g : va_G) (k : kT) (w t0 t1 a0 a1 a2 : Nat) (o st pe dr sta hd on lf rt : Int) (tps : Nat → Int64) (hs ss sd : Int → Int) (sz : Nat) (co : Int) (t : Int → Int) (h01 : ∀ j, t j = 0 ∨ t j = 1) (ht0 : ∀ j, (j < -300 ∨ 300 < j) → t j = 0) (hhd : -300 < hd ∧ hd < 300) (hst : 0 ≤ st ∧ st ≤ 300) (hco : 0 ≤ co ∧ co < 16) (hlr : -300 ≤ lf ∧ lf ≤ 300 ∧ -300 ≤ rt ∧ rt ≤ 300) : cV l yX2_act wsX2_act rm_3 g k (wW300 k w t0 t1 a0 a1 a2 o st pe dr sta hd on lf rt (bW 300 t) tps hs ss sd) sz [.ref w, .int (iI co)] 0 0 (fun _ : Unit => wW300 k w t0 t1 a0 a1 a2 o st pe dr (co / 4) (hdN co hd) (on + ((co % 2) - t hd)) (min lf (hdN co hd)) (max rt (hdN co hd)) (bW 300 (up t hd (co % 2))) (va_cpy (bW 300 (up t hd (co % 2))) tps 0 (st * 10).toNat 10) (up hs st (hdN co hd)) (up ss st (co / 4)) (up sd st (sdN lf rt (hdN co hd)))) (fun _ => True) := by
  refine st_V (by decide) rfl (Nat.le_of_ble_eq_true rfl) ?_
  intro p e s m below meth c Q A hx hb hml hown hts hin hA hP hD hS hK hret ls hl
  have hown : s.vm.findClass RX2 = some m.cls := hown
  have f56 := hts (.fieldLink RX2 56 "MachineTree$Walk" "head" "I") (by decide +kernel)
  have inX2 := (by decide +kernel : ∀ w ∈ wsX20, w ∈ wsX2_act)
  have f53 := hts (.fieldLink RX2 53 "MachineTree$Walk" "state" "I") (by decide +kernel)
  have f94 := hts (.fieldLink RX2 94 "MachineTree$Walk" "left" "I") (by decide +kernel)
  have f97 := hts (.fieldLink RX2 97 "MachineTree$Walk" "right" "I") (by decide +kernel)
  have hl : lv_has ls 3 [(0, .ref w), (1, .int (iI co))] := hl
  obtain ⟨H, hH⟩ : ∃ H, H = s.heap := ⟨_, rfl⟩
  obtain ⟨locs, hlo⟩ : ∃ L : List Loc, L = [] := ⟨_, rfl⟩
  rw [← hH] at hP
  have hS : va_S A s.heap H locs := by rw [hH, hlo]; exact hS
  rw [show W p l e rm_3 s m ([.ref w, .int (iI co)] : List Value).toArray below meth c s.heap [] 0 0 Q (F0 m 0 ls []) = W p l e rm_3 s m ([.ref w, .int (iI co)] : List Value).toArray below meth c H locs 0 0 Q (F0 m 0 ls []) by rw [hH, hlo]]
  clear hH hlo
  have hh := hdN_b co hd
  have hth := h01 hd
  refine lv_aload_n hx hb dX2_act_0 rfl (lv_at hl 0 rfl) ?_
  refine lv_iload_n hx hb dX2_act_1 rfl (lv_at hl 1 rfl) ?_
  refine lv_iconst (v := iI 1) hx hb dX2_act_2 rfl ?_
  refine ri_and1 (a := co) (b := 1) hx hb (by omega) 1 (by decide) dX2_act_3 ?_
  refine ri_ex (b := (co % 2)) (by first | rfl | simp | omega) ?_
  refine rc_V (own := RX2) (q := (RX2, TX2, 16)) (wc := [(w, .inr (2, [.int (iI 300), .int (iI 10), .ref t0, .ref t1, .ref a0, .ref a1, .ref a2, .int (iI o), .int (iI st), .int (iI pe), .int (iI dr), .int (iI sta), .int (iI hd), .int (iI on), .int (iI lf), .int (iI rt)])), (t0, .inl (k.2.1, 10, .inr (.inl (bW 300 t))))]) (wr := [(t1, .inl (k.2.1, 3010, .inr (.inl tps))), (a0, .inl (k.1, 301, .inl (iF hs))), (a1, .inl (k.1, 301, .inl (iF ss))), (a2, .inl (k.1, 301, .inl (iF sd)))]) (As := [.int (iI (co % 2))]) (rest := []) ⟨hx, hb, hml, hown, hts⟩ (c_write300 l g k w t0 t1 a0 a1 a2 o st pe dr sta hd on lf rt H.size (co % 2) t h01 ht0 (by omega) (by omega)) (cwV 1 hts gX2_act_X2_write rfl rfl rfl (by decide +kernel) ⟨Nat.le_of_ble_eq_true rfl, Nat.le_of_ble_eq_true rfl⟩) hK hP hD hS hA [0, 1] [2, 3, 4, 5] rfl (by decide) rfl (by decide) (by decide) (ci := 2) (q0 := 0) rfl rfl rfl rfl hl.1 (Nat.le_of_ble_eq_true rfl) ⟨Nat.le_of_ble_eq_true rfl, Nat.le_of_ble_eq_true rfl⟩ dX2_act_4 (fun u4 H locs hu4 hP hD hS => ?_)
  obtain ⟨u4a, u4b⟩ := u4
  obtain ⟨e4a, e4b⟩ := hu4
  dsimp only at e4a e4b
  subst e4a e4b
  have hP : va_P g vwCl [(t1, .inl (k.2.1, 3010, .inr (.inl tps))), (a0, .inl (k.1, 301, .inl (iF hs))), (a1, .inl (k.1, 301, .inl (iF ss))), (a2, .inl (k.1, 301, .inl (iF sd))), (w, .inr (2, [.int (iI 300), .int (iI 10), .ref t0, .ref t1, .ref a0, .ref a1, .ref a2, .int (iI o), .int (iI st), .int (iI pe), .int (iI dr), .int (iI sta), .int (iI hd), .int (iI (on + ((co % 2) - t hd))), .int (iI lf), .int (iI rt)])), (t0, .inl (k.2.1, 10, .inr (.inl (bW 300 (up t hd (co % 2))))))] H := hP
  have hD : va_D A [(t1, .inl (k.2.1, 3010, .inr (.inl tps))), (a0, .inl (k.1, 301, .inl (iF hs))), (a1, .inl (k.1, 301, .inl (iF ss))), (a2, .inl (k.1, 301, .inl (iF sd))), (w, .inr (2, [.int (iI 300), .int (iI 10), .ref t0, .ref t1, .ref a0, .ref a1, .ref a2, .int (iI o), .int (iI st), .int (iI pe), .int (iI dr), .int (iI sta), .int (iI hd), .int (iI (on + ((co % 2) - t hd))), .int (iI lf), .int (iI rt)])), (t0, .inl (k.2.1, 10, .inr (.inl (bW 300 (up t hd (co % 2))))))] := hD
  have hP := hP.sub (ws' := [(w, .inr (2, [.int (iI 300), .int (iI 10), .ref t0, .ref t1, .ref a0, .ref a1, .ref a2, .int (iI o), .int (iI st), .int (iI pe), .int (iI dr), .int (iI sta), .int (iI hd), .int (iI (on + ((co % 2) - t hd))), .int (iI lf), .int (iI rt)])), (t0, .inl (k.2.1, 10, .inr (.inl (bW 300 (up t hd (co % 2)))))), (t1, .inl (k.2.1, 3010, .inr (.inl tps))), (a0, .inl (k.1, 301, .inl (iF hs))), (a1, .inl (k.1, 301, .inl (iF ss))), (a2, .inl (k.1, 301, .inl (iF sd)))]) [4, 5, 0, 1, 2, 3] rfl
  have hD := hD.sub (ws' := [(w, .inr (2, [.int (iI 300), .int (iI 10), .ref t0, .ref t1, .ref a0, .ref a1, .ref a2, .int (iI o), .int (iI st), .int (iI pe), .int (iI dr), .int (iI sta), .int (iI hd), .int (iI (on + ((co % 2) - t hd))), .int (iI lf), .int (iI rt)])), (t0, .inl (k.2.1, 10, .inr (.inl (bW 300 (up t hd (co % 2)))))), (t1, .inl (k.2.1, 3010, .inr (.inl tps))), (a0, .inl (k.1, 301, .inl (iF hs))), (a1, .inl (k.1, 301, .inl (iF ss))), (a2, .inl (k.1, 301, .inl (iF sd)))]) [4, 5, 0, 1, 2, 3] (by decide) rfl
  refine lv_aload_n hx hb dX2_act_7 rfl (lv_at hl 0 rfl) ?_
  refine lv_dup hx hb dX2_act_8 rfl ?_
  refine va_get (D := g) (ci := 2) (v := .int (iI hd)) (C := RX2) (T := TX2) (N := 16) hx hb hts inX2 hown hK.1 hP 0 rfl rfl 12 (by decide) f56 (fun _ h9 => h9) rfl dX2_act_9 ?_
  have J23 : ∀ (x : Int),  (hd + x = hdN co hd) → ∀ (ls : Array Slot), lv_has ls 3 [(0, .ref w), (1, .int (iI co))] → W p l e rm_3 s m ([.ref w, .int (iI co)] : List Value).toArray below meth c H locs 0 0 Q (F0 m 23 ls [.int (iI x), .int (iI hd), .ref w]) := by
    intro x hx9 ls hl
    refine ri_iadd (a := hd) (b := x) hx hb dX2_act_23 ?_
    refine ri_ex (b := (hdN co hd)) hx9 ?_
    refine va_put (D := g) (ci := 2) (v := .int (iI (hdN co hd))) (ty := .int) (C := RX2) (T := TX2) (N := 16) hx hb hts inX2 tyX2 tyX2_ok nmX2 hown hK.1 hP hD hS 0 rfl rfl 12 (by decide) f56 (fun _ h9 => h9) rfl (by decide +kernel) rfl rfl (Nat.le_of_ble_eq_true rfl) dX2_act_24 (fun H locs hP hD hS => ?_)
    have hP : va_P g vwCl [(w, .inr (2, [.int (iI 300), .int (iI 10), .ref t0, .ref t1, .ref a0, .ref a1, .ref a2, .int (iI o), .int (iI st), .int (iI pe), .int (iI dr), .int (iI sta), .int (iI (hdN co hd)), .int (iI (on + ((co % 2) - t hd))), .int (iI lf), .int (iI rt)])), (t0, .inl (k.2.1, 10, .inr (.inl (bW 300 (up t hd (co % 2)))))), (t1, .inl (k.2.1, 3010, .inr (.inl tps))), (a0, .inl (k.1, 301, .inl (iF hs))), (a1, .inl (k.1, 301, .inl (iF ss))), (a2, .inl (k.1, 301, .inl (iF sd)))] H := hP
    have hD : va_D A [(w, .inr (2, [.int (iI 300), .int (iI 10), .ref t0, .ref t1, .ref a0, .ref a1, .ref a2, .int (iI o), .int (iI st), .int (iI pe), .int (iI dr), .int (iI sta), .int (iI (hdN co hd)), .int (iI (on + ((co % 2) - t hd))), .int (iI lf), .int (iI rt)])), (t0, .inl (k.2.1, 10, .inr (.inl (bW 300 (up t hd (co % 2)))))), (t1, .inl (k.2.1, 3010, .inr (.inl tps))), (a0, .inl (k.1, 301, .inl (iF hs))), (a1, .inl (k.1, 301, .inl (iF ss))), (a2, .inl (k.1, 301, .inl (iF sd)))] := hD
    refine lv_aload_n hx hb dX2_act_27 rfl (lv_at hl 0 rfl) ?_
    refine lv_iload_n hx hb dX2_act_28 rfl (lv_at hl 1 rfl) ?_
    refine lv_iconst (v := iI 2) hx hb dX2_act_29 rfl ?_
    refine ri_shr (a := co) (b := 2) hx hb (by omega) 2 (by decide) dX2_act_30 ?_
    refine ri_ex (b := (co / 4)) (by first | rfl | simp | omega) ?_
    refine va_put (D := g) (ci := 2) (v := .int (iI (co / 4))) (ty := .int) (C := RX2) (T := TX2) (N := 16) hx hb hts inX2 tyX2 tyX2_ok nmX2 hown hK.1 hP hD hS 0 rfl rfl 11 (by decide) f53 (fun _ h9 => h9) rfl (by decide +kernel) rfl rfl (Nat.le_of_ble_eq_true rfl) dX2_act_31 (fun H locs hP hD hS => ?_)
    have hP : va_P g vwCl [(w, .inr (2, [.int (iI 300), .int (iI 10), .ref t0, .ref t1, .ref a0, .ref a1, .ref a2, .int (iI o), .int (iI st), .int (iI pe), .int (iI dr), .int (iI (co / 4)), .int (iI (hdN co hd)), .int (iI (on + ((co % 2) - t hd))), .int (iI lf), .int (iI rt)])), (t0, .inl (k.2.1, 10, .inr (.inl (bW 300 (up t hd (co % 2)))))), (t1, .inl (k.2.1, 3010, .inr (.inl tps))), (a0, .inl (k.1, 301, .inl (iF hs))), (a1, .inl (k.1, 301, .inl (iF ss))), (a2, .inl (k.1, 301, .inl (iF sd)))] H := hP
    have hD : va_D A [(w, .inr (2, [.int (iI 300), .int (iI 10), .ref t0, .ref t1, .ref a0, .ref a1, .ref a2, .int (iI o), .int (iI st), .int (iI pe), .int (iI dr), .int (iI (co / 4)), .int (iI (hdN co hd)), .int (iI (on + ((co % 2) - t hd))), .int (iI lf), .int (iI rt)])), (t0, .inl (k.2.1, 10, .inr (.inl (bW 300 (up t hd (co % 2)))))), (t1, .inl (k.2.1, 3010, .inr (.inl tps))), (a0, .inl (k.1, 301, .inl (iF hs))), (a1, .inl (k.1, 301, .inl (iF ss))), (a2, .inl (k.1, 301, .inl (iF sd)))] := hD
    have J65 : ∀ (x : Int),  (x = (sdN lf rt (hdN co hd))) → ∀ (ls : Array Slot), lv_has ls 3 [(0, .ref w), (1, .int (iI co))] → W p l e rm_3 s m ([.ref w, .int (iI co)] : List Value).toArray below meth c H locs 0 0 Q (F0 m 65 ls [.int (iI x)]) := by
      intro x hx9 ls hl
      refine lv_istore_n (lv' := [(2, .int (iI x)), (0, .ref w), (1, .int (iI co))]) hx hb dX2_act_65 rfl hl (by decide) rfl (fun ls hl => ?_)
      refine lv_aload_n hx hb dX2_act_66 rfl (lv_at hl 1 rfl) ?_
      refine lv_aload_n hx hb dX2_act_67 rfl (lv_at hl 1 rfl) ?_
      refine va_get (D := g) (ci := 2) (v := .int (iI lf)) (C := RX2) (T := TX2) (N := 16) hx hb hts inX2 hown hK.1 hP 0 rfl rfl 14 (by decide) f94 (fun _ h9 => h9) rfl dX2_act_68 ?_
      refine lv_aload_n hx hb dX2_act_71 rfl (lv_at hl 1 rfl) ?_
      refine va_get (D := g) (ci := 2) (v := .int (iI (hdN co hd))) (C := RX2) (T := TX2) (N := 16) hx hb hts inX2 hown hK.1 hP 0 rfl rfl 12 (by decide) f56 (fun _ h9 => h9) rfl dX2_act_72 ?_
      refine va_mmin hx hb (by rw [hml]; exact hl.1.symm) hown (hts (.methodLink RX2 9 Lib.Math.min.name) (by decide +kernel)) (hts (.static Lib.Math.min.name) (by decide +kernel)) (hts (.initialized "java/lang/Math") (by decide +kernel)) (hts (.code Lib.Math.min.name Lib.Math.min.code 2 (some .int)) (by decide +kernel)) (Nat.le_of_ble_eq_true rfl) (Nat.le_of_ble_eq_true rfl) (Nat.le_of_ble_eq_true rfl) (Nat.le_of_ble_eq_true rfl) dX2_act_75 ?_
      refine ri_top (iI_min (a := lf) (b := (hdN co hd)) (by omega) (by omega)) ?_
      refine va_put (D := g) (ci := 2) (v := .int (iI (min lf (hdN co hd)))) (ty := .int) (C := RX2) (T := TX2) (N := 16) hx hb hts inX2 tyX2 tyX2_ok nmX2 hown hK.1 hP hD hS 0 rfl rfl 14 (by decide) f94 (fun _ h9 => h9) rfl (by decide +kernel) rfl rfl (Nat.le_of_ble_eq_true rfl) dX2_act_78 (fun H locs hP hD hS => ?_)
      have hP : va_P g vwCl [(w, .inr (2, [.int (iI 300), .int (iI 10), .ref t0, .ref t1, .ref a0, .ref a1, .ref a2, .int (iI o), .int (iI st), .int (iI pe), .int (iI dr), .int (iI (co / 4)), .int (iI (hdN co hd)), .int (iI (on + ((co % 2) - t hd))), .int (iI (min lf (hdN co hd))), .int (iI rt)])), (t0, .inl (k.2.1, 10, .inr (.inl (bW 300 (up t hd (co % 2)))))), (t1, .inl (k.2.1, 3010, .inr (.inl tps))), (a0, .inl (k.1, 301, .inl (iF hs))), (a1, .inl (k.1, 301, .inl (iF ss))), (a2, .inl (k.1, 301, .inl (iF sd)))] H := hP
      have hD : va_D A [(w, .inr (2, [.int (iI 300), .int (iI 10), .ref t0, .ref t1, .ref a0, .ref a1, .ref a2, .int (iI o), .int (iI st), .int (iI pe), .int (iI dr), .int (iI (co / 4)), .int (iI (hdN co hd)), .int (iI (on + ((co % 2) - t hd))), .int (iI (min lf (hdN co hd))), .int (iI rt)])), (t0, .inl (k.2.1, 10, .inr (.inl (bW 300 (up t hd (co % 2)))))), (t1, .inl (k.2.1, 3010, .inr (.inl tps))), (a0, .inl (k.1, 301, .inl (iF hs))), (a1, .inl (k.1, 301, .inl (iF ss))), (a2, .inl (k.1, 301, .inl (iF sd)))] := hD
      refine lv_aload_n hx hb dX2_act_81 rfl (lv_at hl 1 rfl) ?_
      refine lv_aload_n hx hb dX2_act_82 rfl (lv_at hl 1 rfl) ?_
      refine va_get (D := g) (ci := 2) (v := .int (iI rt)) (C := RX2) (T := TX2) (N := 16) hx hb hts inX2 hown hK.1 hP 0 rfl rfl 15 (by decide) f97 (fun _ h9 => h9) rfl dX2_act_83 ?_
      refine lv_aload_n hx hb dX2_act_86 rfl (lv_at hl 1 rfl) ?_
      refine va_get (D := g) (ci := 2) (v := .int (iI (hdN co hd))) (C := RX2) (T := TX2) (N := 16) hx hb hts inX2 hown hK.1 hP 0 rfl rfl 12 (by decide) f56 (fun _ h9 => h9) rfl dX2_act_87 ?_
      refine va_mmax hx hb (by rw [hml]; exact hl.1.symm) hown (hts (.methodLink RX2 15 Lib.Math.max.name) (by decide +kernel)) (hts (.static Lib.Math.max.name) (by decide +kernel)) (hts (.initialized "java/lang/Math") (by decide +kernel)) (hts (.code Lib.Math.max.name Lib.Math.max.code 2 (some .int)) (by decide +kernel)) (Nat.le_of_ble_eq_true rfl) (Nat.le_of_ble_eq_true rfl) (Nat.le_of_ble_eq_true rfl) (Nat.le_of_ble_eq_true rfl) dX2_act_90 ?_
      refine ri_top (iI_max (a := rt) (b := (hdN co hd)) (by omega) (by omega)) ?_
      refine va_put (D := g) (ci := 2) (v := .int (iI (max rt (hdN co hd)))) (ty := .int) (C := RX2) (T := TX2) (N := 16) hx hb hts inX2 tyX2 tyX2_ok nmX2 hown hK.1 hP hD hS 0 rfl rfl 15 (by decide) f97 (fun _ h9 => h9) rfl (by decide +kernel) rfl rfl (Nat.le_of_ble_eq_true rfl) dX2_act_93 (fun H locs hP hD hS => ?_)
      have hP : va_P g vwCl [(w, .inr (2, [.int (iI 300), .int (iI 10), .ref t0, .ref t1, .ref a0, .ref a1, .ref a2, .int (iI o), .int (iI st), .int (iI pe), .int (iI dr), .int (iI (co / 4)), .int (iI (hdN co hd)), .int (iI (on + ((co % 2) - t hd))), .int (iI (min lf (hdN co hd))), .int (iI (max rt (hdN co hd)))])), (t0, .inl (k.2.1, 10, .inr (.inl (bW 300 (up t hd (co % 2)))))), (t1, .inl (k.2.1, 3010, .inr (.inl tps))), (a0, .inl (k.1, 301, .inl (iF hs))), (a1, .inl (k.1, 301, .inl (iF ss))), (a2, .inl (k.1, 301, .inl (iF sd)))] H := hP
      have hD : va_D A [(w, .inr (2, [.int (iI 300), .int (iI 10), .ref t0, .ref t1, .ref a0, .ref a1, .ref a2, .int (iI o), .int (iI st), .int (iI pe), .int (iI dr), .int (iI (co / 4)), .int (iI (hdN co hd)), .int (iI (on + ((co % 2) - t hd))), .int (iI (min lf (hdN co hd))), .int (iI (max rt (hdN co hd)))])), (t0, .inl (k.2.1, 10, .inr (.inl (bW 300 (up t hd (co % 2)))))), (t1, .inl (k.2.1, 3010, .inr (.inl tps))), (a0, .inl (k.1, 301, .inl (iF hs))), (a1, .inl (k.1, 301, .inl (iF ss))), (a2, .inl (k.1, 301, .inl (iF sd)))] := hD
      refine lv_aload_n hx hb dX2_act_96 rfl (lv_at hl 1 rfl) ?_
      refine lv_iload_n hx hb dX2_act_97 rfl (lv_at hl 0 rfl) ?_
      refine rc_V (own := RX2) (q := (RX2, TX2, 16)) (wc := [(w, .inr (2, [.int (iI 300), .int (iI 10), .ref t0, .ref t1, .ref a0, .ref a1, .ref a2, .int (iI o), .int (iI st), .int (iI pe), .int (iI dr), .int (iI (co / 4)), .int (iI (hdN co hd)), .int (iI (on + ((co % 2) - t hd))), .int (iI (min lf (hdN co hd))), .int (iI (max rt (hdN co hd)))])), (t0, .inl (k.2.1, 10, .inr (.inl (bW 300 (up t hd (co % 2)))))), (t1, .inl (k.2.1, 3010, .inr (.inl tps))), (a0, .inl (k.1, 301, .inl (iF hs))), (a1, .inl (k.1, 301, .inl (iF ss))), (a2, .inl (k.1, 301, .inl (iF sd)))]) (wr := []) (As := [.int (iI x)]) (rest := []) ⟨hx, hb, hml, hown, hts⟩ (c_note300 l g k w t0 t1 a0 a1 a2 o st pe dr (co / 4) (hdN co hd) (on + ((co % 2) - t hd)) (min lf (hdN co hd)) (max rt (hdN co hd)) (bW 300 (up t hd (co % 2))) tps hs ss sd H.size x (by omega)) (cwV 1 hts gX2_act_X2_note rfl rfl rfl (by decide +kernel) ⟨Nat.le_of_ble_eq_true rfl, Nat.le_of_ble_eq_true rfl⟩) hK hP hD hS hA [0, 1, 2, 3, 4, 5] [] rfl (by decide) rfl (by decide) (by decide) (ci := 2) (q0 := 0) rfl rfl rfl rfl hl.1 (Nat.le_of_ble_eq_true rfl) ⟨Nat.le_of_ble_eq_true rfl, Nat.le_of_ble_eq_true rfl⟩ dX2_act_98 (fun u98 H locs hu98 hP hD hS => ?_)
      have hP : va_P g vwCl [(w, .inr (2, [.int (iI 300), .int (iI 10), .ref t0, .ref t1, .ref a0, .ref a1, .ref a2, .int (iI o), .int (iI st), .int (iI pe), .int (iI dr), .int (iI (co / 4)), .int (iI (hdN co hd)), .int (iI (on + ((co % 2) - t hd))), .int (iI (min lf (hdN co hd))), .int (iI (max rt (hdN co hd)))])), (t0, .inl (k.2.1, 10, .inr (.inl (bW 300 (up t hd (co % 2)))))), (t1, .inl (k.2.1, 3010, .inr (.inl (va_cpy (bW 300 (up t hd (co % 2))) tps 0 (st * 10).toNat 10)))), (a0, .inl (k.1, 301, .inl (iF (up hs st (hdN co hd))))), (a1, .inl (k.1, 301, .inl (iF (up ss st (co / 4))))), (a2, .inl (k.1, 301, .inl (iF (up sd st x))))] H := hP
      have hD : va_D A [(w, .inr (2, [.int (iI 300), .int (iI 10), .ref t0, .ref t1, .ref a0, .ref a1, .ref a2, .int (iI o), .int (iI st), .int (iI pe), .int (iI dr), .int (iI (co / 4)), .int (iI (hdN co hd)), .int (iI (on + ((co % 2) - t hd))), .int (iI (min lf (hdN co hd))), .int (iI (max rt (hdN co hd)))])), (t0, .inl (k.2.1, 10, .inr (.inl (bW 300 (up t hd (co % 2)))))), (t1, .inl (k.2.1, 3010, .inr (.inl (va_cpy (bW 300 (up t hd (co % 2))) tps 0 (st * 10).toNat 10)))), (a0, .inl (k.1, 301, .inl (iF (up hs st (hdN co hd))))), (a1, .inl (k.1, 301, .inl (iF (up ss st (co / 4))))), (a2, .inl (k.1, 301, .inl (iF (up sd st x))))] := hD
      subst hx9
      exact hret () _ _ _ _ dX2_act_101 trivial hP hD hS
    refine lv_aload_n hx hb dX2_act_34 rfl (lv_at hl 0 rfl) ?_
    refine va_get (D := g) (ci := 2) (v := .int (iI (hdN co hd))) (C := RX2) (T := TX2) (N := 16) hx hb hts inX2 hown hK.1 hP 0 rfl rfl 12 (by decide) f56 (fun _ h9 => h9) rfl dX2_act_35 ?_
    refine lv_aload_n hx hb dX2_act_38 rfl (lv_at hl 0 rfl) ?_
    refine va_get (D := g) (ci := 2) (v := .int (iI rt)) (C := RX2) (T := TX2) (N := 16) hx hb hts inX2 hown hK.1 hP 0 rfl rfl 15 (by decide) f97 (fun _ h9 => h9) rfl dX2_act_39 ?_
    refine ri_icmp_le (a := (hdN co hd)) (b := rt) (tgt := 49) hx hb (by omega) (by omega) dX2_act_42 (by decide) (fun c42 => ?_) (fun c42 => ?_)
    · skip
      refine lv_aload_n hx hb dX2_act_49 rfl (lv_at hl 0 rfl) ?_
      refine va_get (D := g) (ci := 2) (v := .int (iI (hdN co hd))) (C := RX2) (T := TX2) (N := 16) hx hb hts inX2 hown hK.1 hP 0 rfl rfl 12 (by decide) f56 (fun _ h9 => h9) rfl dX2_act_50 ?_
      refine lv_aload_n hx hb dX2_act_53 rfl (lv_at hl 0 rfl) ?_
      refine va_get (D := g) (ci := 2) (v := .int (iI lf)) (C := RX2) (T := TX2) (N := 16) hx hb hts inX2 hown hK.1 hP 0 rfl rfl 14 (by decide) f94 (fun _ h9 => h9) rfl dX2_act_54 ?_
      refine ri_icmp_ge (a := (hdN co hd)) (b := lf) (tgt := 64) hx hb (by omega) (by omega) dX2_act_57 (by decide) (fun c57 => ?_) (fun c57 => ?_)
      · skip
        refine lv_iconst (v := iI 0) hx hb dX2_act_64 rfl ?_
        exact J65 0 (by unfold sdN; rw [if_neg (by omega), if_neg (by omega)]) _ (lv_sub hl [0, 1] rfl)
      · skip
        refine lv_iconst (v := iI (-1)) hx hb dX2_act_60 rfl ?_
        refine lv_goto (tgt := 65) hx hb dX2_act_61 (by decide) ?_
        exact J65 (-1) (by unfold sdN; rw [if_neg (by omega), if_pos (by omega)]) _ (lv_sub hl [0, 1] rfl)
    · skip
      refine lv_iconst (v := iI 1) hx hb dX2_act_45 rfl ?_
      refine lv_goto (tgt := 65) hx hb dX2_act_46 (by decide) ?_
      exact J65 1 (by unfold sdN; rw [if_pos (by omega)]) _ (lv_sub hl [0, 1] rfl)
  refine lv_iload_n hx hb dX2_act_12 rfl (lv_at hl 1 rfl) ?_
  refine lv_iconst (v := iI 2) hx hb dX2_act_13 rfl ?_
  refine ri_and2 (a := co) hx hb (by omega) dX2_act_14 ?_
  refine ri_if_eq (a := (2 * (co / 2 % 2))) (tgt := 22) hx hb (by omega) dX2_act_15 (by decide) (fun c15 => ?_) (fun c15 => ?_)
  · skip
    refine lv_iconst (v := iI (-1)) hx hb dX2_act_22 rfl ?_
    exact J23 (-1) (by unfold hdN; rw [if_pos (by omega)]; omega) _ (lv_sub hl [0, 1] rfl)
  · skip
    refine lv_iconst (v := iI 1) hx hb dX2_act_18 rfl ?_
    refine lv_goto (tgt := 23) hx hb dX2_act_19 (by decide) ?_
    exact J23 1 (by unfold hdN; rw [if_neg (by omega)]) _ (lv_sub hl [0, 1] rfl)

set_option maxHeartbeats 4000000 in
set_option maxRecDepth 100000 in
theorem c_begin300 (l : Launch) (g : va_G) (k : kT) (w t0 t1 a0 a1 a2 : Nat) (o st pe dr sta hd on lf rt : Int) (tp tps : Nat → Int64) (hs ss sd : Int → Int) (sz : Nat) : cV l yX2_begin wsX2_begin rm_2 g k (wW300 k w t0 t1 a0 a1 a2 o st pe dr sta hd on lf rt tp tps hs ss sd) sz [.ref w] 0 0 (fun u : Nat → Int64 => wW300 k w t0 t1 a0 a1 a2 0 0 0 0 0 0 0 0 0 (bW 300 (fun _ => 0)) u (up hs 0 0) (up ss 0 0) (up sd 0 0)) (fun u => ∃ z : Nat → Int64, (∀ j : Nat, j < 10 → z j = 0) ∧ u = va_cpy z tps 0 ((0 : Int) * 10).toNat 10) := by
  refine st_V (by decide) rfl (Nat.le_of_ble_eq_true rfl) ?_
  intro p e s m below meth c Q A hx hb hml hown hts hin hA hP hD hS hK hret ls hl
  have hown : s.vm.findClass RX2 = some m.cls := hown
  have f27 := hts (.fieldLink RX2 27 "MachineTree$Walk" "tape" "[J") (by decide +kernel)
  have inX2 := (by decide +kernel : ∀ w ∈ wsX20, w ∈ wsX2_begin)
  have f50 := hts (.fieldLink RX2 50 "MachineTree$Walk" "outcome" "I") (by decide +kernel)
  have f47 := hts (.fieldLink RX2 47 "MachineTree$Walk" "steps" "I") (by decide +kernel)
  have f85 := hts (.fieldLink RX2 85 "MachineTree$Walk" "period" "I") (by decide +kernel)
  have f88 := hts (.fieldLink RX2 88 "MachineTree$Walk" "drift" "I") (by decide +kernel)
  have f53 := hts (.fieldLink RX2 53 "MachineTree$Walk" "state" "I") (by decide +kernel)
  have f56 := hts (.fieldLink RX2 56 "MachineTree$Walk" "head" "I") (by decide +kernel)
  have f91 := hts (.fieldLink RX2 91 "MachineTree$Walk" "ones" "I") (by decide +kernel)
  have f94 := hts (.fieldLink RX2 94 "MachineTree$Walk" "left" "I") (by decide +kernel)
  have f97 := hts (.fieldLink RX2 97 "MachineTree$Walk" "right" "I") (by decide +kernel)
  have hl : lv_has ls 1 [(0, .ref w)] := hl
  obtain ⟨H, hH⟩ : ∃ H, H = s.heap := ⟨_, rfl⟩
  obtain ⟨locs, hlo⟩ : ∃ L : List Loc, L = [] := ⟨_, rfl⟩
  rw [← hH] at hP
  have hS : va_S A s.heap H locs := by rw [hH, hlo]; exact hS
  rw [show W p l e rm_2 s m ([.ref w] : List Value).toArray below meth c s.heap [] 0 0 Q (F0 m 0 ls []) = W p l e rm_2 s m ([.ref w] : List Value).toArray below meth c H locs 0 0 Q (F0 m 0 ls []) by rw [hH, hlo]]
  clear hH hlo
  refine lv_aload_n hx hb dX2_begin_0 rfl (lv_at hl 0 rfl) ?_
  refine va_get (D := g) (ci := 2) (v := .ref t0) (C := RX2) (T := TX2) (N := 16) hx hb hts inX2 hown hK.1 hP 0 rfl rfl 2 (by decide) f27 (fun _ h9 => h9) rfl dX2_begin_1 ?_
  refine lv_lconst (v := 0) hx hb dX2_begin_4 rfl ?_
  refine rc_SV (own := RX2) (wc := [(t0, .inl (k.2.1, 10, .inr (.inl tp)))]) (wr := [(w, .inr (2, [.int (iI 300), .int (iI 10), .ref t0, .ref t1, .ref a0, .ref a1, .ref a2, .int (iI o), .int (iI st), .int (iI pe), .int (iI dr), .int (iI sta), .int (iI hd), .int (iI on), .int (iI lf), .int (iI rt)])), (t1, .inl (k.2.1, 3010, .inr (.inl tps))), (a0, .inl (k.1, 301, .inl (iF hs))), (a1, .inl (k.1, 301, .inl (iF ss))), (a2, .inl (k.1, 301, .inl (iF sd)))]) (As := [.ref t0, .long 0]) (rest := []) ⟨hx, hb, hml, hown, hts⟩ (c_fillJ l g k t0 10 tp H.size 0 (by decide)) (va_cwS 2 hts gX2_begin_J7_fill_d0a16 rfl rfl rfl (by decide +kernel) ⟨Nat.le_of_ble_eq_true rfl, Nat.le_of_ble_eq_true rfl⟩) hK hP hD hS hA [1] [0, 2, 3, 4, 5] rfl (by decide) rfl (by decide) (by decide) rfl rfl hl.1 (Nat.le_of_ble_eq_true rfl) ⟨Nat.le_of_ble_eq_true rfl, Nat.le_of_ble_eq_true rfl⟩ dX2_begin_5 (fun z5 H locs hu5 hP hD hS => ?_)
  have hP : va_P g vwCl [(w, .inr (2, [.int (iI 300), .int (iI 10), .ref t0, .ref t1, .ref a0, .ref a1, .ref a2, .int (iI o), .int (iI st), .int (iI pe), .int (iI dr), .int (iI sta), .int (iI hd), .int (iI on), .int (iI lf), .int (iI rt)])), (t1, .inl (k.2.1, 3010, .inr (.inl tps))), (a0, .inl (k.1, 301, .inl (iF hs))), (a1, .inl (k.1, 301, .inl (iF ss))), (a2, .inl (k.1, 301, .inl (iF sd))), (t0, .inl (k.2.1, 10, .inr (.inl z5)))] H := hP
  have hD : va_D A [(w, .inr (2, [.int (iI 300), .int (iI 10), .ref t0, .ref t1, .ref a0, .ref a1, .ref a2, .int (iI o), .int (iI st), .int (iI pe), .int (iI dr), .int (iI sta), .int (iI hd), .int (iI on), .int (iI lf), .int (iI rt)])), (t1, .inl (k.2.1, 3010, .inr (.inl tps))), (a0, .inl (k.1, 301, .inl (iF hs))), (a1, .inl (k.1, 301, .inl (iF ss))), (a2, .inl (k.1, 301, .inl (iF sd))), (t0, .inl (k.2.1, 10, .inr (.inl z5)))] := hD
  have hP := hP.sub (ws' := [(w, .inr (2, [.int (iI 300), .int (iI 10), .ref t0, .ref t1, .ref a0, .ref a1, .ref a2, .int (iI o), .int (iI st), .int (iI pe), .int (iI dr), .int (iI sta), .int (iI hd), .int (iI on), .int (iI lf), .int (iI rt)])), (t0, .inl (k.2.1, 10, .inr (.inl z5))), (t1, .inl (k.2.1, 3010, .inr (.inl tps))), (a0, .inl (k.1, 301, .inl (iF hs))), (a1, .inl (k.1, 301, .inl (iF ss))), (a2, .inl (k.1, 301, .inl (iF sd)))]) [0, 5, 1, 2, 3, 4] rfl
  have hD := hD.sub (ws' := [(w, .inr (2, [.int (iI 300), .int (iI 10), .ref t0, .ref t1, .ref a0, .ref a1, .ref a2, .int (iI o), .int (iI st), .int (iI pe), .int (iI dr), .int (iI sta), .int (iI hd), .int (iI on), .int (iI lf), .int (iI rt)])), (t0, .inl (k.2.1, 10, .inr (.inl z5))), (t1, .inl (k.2.1, 3010, .inr (.inl tps))), (a0, .inl (k.1, 301, .inl (iF hs))), (a1, .inl (k.1, 301, .inl (iF ss))), (a2, .inl (k.1, 301, .inl (iF sd)))]) [0, 5, 1, 2, 3, 4] (by decide) rfl
  refine lv_aload_n hx hb dX2_begin_8 rfl (lv_at hl 0 rfl) ?_
  refine lv_iconst (v := iI 0) hx hb dX2_begin_9 rfl ?_
  refine va_put (D := g) (ci := 2) (v := .int (iI 0)) (ty := .int) (C := RX2) (T := TX2) (N := 16) hx hb hts inX2 tyX2 tyX2_ok nmX2 hown hK.1 hP hD hS 0 rfl rfl 7 (by decide) f50 (fun _ h9 => h9) rfl (by decide +kernel) rfl rfl (Nat.le_of_ble_eq_true rfl) dX2_begin_10 (fun H locs hP hD hS => ?_)
  have hP : va_P g vwCl [(w, .inr (2, [.int (iI 300), .int (iI 10), .ref t0, .ref t1, .ref a0, .ref a1, .ref a2, .int (iI 0), .int (iI st), .int (iI pe), .int (iI dr), .int (iI sta), .int (iI hd), .int (iI on), .int (iI lf), .int (iI rt)])), (t0, .inl (k.2.1, 10, .inr (.inl z5))), (t1, .inl (k.2.1, 3010, .inr (.inl tps))), (a0, .inl (k.1, 301, .inl (iF hs))), (a1, .inl (k.1, 301, .inl (iF ss))), (a2, .inl (k.1, 301, .inl (iF sd)))] H := hP
  have hD : va_D A [(w, .inr (2, [.int (iI 300), .int (iI 10), .ref t0, .ref t1, .ref a0, .ref a1, .ref a2, .int (iI 0), .int (iI st), .int (iI pe), .int (iI dr), .int (iI sta), .int (iI hd), .int (iI on), .int (iI lf), .int (iI rt)])), (t0, .inl (k.2.1, 10, .inr (.inl z5))), (t1, .inl (k.2.1, 3010, .inr (.inl tps))), (a0, .inl (k.1, 301, .inl (iF hs))), (a1, .inl (k.1, 301, .inl (iF ss))), (a2, .inl (k.1, 301, .inl (iF sd)))] := hD
  refine lv_aload_n hx hb dX2_begin_13 rfl (lv_at hl 0 rfl) ?_
  refine lv_iconst (v := iI 0) hx hb dX2_begin_14 rfl ?_
  refine va_put (D := g) (ci := 2) (v := .int (iI 0)) (ty := .int) (C := RX2) (T := TX2) (N := 16) hx hb hts inX2 tyX2 tyX2_ok nmX2 hown hK.1 hP hD hS 0 rfl rfl 8 (by decide) f47 (fun _ h9 => h9) rfl (by decide +kernel) rfl rfl (Nat.le_of_ble_eq_true rfl) dX2_begin_15 (fun H locs hP hD hS => ?_)
  have hP : va_P g vwCl [(w, .inr (2, [.int (iI 300), .int (iI 10), .ref t0, .ref t1, .ref a0, .ref a1, .ref a2, .int (iI 0), .int (iI 0), .int (iI pe), .int (iI dr), .int (iI sta), .int (iI hd), .int (iI on), .int (iI lf), .int (iI rt)])), (t0, .inl (k.2.1, 10, .inr (.inl z5))), (t1, .inl (k.2.1, 3010, .inr (.inl tps))), (a0, .inl (k.1, 301, .inl (iF hs))), (a1, .inl (k.1, 301, .inl (iF ss))), (a2, .inl (k.1, 301, .inl (iF sd)))] H := hP
  have hD : va_D A [(w, .inr (2, [.int (iI 300), .int (iI 10), .ref t0, .ref t1, .ref a0, .ref a1, .ref a2, .int (iI 0), .int (iI 0), .int (iI pe), .int (iI dr), .int (iI sta), .int (iI hd), .int (iI on), .int (iI lf), .int (iI rt)])), (t0, .inl (k.2.1, 10, .inr (.inl z5))), (t1, .inl (k.2.1, 3010, .inr (.inl tps))), (a0, .inl (k.1, 301, .inl (iF hs))), (a1, .inl (k.1, 301, .inl (iF ss))), (a2, .inl (k.1, 301, .inl (iF sd)))] := hD
  refine lv_aload_n hx hb dX2_begin_18 rfl (lv_at hl 0 rfl) ?_
  refine lv_iconst (v := iI 0) hx hb dX2_begin_19 rfl ?_
  refine va_put (D := g) (ci := 2) (v := .int (iI 0)) (ty := .int) (C := RX2) (T := TX2) (N := 16) hx hb hts inX2 tyX2 tyX2_ok nmX2 hown hK.1 hP hD hS 0 rfl rfl 9 (by decide) f85 (fun _ h9 => h9) rfl (by decide +kernel) rfl rfl (Nat.le_of_ble_eq_true rfl) dX2_begin_20 (fun H locs hP hD hS => ?_)
  have hP : va_P g vwCl [(w, .inr (2, [.int (iI 300), .int (iI 10), .ref t0, .ref t1, .ref a0, .ref a1, .ref a2, .int (iI 0), .int (iI 0), .int (iI 0), .int (iI dr), .int (iI sta), .int (iI hd), .int (iI on), .int (iI lf), .int (iI rt)])), (t0, .inl (k.2.1, 10, .inr (.inl z5))), (t1, .inl (k.2.1, 3010, .inr (.inl tps))), (a0, .inl (k.1, 301, .inl (iF hs))), (a1, .inl (k.1, 301, .inl (iF ss))), (a2, .inl (k.1, 301, .inl (iF sd)))] H := hP
  have hD : va_D A [(w, .inr (2, [.int (iI 300), .int (iI 10), .ref t0, .ref t1, .ref a0, .ref a1, .ref a2, .int (iI 0), .int (iI 0), .int (iI 0), .int (iI dr), .int (iI sta), .int (iI hd), .int (iI on), .int (iI lf), .int (iI rt)])), (t0, .inl (k.2.1, 10, .inr (.inl z5))), (t1, .inl (k.2.1, 3010, .inr (.inl tps))), (a0, .inl (k.1, 301, .inl (iF hs))), (a1, .inl (k.1, 301, .inl (iF ss))), (a2, .inl (k.1, 301, .inl (iF sd)))] := hD
  refine lv_aload_n hx hb dX2_begin_23 rfl (lv_at hl 0 rfl) ?_
  refine lv_iconst (v := iI 0) hx hb dX2_begin_24 rfl ?_
  refine va_put (D := g) (ci := 2) (v := .int (iI 0)) (ty := .int) (C := RX2) (T := TX2) (N := 16) hx hb hts inX2 tyX2 tyX2_ok nmX2 hown hK.1 hP hD hS 0 rfl rfl 10 (by decide) f88 (fun _ h9 => h9) rfl (by decide +kernel) rfl rfl (Nat.le_of_ble_eq_true rfl) dX2_begin_25 (fun H locs hP hD hS => ?_)
  have hP : va_P g vwCl [(w, .inr (2, [.int (iI 300), .int (iI 10), .ref t0, .ref t1, .ref a0, .ref a1, .ref a2, .int (iI 0), .int (iI 0), .int (iI 0), .int (iI 0), .int (iI sta), .int (iI hd), .int (iI on), .int (iI lf), .int (iI rt)])), (t0, .inl (k.2.1, 10, .inr (.inl z5))), (t1, .inl (k.2.1, 3010, .inr (.inl tps))), (a0, .inl (k.1, 301, .inl (iF hs))), (a1, .inl (k.1, 301, .inl (iF ss))), (a2, .inl (k.1, 301, .inl (iF sd)))] H := hP
  have hD : va_D A [(w, .inr (2, [.int (iI 300), .int (iI 10), .ref t0, .ref t1, .ref a0, .ref a1, .ref a2, .int (iI 0), .int (iI 0), .int (iI 0), .int (iI 0), .int (iI sta), .int (iI hd), .int (iI on), .int (iI lf), .int (iI rt)])), (t0, .inl (k.2.1, 10, .inr (.inl z5))), (t1, .inl (k.2.1, 3010, .inr (.inl tps))), (a0, .inl (k.1, 301, .inl (iF hs))), (a1, .inl (k.1, 301, .inl (iF ss))), (a2, .inl (k.1, 301, .inl (iF sd)))] := hD
  refine lv_aload_n hx hb dX2_begin_28 rfl (lv_at hl 0 rfl) ?_
  refine lv_iconst (v := iI 0) hx hb dX2_begin_29 rfl ?_
  refine va_put (D := g) (ci := 2) (v := .int (iI 0)) (ty := .int) (C := RX2) (T := TX2) (N := 16) hx hb hts inX2 tyX2 tyX2_ok nmX2 hown hK.1 hP hD hS 0 rfl rfl 11 (by decide) f53 (fun _ h9 => h9) rfl (by decide +kernel) rfl rfl (Nat.le_of_ble_eq_true rfl) dX2_begin_30 (fun H locs hP hD hS => ?_)
  have hP : va_P g vwCl [(w, .inr (2, [.int (iI 300), .int (iI 10), .ref t0, .ref t1, .ref a0, .ref a1, .ref a2, .int (iI 0), .int (iI 0), .int (iI 0), .int (iI 0), .int (iI 0), .int (iI hd), .int (iI on), .int (iI lf), .int (iI rt)])), (t0, .inl (k.2.1, 10, .inr (.inl z5))), (t1, .inl (k.2.1, 3010, .inr (.inl tps))), (a0, .inl (k.1, 301, .inl (iF hs))), (a1, .inl (k.1, 301, .inl (iF ss))), (a2, .inl (k.1, 301, .inl (iF sd)))] H := hP
  have hD : va_D A [(w, .inr (2, [.int (iI 300), .int (iI 10), .ref t0, .ref t1, .ref a0, .ref a1, .ref a2, .int (iI 0), .int (iI 0), .int (iI 0), .int (iI 0), .int (iI 0), .int (iI hd), .int (iI on), .int (iI lf), .int (iI rt)])), (t0, .inl (k.2.1, 10, .inr (.inl z5))), (t1, .inl (k.2.1, 3010, .inr (.inl tps))), (a0, .inl (k.1, 301, .inl (iF hs))), (a1, .inl (k.1, 301, .inl (iF ss))), (a2, .inl (k.1, 301, .inl (iF sd)))] := hD
  refine lv_aload_n hx hb dX2_begin_33 rfl (lv_at hl 0 rfl) ?_
  refine lv_iconst (v := iI 0) hx hb dX2_begin_34 rfl ?_
  refine va_put (D := g) (ci := 2) (v := .int (iI 0)) (ty := .int) (C := RX2) (T := TX2) (N := 16) hx hb hts inX2 tyX2 tyX2_ok nmX2 hown hK.1 hP hD hS 0 rfl rfl 12 (by decide) f56 (fun _ h9 => h9) rfl (by decide +kernel) rfl rfl (Nat.le_of_ble_eq_true rfl) dX2_begin_35 (fun H locs hP hD hS => ?_)
  have hP : va_P g vwCl [(w, .inr (2, [.int (iI 300), .int (iI 10), .ref t0, .ref t1, .ref a0, .ref a1, .ref a2, .int (iI 0), .int (iI 0), .int (iI 0), .int (iI 0), .int (iI 0), .int (iI 0), .int (iI on), .int (iI lf), .int (iI rt)])), (t0, .inl (k.2.1, 10, .inr (.inl z5))), (t1, .inl (k.2.1, 3010, .inr (.inl tps))), (a0, .inl (k.1, 301, .inl (iF hs))), (a1, .inl (k.1, 301, .inl (iF ss))), (a2, .inl (k.1, 301, .inl (iF sd)))] H := hP
  have hD : va_D A [(w, .inr (2, [.int (iI 300), .int (iI 10), .ref t0, .ref t1, .ref a0, .ref a1, .ref a2, .int (iI 0), .int (iI 0), .int (iI 0), .int (iI 0), .int (iI 0), .int (iI 0), .int (iI on), .int (iI lf), .int (iI rt)])), (t0, .inl (k.2.1, 10, .inr (.inl z5))), (t1, .inl (k.2.1, 3010, .inr (.inl tps))), (a0, .inl (k.1, 301, .inl (iF hs))), (a1, .inl (k.1, 301, .inl (iF ss))), (a2, .inl (k.1, 301, .inl (iF sd)))] := hD
  refine lv_aload_n hx hb dX2_begin_38 rfl (lv_at hl 0 rfl) ?_
  refine lv_iconst (v := iI 0) hx hb dX2_begin_39 rfl ?_
  refine va_put (D := g) (ci := 2) (v := .int (iI 0)) (ty := .int) (C := RX2) (T := TX2) (N := 16) hx hb hts inX2 tyX2 tyX2_ok nmX2 hown hK.1 hP hD hS 0 rfl rfl 13 (by decide) f91 (fun _ h9 => h9) rfl (by decide +kernel) rfl rfl (Nat.le_of_ble_eq_true rfl) dX2_begin_40 (fun H locs hP hD hS => ?_)
  have hP : va_P g vwCl [(w, .inr (2, [.int (iI 300), .int (iI 10), .ref t0, .ref t1, .ref a0, .ref a1, .ref a2, .int (iI 0), .int (iI 0), .int (iI 0), .int (iI 0), .int (iI 0), .int (iI 0), .int (iI 0), .int (iI lf), .int (iI rt)])), (t0, .inl (k.2.1, 10, .inr (.inl z5))), (t1, .inl (k.2.1, 3010, .inr (.inl tps))), (a0, .inl (k.1, 301, .inl (iF hs))), (a1, .inl (k.1, 301, .inl (iF ss))), (a2, .inl (k.1, 301, .inl (iF sd)))] H := hP
  have hD : va_D A [(w, .inr (2, [.int (iI 300), .int (iI 10), .ref t0, .ref t1, .ref a0, .ref a1, .ref a2, .int (iI 0), .int (iI 0), .int (iI 0), .int (iI 0), .int (iI 0), .int (iI 0), .int (iI 0), .int (iI lf), .int (iI rt)])), (t0, .inl (k.2.1, 10, .inr (.inl z5))), (t1, .inl (k.2.1, 3010, .inr (.inl tps))), (a0, .inl (k.1, 301, .inl (iF hs))), (a1, .inl (k.1, 301, .inl (iF ss))), (a2, .inl (k.1, 301, .inl (iF sd)))] := hD
  refine lv_aload_n hx hb dX2_begin_43 rfl (lv_at hl 0 rfl) ?_
  refine lv_iconst (v := iI 0) hx hb dX2_begin_44 rfl ?_
  refine va_put (D := g) (ci := 2) (v := .int (iI 0)) (ty := .int) (C := RX2) (T := TX2) (N := 16) hx hb hts inX2 tyX2 tyX2_ok nmX2 hown hK.1 hP hD hS 0 rfl rfl 14 (by decide) f94 (fun _ h9 => h9) rfl (by decide +kernel) rfl rfl (Nat.le_of_ble_eq_true rfl) dX2_begin_45 (fun H locs hP hD hS => ?_)
  have hP : va_P g vwCl [(w, .inr (2, [.int (iI 300), .int (iI 10), .ref t0, .ref t1, .ref a0, .ref a1, .ref a2, .int (iI 0), .int (iI 0), .int (iI 0), .int (iI 0), .int (iI 0), .int (iI 0), .int (iI 0), .int (iI 0), .int (iI rt)])), (t0, .inl (k.2.1, 10, .inr (.inl z5))), (t1, .inl (k.2.1, 3010, .inr (.inl tps))), (a0, .inl (k.1, 301, .inl (iF hs))), (a1, .inl (k.1, 301, .inl (iF ss))), (a2, .inl (k.1, 301, .inl (iF sd)))] H := hP
  have hD : va_D A [(w, .inr (2, [.int (iI 300), .int (iI 10), .ref t0, .ref t1, .ref a0, .ref a1, .ref a2, .int (iI 0), .int (iI 0), .int (iI 0), .int (iI 0), .int (iI 0), .int (iI 0), .int (iI 0), .int (iI 0), .int (iI rt)])), (t0, .inl (k.2.1, 10, .inr (.inl z5))), (t1, .inl (k.2.1, 3010, .inr (.inl tps))), (a0, .inl (k.1, 301, .inl (iF hs))), (a1, .inl (k.1, 301, .inl (iF ss))), (a2, .inl (k.1, 301, .inl (iF sd)))] := hD
  refine lv_aload_n hx hb dX2_begin_48 rfl (lv_at hl 0 rfl) ?_
  refine lv_iconst (v := iI 0) hx hb dX2_begin_49 rfl ?_
  refine va_put (D := g) (ci := 2) (v := .int (iI 0)) (ty := .int) (C := RX2) (T := TX2) (N := 16) hx hb hts inX2 tyX2 tyX2_ok nmX2 hown hK.1 hP hD hS 0 rfl rfl 15 (by decide) f97 (fun _ h9 => h9) rfl (by decide +kernel) rfl rfl (Nat.le_of_ble_eq_true rfl) dX2_begin_50 (fun H locs hP hD hS => ?_)
  have hP : va_P g vwCl [(w, .inr (2, [.int (iI 300), .int (iI 10), .ref t0, .ref t1, .ref a0, .ref a1, .ref a2, .int (iI 0), .int (iI 0), .int (iI 0), .int (iI 0), .int (iI 0), .int (iI 0), .int (iI 0), .int (iI 0), .int (iI 0)])), (t0, .inl (k.2.1, 10, .inr (.inl z5))), (t1, .inl (k.2.1, 3010, .inr (.inl tps))), (a0, .inl (k.1, 301, .inl (iF hs))), (a1, .inl (k.1, 301, .inl (iF ss))), (a2, .inl (k.1, 301, .inl (iF sd)))] H := hP
  have hD : va_D A [(w, .inr (2, [.int (iI 300), .int (iI 10), .ref t0, .ref t1, .ref a0, .ref a1, .ref a2, .int (iI 0), .int (iI 0), .int (iI 0), .int (iI 0), .int (iI 0), .int (iI 0), .int (iI 0), .int (iI 0), .int (iI 0)])), (t0, .inl (k.2.1, 10, .inr (.inl z5))), (t1, .inl (k.2.1, 3010, .inr (.inl tps))), (a0, .inl (k.1, 301, .inl (iF hs))), (a1, .inl (k.1, 301, .inl (iF ss))), (a2, .inl (k.1, 301, .inl (iF sd)))] := hD
  refine lv_aload_n hx hb dX2_begin_53 rfl (lv_at hl 0 rfl) ?_
  refine lv_iconst (v := iI 0) hx hb dX2_begin_54 rfl ?_
  refine rc_V (own := RX2) (q := (RX2, TX2, 16)) (wc := [(w, .inr (2, [.int (iI 300), .int (iI 10), .ref t0, .ref t1, .ref a0, .ref a1, .ref a2, .int (iI 0), .int (iI 0), .int (iI 0), .int (iI 0), .int (iI 0), .int (iI 0), .int (iI 0), .int (iI 0), .int (iI 0)])), (t0, .inl (k.2.1, 10, .inr (.inl z5))), (t1, .inl (k.2.1, 3010, .inr (.inl tps))), (a0, .inl (k.1, 301, .inl (iF hs))), (a1, .inl (k.1, 301, .inl (iF ss))), (a2, .inl (k.1, 301, .inl (iF sd)))]) (wr := []) (As := [.int (iI 0)]) (rest := []) ⟨hx, hb, hml, hown, hts⟩ (c_note300 l g k w t0 t1 a0 a1 a2 0 0 0 0 0 0 0 0 0 z5 tps hs ss sd H.size 0 (by omega)) (cwV 1 hts gX2_begin_X2_note rfl rfl rfl (by decide +kernel) ⟨Nat.le_of_ble_eq_true rfl, Nat.le_of_ble_eq_true rfl⟩) hK hP hD hS hA [0, 1, 2, 3, 4, 5] [] rfl (by decide) rfl (by decide) (by decide) (ci := 2) (q0 := 0) rfl rfl rfl rfl hl.1 (Nat.le_of_ble_eq_true rfl) ⟨Nat.le_of_ble_eq_true rfl, Nat.le_of_ble_eq_true rfl⟩ dX2_begin_55 (fun u55 H locs hu55 hP hD hS => ?_)
  have hP : va_P g vwCl [(w, .inr (2, [.int (iI 300), .int (iI 10), .ref t0, .ref t1, .ref a0, .ref a1, .ref a2, .int (iI 0), .int (iI 0), .int (iI 0), .int (iI 0), .int (iI 0), .int (iI 0), .int (iI 0), .int (iI 0), .int (iI 0)])), (t0, .inl (k.2.1, 10, .inr (.inl z5))), (t1, .inl (k.2.1, 3010, .inr (.inl (va_cpy z5 tps 0 ((0 : Int) * 10).toNat 10)))), (a0, .inl (k.1, 301, .inl (iF (up hs 0 0)))), (a1, .inl (k.1, 301, .inl (iF (up ss 0 0)))), (a2, .inl (k.1, 301, .inl (iF (up sd 0 0))))] H := hP
  have hD : va_D A [(w, .inr (2, [.int (iI 300), .int (iI 10), .ref t0, .ref t1, .ref a0, .ref a1, .ref a2, .int (iI 0), .int (iI 0), .int (iI 0), .int (iI 0), .int (iI 0), .int (iI 0), .int (iI 0), .int (iI 0), .int (iI 0)])), (t0, .inl (k.2.1, 10, .inr (.inl z5))), (t1, .inl (k.2.1, 3010, .inr (.inl (va_cpy z5 tps 0 ((0 : Int) * 10).toNat 10)))), (a0, .inl (k.1, 301, .inl (iF (up hs 0 0)))), (a1, .inl (k.1, 301, .inl (iF (up ss 0 0)))), (a2, .inl (k.1, 301, .inl (iF (up sd 0 0))))] := hD
  obtain ⟨hP, hD⟩ := P_reJ (i := 1) (f' := bW 300 (fun _ => 0)) hP hD rfl (fun j hj => by rw [hu5 j hj, bW_0])
  exact hret (va_cpy z5 tps 0 ((0 : Int) * 10).toNat 10) _ _ _ _ dX2_begin_58 ⟨z5, hu5, rfl⟩ hP hD hS

set_option maxHeartbeats 4000000 in
set_option maxRecDepth 100000 in
theorem c_act120 (l : Launch) (g : va_G) (k : kT) (w t0 t1 a0 a1 a2 : Nat) (o st pe dr sta hd on lf rt : Int) (tps : Nat → Int64) (hs ss sd : Int → Int) (sz : Nat) (co : Int) (t : Int → Int) (h01 : ∀ j, t j = 0 ∨ t j = 1) (ht0 : ∀ j, (j < -120 ∨ 120 < j) → t j = 0) (hhd : -120 < hd ∧ hd < 120) (hst : 0 ≤ st ∧ st ≤ 120) (hco : 0 ≤ co ∧ co < 16) (hlr : -120 ≤ lf ∧ lf ≤ 120 ∧ -120 ≤ rt ∧ rt ≤ 120) : cV l yX2_act wsX2_act rm_3 g k (wW120 k w t0 t1 a0 a1 a2 o st pe dr sta hd on lf rt (bW 120 t) tps hs ss sd) sz [.ref w, .int (iI co)] 0 0 (fun _ : Unit => wW120 k w t0 t1 a0 a1 a2 o st pe dr (co / 4) (hdN co hd) (on + ((co % 2) - t hd)) (min lf (hdN co hd)) (max rt (hdN co hd)) (bW 120 (up t hd (co % 2))) (va_cpy (bW 120 (up t hd (co % 2))) tps 0 (st * 4).toNat 4) (up hs st (hdN co hd)) (up ss st (co / 4)) (up sd st (sdN lf rt (hdN co hd)))) (fun _ => True) := by
  refine st_V (by decide) rfl (Nat.le_of_ble_eq_true rfl) ?_
  intro p e s m below meth c Q A hx hb hml hown hts hin hA hP hD hS hK hret ls hl
  have hown : s.vm.findClass RX2 = some m.cls := hown
  have f56 := hts (.fieldLink RX2 56 "MachineTree$Walk" "head" "I") (by decide +kernel)
  have inX2 := (by decide +kernel : ∀ w ∈ wsX20, w ∈ wsX2_act)
  have f53 := hts (.fieldLink RX2 53 "MachineTree$Walk" "state" "I") (by decide +kernel)
  have f94 := hts (.fieldLink RX2 94 "MachineTree$Walk" "left" "I") (by decide +kernel)
  have f97 := hts (.fieldLink RX2 97 "MachineTree$Walk" "right" "I") (by decide +kernel)
  have hl : lv_has ls 3 [(0, .ref w), (1, .int (iI co))] := hl
  obtain ⟨H, hH⟩ : ∃ H, H = s.heap := ⟨_, rfl⟩
  obtain ⟨locs, hlo⟩ : ∃ L : List Loc, L = [] := ⟨_, rfl⟩
  rw [← hH] at hP
  have hS : va_S A s.heap H locs := by rw [hH, hlo]; exact hS
  rw [show W p l e rm_3 s m ([.ref w, .int (iI co)] : List Value).toArray below meth c s.heap [] 0 0 Q (F0 m 0 ls []) = W p l e rm_3 s m ([.ref w, .int (iI co)] : List Value).toArray below meth c H locs 0 0 Q (F0 m 0 ls []) by rw [hH, hlo]]
  clear hH hlo
  have hh := hdN_b co hd
  have hth := h01 hd
  refine lv_aload_n hx hb dX2_act_0 rfl (lv_at hl 0 rfl) ?_
  refine lv_iload_n hx hb dX2_act_1 rfl (lv_at hl 1 rfl) ?_
  refine lv_iconst (v := iI 1) hx hb dX2_act_2 rfl ?_
  refine ri_and1 (a := co) (b := 1) hx hb (by omega) 1 (by decide) dX2_act_3 ?_
  refine ri_ex (b := (co % 2)) (by first | rfl | simp | omega) ?_
  refine rc_V (own := RX2) (q := (RX2, TX2, 16)) (wc := [(w, .inr (2, [.int (iI 120), .int (iI 4), .ref t0, .ref t1, .ref a0, .ref a1, .ref a2, .int (iI o), .int (iI st), .int (iI pe), .int (iI dr), .int (iI sta), .int (iI hd), .int (iI on), .int (iI lf), .int (iI rt)])), (t0, .inl (k.2.1, 4, .inr (.inl (bW 120 t))))]) (wr := [(t1, .inl (k.2.1, 484, .inr (.inl tps))), (a0, .inl (k.1, 121, .inl (iF hs))), (a1, .inl (k.1, 121, .inl (iF ss))), (a2, .inl (k.1, 121, .inl (iF sd)))]) (As := [.int (iI (co % 2))]) (rest := []) ⟨hx, hb, hml, hown, hts⟩ (c_write120 l g k w t0 t1 a0 a1 a2 o st pe dr sta hd on lf rt H.size (co % 2) t h01 ht0 (by omega) (by omega)) (cwV 1 hts gX2_act_X2_write rfl rfl rfl (by decide +kernel) ⟨Nat.le_of_ble_eq_true rfl, Nat.le_of_ble_eq_true rfl⟩) hK hP hD hS hA [0, 1] [2, 3, 4, 5] rfl (by decide) rfl (by decide) (by decide) (ci := 2) (q0 := 0) rfl rfl rfl rfl hl.1 (Nat.le_of_ble_eq_true rfl) ⟨Nat.le_of_ble_eq_true rfl, Nat.le_of_ble_eq_true rfl⟩ dX2_act_4 (fun u4 H locs hu4 hP hD hS => ?_)
  obtain ⟨u4a, u4b⟩ := u4
  obtain ⟨e4a, e4b⟩ := hu4
  dsimp only at e4a e4b
  subst e4a e4b
  have hP : va_P g vwCl [(t1, .inl (k.2.1, 484, .inr (.inl tps))), (a0, .inl (k.1, 121, .inl (iF hs))), (a1, .inl (k.1, 121, .inl (iF ss))), (a2, .inl (k.1, 121, .inl (iF sd))), (w, .inr (2, [.int (iI 120), .int (iI 4), .ref t0, .ref t1, .ref a0, .ref a1, .ref a2, .int (iI o), .int (iI st), .int (iI pe), .int (iI dr), .int (iI sta), .int (iI hd), .int (iI (on + ((co % 2) - t hd))), .int (iI lf), .int (iI rt)])), (t0, .inl (k.2.1, 4, .inr (.inl (bW 120 (up t hd (co % 2))))))] H := hP
  have hD : va_D A [(t1, .inl (k.2.1, 484, .inr (.inl tps))), (a0, .inl (k.1, 121, .inl (iF hs))), (a1, .inl (k.1, 121, .inl (iF ss))), (a2, .inl (k.1, 121, .inl (iF sd))), (w, .inr (2, [.int (iI 120), .int (iI 4), .ref t0, .ref t1, .ref a0, .ref a1, .ref a2, .int (iI o), .int (iI st), .int (iI pe), .int (iI dr), .int (iI sta), .int (iI hd), .int (iI (on + ((co % 2) - t hd))), .int (iI lf), .int (iI rt)])), (t0, .inl (k.2.1, 4, .inr (.inl (bW 120 (up t hd (co % 2))))))] := hD
  have hP := hP.sub (ws' := [(w, .inr (2, [.int (iI 120), .int (iI 4), .ref t0, .ref t1, .ref a0, .ref a1, .ref a2, .int (iI o), .int (iI st), .int (iI pe), .int (iI dr), .int (iI sta), .int (iI hd), .int (iI (on + ((co % 2) - t hd))), .int (iI lf), .int (iI rt)])), (t0, .inl (k.2.1, 4, .inr (.inl (bW 120 (up t hd (co % 2)))))), (t1, .inl (k.2.1, 484, .inr (.inl tps))), (a0, .inl (k.1, 121, .inl (iF hs))), (a1, .inl (k.1, 121, .inl (iF ss))), (a2, .inl (k.1, 121, .inl (iF sd)))]) [4, 5, 0, 1, 2, 3] rfl
  have hD := hD.sub (ws' := [(w, .inr (2, [.int (iI 120), .int (iI 4), .ref t0, .ref t1, .ref a0, .ref a1, .ref a2, .int (iI o), .int (iI st), .int (iI pe), .int (iI dr), .int (iI sta), .int (iI hd), .int (iI (on + ((co % 2) - t hd))), .int (iI lf), .int (iI rt)])), (t0, .inl (k.2.1, 4, .inr (.inl (bW 120 (up t hd (co % 2)))))), (t1, .inl (k.2.1, 484, .inr (.inl tps))), (a0, .inl (k.1, 121, .inl (iF hs))), (a1, .inl (k.1, 121, .inl (iF ss))), (a2, .inl (k.1, 121, .inl (iF sd)))]) [4, 5, 0, 1, 2, 3] (by decide) rfl
  refine lv_aload_n hx hb dX2_act_7 rfl (lv_at hl 0 rfl) ?_
  refine lv_dup hx hb dX2_act_8 rfl ?_
  refine va_get (D := g) (ci := 2) (v := .int (iI hd)) (C := RX2) (T := TX2) (N := 16) hx hb hts inX2 hown hK.1 hP 0 rfl rfl 12 (by decide) f56 (fun _ h9 => h9) rfl dX2_act_9 ?_
  have J23 : ∀ (x : Int),  (hd + x = hdN co hd) → ∀ (ls : Array Slot), lv_has ls 3 [(0, .ref w), (1, .int (iI co))] → W p l e rm_3 s m ([.ref w, .int (iI co)] : List Value).toArray below meth c H locs 0 0 Q (F0 m 23 ls [.int (iI x), .int (iI hd), .ref w]) := by
    intro x hx9 ls hl
    refine ri_iadd (a := hd) (b := x) hx hb dX2_act_23 ?_
    refine ri_ex (b := (hdN co hd)) hx9 ?_
    refine va_put (D := g) (ci := 2) (v := .int (iI (hdN co hd))) (ty := .int) (C := RX2) (T := TX2) (N := 16) hx hb hts inX2 tyX2 tyX2_ok nmX2 hown hK.1 hP hD hS 0 rfl rfl 12 (by decide) f56 (fun _ h9 => h9) rfl (by decide +kernel) rfl rfl (Nat.le_of_ble_eq_true rfl) dX2_act_24 (fun H locs hP hD hS => ?_)
    have hP : va_P g vwCl [(w, .inr (2, [.int (iI 120), .int (iI 4), .ref t0, .ref t1, .ref a0, .ref a1, .ref a2, .int (iI o), .int (iI st), .int (iI pe), .int (iI dr), .int (iI sta), .int (iI (hdN co hd)), .int (iI (on + ((co % 2) - t hd))), .int (iI lf), .int (iI rt)])), (t0, .inl (k.2.1, 4, .inr (.inl (bW 120 (up t hd (co % 2)))))), (t1, .inl (k.2.1, 484, .inr (.inl tps))), (a0, .inl (k.1, 121, .inl (iF hs))), (a1, .inl (k.1, 121, .inl (iF ss))), (a2, .inl (k.1, 121, .inl (iF sd)))] H := hP
    have hD : va_D A [(w, .inr (2, [.int (iI 120), .int (iI 4), .ref t0, .ref t1, .ref a0, .ref a1, .ref a2, .int (iI o), .int (iI st), .int (iI pe), .int (iI dr), .int (iI sta), .int (iI (hdN co hd)), .int (iI (on + ((co % 2) - t hd))), .int (iI lf), .int (iI rt)])), (t0, .inl (k.2.1, 4, .inr (.inl (bW 120 (up t hd (co % 2)))))), (t1, .inl (k.2.1, 484, .inr (.inl tps))), (a0, .inl (k.1, 121, .inl (iF hs))), (a1, .inl (k.1, 121, .inl (iF ss))), (a2, .inl (k.1, 121, .inl (iF sd)))] := hD
    refine lv_aload_n hx hb dX2_act_27 rfl (lv_at hl 0 rfl) ?_
    refine lv_iload_n hx hb dX2_act_28 rfl (lv_at hl 1 rfl) ?_
    refine lv_iconst (v := iI 2) hx hb dX2_act_29 rfl ?_
    refine ri_shr (a := co) (b := 2) hx hb (by omega) 2 (by decide) dX2_act_30 ?_
    refine ri_ex (b := (co / 4)) (by first | rfl | simp | omega) ?_
    refine va_put (D := g) (ci := 2) (v := .int (iI (co / 4))) (ty := .int) (C := RX2) (T := TX2) (N := 16) hx hb hts inX2 tyX2 tyX2_ok nmX2 hown hK.1 hP hD hS 0 rfl rfl 11 (by decide) f53 (fun _ h9 => h9) rfl (by decide +kernel) rfl rfl (Nat.le_of_ble_eq_true rfl) dX2_act_31 (fun H locs hP hD hS => ?_)
    have hP : va_P g vwCl [(w, .inr (2, [.int (iI 120), .int (iI 4), .ref t0, .ref t1, .ref a0, .ref a1, .ref a2, .int (iI o), .int (iI st), .int (iI pe), .int (iI dr), .int (iI (co / 4)), .int (iI (hdN co hd)), .int (iI (on + ((co % 2) - t hd))), .int (iI lf), .int (iI rt)])), (t0, .inl (k.2.1, 4, .inr (.inl (bW 120 (up t hd (co % 2)))))), (t1, .inl (k.2.1, 484, .inr (.inl tps))), (a0, .inl (k.1, 121, .inl (iF hs))), (a1, .inl (k.1, 121, .inl (iF ss))), (a2, .inl (k.1, 121, .inl (iF sd)))] H := hP
    have hD : va_D A [(w, .inr (2, [.int (iI 120), .int (iI 4), .ref t0, .ref t1, .ref a0, .ref a1, .ref a2, .int (iI o), .int (iI st), .int (iI pe), .int (iI dr), .int (iI (co / 4)), .int (iI (hdN co hd)), .int (iI (on + ((co % 2) - t hd))), .int (iI lf), .int (iI rt)])), (t0, .inl (k.2.1, 4, .inr (.inl (bW 120 (up t hd (co % 2)))))), (t1, .inl (k.2.1, 484, .inr (.inl tps))), (a0, .inl (k.1, 121, .inl (iF hs))), (a1, .inl (k.1, 121, .inl (iF ss))), (a2, .inl (k.1, 121, .inl (iF sd)))] := hD
    have J65 : ∀ (x : Int),  (x = (sdN lf rt (hdN co hd))) → ∀ (ls : Array Slot), lv_has ls 3 [(0, .ref w), (1, .int (iI co))] → W p l e rm_3 s m ([.ref w, .int (iI co)] : List Value).toArray below meth c H locs 0 0 Q (F0 m 65 ls [.int (iI x)]) := by
      intro x hx9 ls hl
      refine lv_istore_n (lv' := [(2, .int (iI x)), (0, .ref w), (1, .int (iI co))]) hx hb dX2_act_65 rfl hl (by decide) rfl (fun ls hl => ?_)
      refine lv_aload_n hx hb dX2_act_66 rfl (lv_at hl 1 rfl) ?_
      refine lv_aload_n hx hb dX2_act_67 rfl (lv_at hl 1 rfl) ?_
      refine va_get (D := g) (ci := 2) (v := .int (iI lf)) (C := RX2) (T := TX2) (N := 16) hx hb hts inX2 hown hK.1 hP 0 rfl rfl 14 (by decide) f94 (fun _ h9 => h9) rfl dX2_act_68 ?_
      refine lv_aload_n hx hb dX2_act_71 rfl (lv_at hl 1 rfl) ?_
      refine va_get (D := g) (ci := 2) (v := .int (iI (hdN co hd))) (C := RX2) (T := TX2) (N := 16) hx hb hts inX2 hown hK.1 hP 0 rfl rfl 12 (by decide) f56 (fun _ h9 => h9) rfl dX2_act_72 ?_
      refine va_mmin hx hb (by rw [hml]; exact hl.1.symm) hown (hts (.methodLink RX2 9 Lib.Math.min.name) (by decide +kernel)) (hts (.static Lib.Math.min.name) (by decide +kernel)) (hts (.initialized "java/lang/Math") (by decide +kernel)) (hts (.code Lib.Math.min.name Lib.Math.min.code 2 (some .int)) (by decide +kernel)) (Nat.le_of_ble_eq_true rfl) (Nat.le_of_ble_eq_true rfl) (Nat.le_of_ble_eq_true rfl) (Nat.le_of_ble_eq_true rfl) dX2_act_75 ?_
      refine ri_top (iI_min (a := lf) (b := (hdN co hd)) (by omega) (by omega)) ?_
      refine va_put (D := g) (ci := 2) (v := .int (iI (min lf (hdN co hd)))) (ty := .int) (C := RX2) (T := TX2) (N := 16) hx hb hts inX2 tyX2 tyX2_ok nmX2 hown hK.1 hP hD hS 0 rfl rfl 14 (by decide) f94 (fun _ h9 => h9) rfl (by decide +kernel) rfl rfl (Nat.le_of_ble_eq_true rfl) dX2_act_78 (fun H locs hP hD hS => ?_)
      have hP : va_P g vwCl [(w, .inr (2, [.int (iI 120), .int (iI 4), .ref t0, .ref t1, .ref a0, .ref a1, .ref a2, .int (iI o), .int (iI st), .int (iI pe), .int (iI dr), .int (iI (co / 4)), .int (iI (hdN co hd)), .int (iI (on + ((co % 2) - t hd))), .int (iI (min lf (hdN co hd))), .int (iI rt)])), (t0, .inl (k.2.1, 4, .inr (.inl (bW 120 (up t hd (co % 2)))))), (t1, .inl (k.2.1, 484, .inr (.inl tps))), (a0, .inl (k.1, 121, .inl (iF hs))), (a1, .inl (k.1, 121, .inl (iF ss))), (a2, .inl (k.1, 121, .inl (iF sd)))] H := hP
      have hD : va_D A [(w, .inr (2, [.int (iI 120), .int (iI 4), .ref t0, .ref t1, .ref a0, .ref a1, .ref a2, .int (iI o), .int (iI st), .int (iI pe), .int (iI dr), .int (iI (co / 4)), .int (iI (hdN co hd)), .int (iI (on + ((co % 2) - t hd))), .int (iI (min lf (hdN co hd))), .int (iI rt)])), (t0, .inl (k.2.1, 4, .inr (.inl (bW 120 (up t hd (co % 2)))))), (t1, .inl (k.2.1, 484, .inr (.inl tps))), (a0, .inl (k.1, 121, .inl (iF hs))), (a1, .inl (k.1, 121, .inl (iF ss))), (a2, .inl (k.1, 121, .inl (iF sd)))] := hD
      refine lv_aload_n hx hb dX2_act_81 rfl (lv_at hl 1 rfl) ?_
      refine lv_aload_n hx hb dX2_act_82 rfl (lv_at hl 1 rfl) ?_
      refine va_get (D := g) (ci := 2) (v := .int (iI rt)) (C := RX2) (T := TX2) (N := 16) hx hb hts inX2 hown hK.1 hP 0 rfl rfl 15 (by decide) f97 (fun _ h9 => h9) rfl dX2_act_83 ?_
      refine lv_aload_n hx hb dX2_act_86 rfl (lv_at hl 1 rfl) ?_
      refine va_get (D := g) (ci := 2) (v := .int (iI (hdN co hd))) (C := RX2) (T := TX2) (N := 16) hx hb hts inX2 hown hK.1 hP 0 rfl rfl 12 (by decide) f56 (fun _ h9 => h9) rfl dX2_act_87 ?_
      refine va_mmax hx hb (by rw [hml]; exact hl.1.symm) hown (hts (.methodLink RX2 15 Lib.Math.max.name) (by decide +kernel)) (hts (.static Lib.Math.max.name) (by decide +kernel)) (hts (.initialized "java/lang/Math") (by decide +kernel)) (hts (.code Lib.Math.max.name Lib.Math.max.code 2 (some .int)) (by decide +kernel)) (Nat.le_of_ble_eq_true rfl) (Nat.le_of_ble_eq_true rfl) (Nat.le_of_ble_eq_true rfl) (Nat.le_of_ble_eq_true rfl) dX2_act_90 ?_
      refine ri_top (iI_max (a := rt) (b := (hdN co hd)) (by omega) (by omega)) ?_
      refine va_put (D := g) (ci := 2) (v := .int (iI (max rt (hdN co hd)))) (ty := .int) (C := RX2) (T := TX2) (N := 16) hx hb hts inX2 tyX2 tyX2_ok nmX2 hown hK.1 hP hD hS 0 rfl rfl 15 (by decide) f97 (fun _ h9 => h9) rfl (by decide +kernel) rfl rfl (Nat.le_of_ble_eq_true rfl) dX2_act_93 (fun H locs hP hD hS => ?_)
      have hP : va_P g vwCl [(w, .inr (2, [.int (iI 120), .int (iI 4), .ref t0, .ref t1, .ref a0, .ref a1, .ref a2, .int (iI o), .int (iI st), .int (iI pe), .int (iI dr), .int (iI (co / 4)), .int (iI (hdN co hd)), .int (iI (on + ((co % 2) - t hd))), .int (iI (min lf (hdN co hd))), .int (iI (max rt (hdN co hd)))])), (t0, .inl (k.2.1, 4, .inr (.inl (bW 120 (up t hd (co % 2)))))), (t1, .inl (k.2.1, 484, .inr (.inl tps))), (a0, .inl (k.1, 121, .inl (iF hs))), (a1, .inl (k.1, 121, .inl (iF ss))), (a2, .inl (k.1, 121, .inl (iF sd)))] H := hP
      have hD : va_D A [(w, .inr (2, [.int (iI 120), .int (iI 4), .ref t0, .ref t1, .ref a0, .ref a1, .ref a2, .int (iI o), .int (iI st), .int (iI pe), .int (iI dr), .int (iI (co / 4)), .int (iI (hdN co hd)), .int (iI (on + ((co % 2) - t hd))), .int (iI (min lf (hdN co hd))), .int (iI (max rt (hdN co hd)))])), (t0, .inl (k.2.1, 4, .inr (.inl (bW 120 (up t hd (co % 2)))))), (t1, .inl (k.2.1, 484, .inr (.inl tps))), (a0, .inl (k.1, 121, .inl (iF hs))), (a1, .inl (k.1, 121, .inl (iF ss))), (a2, .inl (k.1, 121, .inl (iF sd)))] := hD
      refine lv_aload_n hx hb dX2_act_96 rfl (lv_at hl 1 rfl) ?_
      refine lv_iload_n hx hb dX2_act_97 rfl (lv_at hl 0 rfl) ?_
      refine rc_V (own := RX2) (q := (RX2, TX2, 16)) (wc := [(w, .inr (2, [.int (iI 120), .int (iI 4), .ref t0, .ref t1, .ref a0, .ref a1, .ref a2, .int (iI o), .int (iI st), .int (iI pe), .int (iI dr), .int (iI (co / 4)), .int (iI (hdN co hd)), .int (iI (on + ((co % 2) - t hd))), .int (iI (min lf (hdN co hd))), .int (iI (max rt (hdN co hd)))])), (t0, .inl (k.2.1, 4, .inr (.inl (bW 120 (up t hd (co % 2)))))), (t1, .inl (k.2.1, 484, .inr (.inl tps))), (a0, .inl (k.1, 121, .inl (iF hs))), (a1, .inl (k.1, 121, .inl (iF ss))), (a2, .inl (k.1, 121, .inl (iF sd)))]) (wr := []) (As := [.int (iI x)]) (rest := []) ⟨hx, hb, hml, hown, hts⟩ (c_note120 l g k w t0 t1 a0 a1 a2 o st pe dr (co / 4) (hdN co hd) (on + ((co % 2) - t hd)) (min lf (hdN co hd)) (max rt (hdN co hd)) (bW 120 (up t hd (co % 2))) tps hs ss sd H.size x (by omega)) (cwV 1 hts gX2_act_X2_note rfl rfl rfl (by decide +kernel) ⟨Nat.le_of_ble_eq_true rfl, Nat.le_of_ble_eq_true rfl⟩) hK hP hD hS hA [0, 1, 2, 3, 4, 5] [] rfl (by decide) rfl (by decide) (by decide) (ci := 2) (q0 := 0) rfl rfl rfl rfl hl.1 (Nat.le_of_ble_eq_true rfl) ⟨Nat.le_of_ble_eq_true rfl, Nat.le_of_ble_eq_true rfl⟩ dX2_act_98 (fun u98 H locs hu98 hP hD hS => ?_)
      have hP : va_P g vwCl [(w, .inr (2, [.int (iI 120), .int (iI 4), .ref t0, .ref t1, .ref a0, .ref a1, .ref a2, .int (iI o), .int (iI st), .int (iI pe), .int (iI dr), .int (iI (co / 4)), .int (iI (hdN co hd)), .int (iI (on + ((co % 2) - t hd))), .int (iI (min lf (hdN co hd))), .int (iI (max rt (hdN co hd)))])), (t0, .inl (k.2.1, 4, .inr (.inl (bW 120 (up t hd (co % 2)))))), (t1, .inl (k.2.1, 484, .inr (.inl (va_cpy (bW 120 (up t hd (co % 2))) tps 0 (st * 4).toNat 4)))), (a0, .inl (k.1, 121, .inl (iF (up hs st (hdN co hd))))), (a1, .inl (k.1, 121, .inl (iF (up ss st (co / 4))))), (a2, .inl (k.1, 121, .inl (iF (up sd st x))))] H := hP
      have hD : va_D A [(w, .inr (2, [.int (iI 120), .int (iI 4), .ref t0, .ref t1, .ref a0, .ref a1, .ref a2, .int (iI o), .int (iI st), .int (iI pe), .int (iI dr), .int (iI (co / 4)), .int (iI (hdN co hd)), .int (iI (on + ((co % 2) - t hd))), .int (iI (min lf (hdN co hd))), .int (iI (max rt (hdN co hd)))])), (t0, .inl (k.2.1, 4, .inr (.inl (bW 120 (up t hd (co % 2)))))), (t1, .inl (k.2.1, 484, .inr (.inl (va_cpy (bW 120 (up t hd (co % 2))) tps 0 (st * 4).toNat 4)))), (a0, .inl (k.1, 121, .inl (iF (up hs st (hdN co hd))))), (a1, .inl (k.1, 121, .inl (iF (up ss st (co / 4))))), (a2, .inl (k.1, 121, .inl (iF (up sd st x))))] := hD
      subst hx9
      exact hret () _ _ _ _ dX2_act_101 trivial hP hD hS
    refine lv_aload_n hx hb dX2_act_34 rfl (lv_at hl 0 rfl) ?_
    refine va_get (D := g) (ci := 2) (v := .int (iI (hdN co hd))) (C := RX2) (T := TX2) (N := 16) hx hb hts inX2 hown hK.1 hP 0 rfl rfl 12 (by decide) f56 (fun _ h9 => h9) rfl dX2_act_35 ?_
    refine lv_aload_n hx hb dX2_act_38 rfl (lv_at hl 0 rfl) ?_
    refine va_get (D := g) (ci := 2) (v := .int (iI rt)) (C := RX2) (T := TX2) (N := 16) hx hb hts inX2 hown hK.1 hP 0 rfl rfl 15 (by decide) f97 (fun _ h9 => h9) rfl dX2_act_39 ?_
    refine ri_icmp_le (a := (hdN co hd)) (b := rt) (tgt := 49) hx hb (by omega) (by omega) dX2_act_42 (by decide) (fun c42 => ?_) (fun c42 => ?_)
    · skip
      refine lv_aload_n hx hb dX2_act_49 rfl (lv_at hl 0 rfl) ?_
      refine va_get (D := g) (ci := 2) (v := .int (iI (hdN co hd))) (C := RX2) (T := TX2) (N := 16) hx hb hts inX2 hown hK.1 hP 0 rfl rfl 12 (by decide) f56 (fun _ h9 => h9) rfl dX2_act_50 ?_
      refine lv_aload_n hx hb dX2_act_53 rfl (lv_at hl 0 rfl) ?_
      refine va_get (D := g) (ci := 2) (v := .int (iI lf)) (C := RX2) (T := TX2) (N := 16) hx hb hts inX2 hown hK.1 hP 0 rfl rfl 14 (by decide) f94 (fun _ h9 => h9) rfl dX2_act_54 ?_
      refine ri_icmp_ge (a := (hdN co hd)) (b := lf) (tgt := 64) hx hb (by omega) (by omega) dX2_act_57 (by decide) (fun c57 => ?_) (fun c57 => ?_)
      · skip
        refine lv_iconst (v := iI 0) hx hb dX2_act_64 rfl ?_
        exact J65 0 (by unfold sdN; rw [if_neg (by omega), if_neg (by omega)]) _ (lv_sub hl [0, 1] rfl)
      · skip
        refine lv_iconst (v := iI (-1)) hx hb dX2_act_60 rfl ?_
        refine lv_goto (tgt := 65) hx hb dX2_act_61 (by decide) ?_
        exact J65 (-1) (by unfold sdN; rw [if_neg (by omega), if_pos (by omega)]) _ (lv_sub hl [0, 1] rfl)
    · skip
      refine lv_iconst (v := iI 1) hx hb dX2_act_45 rfl ?_
      refine lv_goto (tgt := 65) hx hb dX2_act_46 (by decide) ?_
      exact J65 1 (by unfold sdN; rw [if_pos (by omega)]) _ (lv_sub hl [0, 1] rfl)
  refine lv_iload_n hx hb dX2_act_12 rfl (lv_at hl 1 rfl) ?_
  refine lv_iconst (v := iI 2) hx hb dX2_act_13 rfl ?_
  refine ri_and2 (a := co) hx hb (by omega) dX2_act_14 ?_
  refine ri_if_eq (a := (2 * (co / 2 % 2))) (tgt := 22) hx hb (by omega) dX2_act_15 (by decide) (fun c15 => ?_) (fun c15 => ?_)
  · skip
    refine lv_iconst (v := iI (-1)) hx hb dX2_act_22 rfl ?_
    exact J23 (-1) (by unfold hdN; rw [if_pos (by omega)]; omega) _ (lv_sub hl [0, 1] rfl)
  · skip
    refine lv_iconst (v := iI 1) hx hb dX2_act_18 rfl ?_
    refine lv_goto (tgt := 23) hx hb dX2_act_19 (by decide) ?_
    exact J23 1 (by unfold hdN; rw [if_neg (by omega)]) _ (lv_sub hl [0, 1] rfl)

set_option maxHeartbeats 4000000 in
set_option maxRecDepth 100000 in
theorem c_begin120 (l : Launch) (g : va_G) (k : kT) (w t0 t1 a0 a1 a2 : Nat) (o st pe dr sta hd on lf rt : Int) (tp tps : Nat → Int64) (hs ss sd : Int → Int) (sz : Nat) : cV l yX2_begin wsX2_begin rm_2 g k (wW120 k w t0 t1 a0 a1 a2 o st pe dr sta hd on lf rt tp tps hs ss sd) sz [.ref w] 0 0 (fun u : Nat → Int64 => wW120 k w t0 t1 a0 a1 a2 0 0 0 0 0 0 0 0 0 (bW 120 (fun _ => 0)) u (up hs 0 0) (up ss 0 0) (up sd 0 0)) (fun u => ∃ z : Nat → Int64, (∀ j : Nat, j < 4 → z j = 0) ∧ u = va_cpy z tps 0 ((0 : Int) * 4).toNat 4) := by
  refine st_V (by decide) rfl (Nat.le_of_ble_eq_true rfl) ?_
  intro p e s m below meth c Q A hx hb hml hown hts hin hA hP hD hS hK hret ls hl
  have hown : s.vm.findClass RX2 = some m.cls := hown
  have f27 := hts (.fieldLink RX2 27 "MachineTree$Walk" "tape" "[J") (by decide +kernel)
  have inX2 := (by decide +kernel : ∀ w ∈ wsX20, w ∈ wsX2_begin)
  have f50 := hts (.fieldLink RX2 50 "MachineTree$Walk" "outcome" "I") (by decide +kernel)
  have f47 := hts (.fieldLink RX2 47 "MachineTree$Walk" "steps" "I") (by decide +kernel)
  have f85 := hts (.fieldLink RX2 85 "MachineTree$Walk" "period" "I") (by decide +kernel)
  have f88 := hts (.fieldLink RX2 88 "MachineTree$Walk" "drift" "I") (by decide +kernel)
  have f53 := hts (.fieldLink RX2 53 "MachineTree$Walk" "state" "I") (by decide +kernel)
  have f56 := hts (.fieldLink RX2 56 "MachineTree$Walk" "head" "I") (by decide +kernel)
  have f91 := hts (.fieldLink RX2 91 "MachineTree$Walk" "ones" "I") (by decide +kernel)
  have f94 := hts (.fieldLink RX2 94 "MachineTree$Walk" "left" "I") (by decide +kernel)
  have f97 := hts (.fieldLink RX2 97 "MachineTree$Walk" "right" "I") (by decide +kernel)
  have hl : lv_has ls 1 [(0, .ref w)] := hl
  obtain ⟨H, hH⟩ : ∃ H, H = s.heap := ⟨_, rfl⟩
  obtain ⟨locs, hlo⟩ : ∃ L : List Loc, L = [] := ⟨_, rfl⟩
  rw [← hH] at hP
  have hS : va_S A s.heap H locs := by rw [hH, hlo]; exact hS
  rw [show W p l e rm_2 s m ([.ref w] : List Value).toArray below meth c s.heap [] 0 0 Q (F0 m 0 ls []) = W p l e rm_2 s m ([.ref w] : List Value).toArray below meth c H locs 0 0 Q (F0 m 0 ls []) by rw [hH, hlo]]
  clear hH hlo
  refine lv_aload_n hx hb dX2_begin_0 rfl (lv_at hl 0 rfl) ?_
  refine va_get (D := g) (ci := 2) (v := .ref t0) (C := RX2) (T := TX2) (N := 16) hx hb hts inX2 hown hK.1 hP 0 rfl rfl 2 (by decide) f27 (fun _ h9 => h9) rfl dX2_begin_1 ?_
  refine lv_lconst (v := 0) hx hb dX2_begin_4 rfl ?_
  refine rc_SV (own := RX2) (wc := [(t0, .inl (k.2.1, 4, .inr (.inl tp)))]) (wr := [(w, .inr (2, [.int (iI 120), .int (iI 4), .ref t0, .ref t1, .ref a0, .ref a1, .ref a2, .int (iI o), .int (iI st), .int (iI pe), .int (iI dr), .int (iI sta), .int (iI hd), .int (iI on), .int (iI lf), .int (iI rt)])), (t1, .inl (k.2.1, 484, .inr (.inl tps))), (a0, .inl (k.1, 121, .inl (iF hs))), (a1, .inl (k.1, 121, .inl (iF ss))), (a2, .inl (k.1, 121, .inl (iF sd)))]) (As := [.ref t0, .long 0]) (rest := []) ⟨hx, hb, hml, hown, hts⟩ (c_fillJ l g k t0 4 tp H.size 0 (by decide)) (va_cwS 2 hts gX2_begin_J7_fill_d0a16 rfl rfl rfl (by decide +kernel) ⟨Nat.le_of_ble_eq_true rfl, Nat.le_of_ble_eq_true rfl⟩) hK hP hD hS hA [1] [0, 2, 3, 4, 5] rfl (by decide) rfl (by decide) (by decide) rfl rfl hl.1 (Nat.le_of_ble_eq_true rfl) ⟨Nat.le_of_ble_eq_true rfl, Nat.le_of_ble_eq_true rfl⟩ dX2_begin_5 (fun z5 H locs hu5 hP hD hS => ?_)
  have hP : va_P g vwCl [(w, .inr (2, [.int (iI 120), .int (iI 4), .ref t0, .ref t1, .ref a0, .ref a1, .ref a2, .int (iI o), .int (iI st), .int (iI pe), .int (iI dr), .int (iI sta), .int (iI hd), .int (iI on), .int (iI lf), .int (iI rt)])), (t1, .inl (k.2.1, 484, .inr (.inl tps))), (a0, .inl (k.1, 121, .inl (iF hs))), (a1, .inl (k.1, 121, .inl (iF ss))), (a2, .inl (k.1, 121, .inl (iF sd))), (t0, .inl (k.2.1, 4, .inr (.inl z5)))] H := hP
  have hD : va_D A [(w, .inr (2, [.int (iI 120), .int (iI 4), .ref t0, .ref t1, .ref a0, .ref a1, .ref a2, .int (iI o), .int (iI st), .int (iI pe), .int (iI dr), .int (iI sta), .int (iI hd), .int (iI on), .int (iI lf), .int (iI rt)])), (t1, .inl (k.2.1, 484, .inr (.inl tps))), (a0, .inl (k.1, 121, .inl (iF hs))), (a1, .inl (k.1, 121, .inl (iF ss))), (a2, .inl (k.1, 121, .inl (iF sd))), (t0, .inl (k.2.1, 4, .inr (.inl z5)))] := hD
  have hP := hP.sub (ws' := [(w, .inr (2, [.int (iI 120), .int (iI 4), .ref t0, .ref t1, .ref a0, .ref a1, .ref a2, .int (iI o), .int (iI st), .int (iI pe), .int (iI dr), .int (iI sta), .int (iI hd), .int (iI on), .int (iI lf), .int (iI rt)])), (t0, .inl (k.2.1, 4, .inr (.inl z5))), (t1, .inl (k.2.1, 484, .inr (.inl tps))), (a0, .inl (k.1, 121, .inl (iF hs))), (a1, .inl (k.1, 121, .inl (iF ss))), (a2, .inl (k.1, 121, .inl (iF sd)))]) [0, 5, 1, 2, 3, 4] rfl
  have hD := hD.sub (ws' := [(w, .inr (2, [.int (iI 120), .int (iI 4), .ref t0, .ref t1, .ref a0, .ref a1, .ref a2, .int (iI o), .int (iI st), .int (iI pe), .int (iI dr), .int (iI sta), .int (iI hd), .int (iI on), .int (iI lf), .int (iI rt)])), (t0, .inl (k.2.1, 4, .inr (.inl z5))), (t1, .inl (k.2.1, 484, .inr (.inl tps))), (a0, .inl (k.1, 121, .inl (iF hs))), (a1, .inl (k.1, 121, .inl (iF ss))), (a2, .inl (k.1, 121, .inl (iF sd)))]) [0, 5, 1, 2, 3, 4] (by decide) rfl
  refine lv_aload_n hx hb dX2_begin_8 rfl (lv_at hl 0 rfl) ?_
  refine lv_iconst (v := iI 0) hx hb dX2_begin_9 rfl ?_
  refine va_put (D := g) (ci := 2) (v := .int (iI 0)) (ty := .int) (C := RX2) (T := TX2) (N := 16) hx hb hts inX2 tyX2 tyX2_ok nmX2 hown hK.1 hP hD hS 0 rfl rfl 7 (by decide) f50 (fun _ h9 => h9) rfl (by decide +kernel) rfl rfl (Nat.le_of_ble_eq_true rfl) dX2_begin_10 (fun H locs hP hD hS => ?_)
  have hP : va_P g vwCl [(w, .inr (2, [.int (iI 120), .int (iI 4), .ref t0, .ref t1, .ref a0, .ref a1, .ref a2, .int (iI 0), .int (iI st), .int (iI pe), .int (iI dr), .int (iI sta), .int (iI hd), .int (iI on), .int (iI lf), .int (iI rt)])), (t0, .inl (k.2.1, 4, .inr (.inl z5))), (t1, .inl (k.2.1, 484, .inr (.inl tps))), (a0, .inl (k.1, 121, .inl (iF hs))), (a1, .inl (k.1, 121, .inl (iF ss))), (a2, .inl (k.1, 121, .inl (iF sd)))] H := hP
  have hD : va_D A [(w, .inr (2, [.int (iI 120), .int (iI 4), .ref t0, .ref t1, .ref a0, .ref a1, .ref a2, .int (iI 0), .int (iI st), .int (iI pe), .int (iI dr), .int (iI sta), .int (iI hd), .int (iI on), .int (iI lf), .int (iI rt)])), (t0, .inl (k.2.1, 4, .inr (.inl z5))), (t1, .inl (k.2.1, 484, .inr (.inl tps))), (a0, .inl (k.1, 121, .inl (iF hs))), (a1, .inl (k.1, 121, .inl (iF ss))), (a2, .inl (k.1, 121, .inl (iF sd)))] := hD
  refine lv_aload_n hx hb dX2_begin_13 rfl (lv_at hl 0 rfl) ?_
  refine lv_iconst (v := iI 0) hx hb dX2_begin_14 rfl ?_
  refine va_put (D := g) (ci := 2) (v := .int (iI 0)) (ty := .int) (C := RX2) (T := TX2) (N := 16) hx hb hts inX2 tyX2 tyX2_ok nmX2 hown hK.1 hP hD hS 0 rfl rfl 8 (by decide) f47 (fun _ h9 => h9) rfl (by decide +kernel) rfl rfl (Nat.le_of_ble_eq_true rfl) dX2_begin_15 (fun H locs hP hD hS => ?_)
  have hP : va_P g vwCl [(w, .inr (2, [.int (iI 120), .int (iI 4), .ref t0, .ref t1, .ref a0, .ref a1, .ref a2, .int (iI 0), .int (iI 0), .int (iI pe), .int (iI dr), .int (iI sta), .int (iI hd), .int (iI on), .int (iI lf), .int (iI rt)])), (t0, .inl (k.2.1, 4, .inr (.inl z5))), (t1, .inl (k.2.1, 484, .inr (.inl tps))), (a0, .inl (k.1, 121, .inl (iF hs))), (a1, .inl (k.1, 121, .inl (iF ss))), (a2, .inl (k.1, 121, .inl (iF sd)))] H := hP
  have hD : va_D A [(w, .inr (2, [.int (iI 120), .int (iI 4), .ref t0, .ref t1, .ref a0, .ref a1, .ref a2, .int (iI 0), .int (iI 0), .int (iI pe), .int (iI dr), .int (iI sta), .int (iI hd), .int (iI on), .int (iI lf), .int (iI rt)])), (t0, .inl (k.2.1, 4, .inr (.inl z5))), (t1, .inl (k.2.1, 484, .inr (.inl tps))), (a0, .inl (k.1, 121, .inl (iF hs))), (a1, .inl (k.1, 121, .inl (iF ss))), (a2, .inl (k.1, 121, .inl (iF sd)))] := hD
  refine lv_aload_n hx hb dX2_begin_18 rfl (lv_at hl 0 rfl) ?_
  refine lv_iconst (v := iI 0) hx hb dX2_begin_19 rfl ?_
  refine va_put (D := g) (ci := 2) (v := .int (iI 0)) (ty := .int) (C := RX2) (T := TX2) (N := 16) hx hb hts inX2 tyX2 tyX2_ok nmX2 hown hK.1 hP hD hS 0 rfl rfl 9 (by decide) f85 (fun _ h9 => h9) rfl (by decide +kernel) rfl rfl (Nat.le_of_ble_eq_true rfl) dX2_begin_20 (fun H locs hP hD hS => ?_)
  have hP : va_P g vwCl [(w, .inr (2, [.int (iI 120), .int (iI 4), .ref t0, .ref t1, .ref a0, .ref a1, .ref a2, .int (iI 0), .int (iI 0), .int (iI 0), .int (iI dr), .int (iI sta), .int (iI hd), .int (iI on), .int (iI lf), .int (iI rt)])), (t0, .inl (k.2.1, 4, .inr (.inl z5))), (t1, .inl (k.2.1, 484, .inr (.inl tps))), (a0, .inl (k.1, 121, .inl (iF hs))), (a1, .inl (k.1, 121, .inl (iF ss))), (a2, .inl (k.1, 121, .inl (iF sd)))] H := hP
  have hD : va_D A [(w, .inr (2, [.int (iI 120), .int (iI 4), .ref t0, .ref t1, .ref a0, .ref a1, .ref a2, .int (iI 0), .int (iI 0), .int (iI 0), .int (iI dr), .int (iI sta), .int (iI hd), .int (iI on), .int (iI lf), .int (iI rt)])), (t0, .inl (k.2.1, 4, .inr (.inl z5))), (t1, .inl (k.2.1, 484, .inr (.inl tps))), (a0, .inl (k.1, 121, .inl (iF hs))), (a1, .inl (k.1, 121, .inl (iF ss))), (a2, .inl (k.1, 121, .inl (iF sd)))] := hD
  refine lv_aload_n hx hb dX2_begin_23 rfl (lv_at hl 0 rfl) ?_
  refine lv_iconst (v := iI 0) hx hb dX2_begin_24 rfl ?_
  refine va_put (D := g) (ci := 2) (v := .int (iI 0)) (ty := .int) (C := RX2) (T := TX2) (N := 16) hx hb hts inX2 tyX2 tyX2_ok nmX2 hown hK.1 hP hD hS 0 rfl rfl 10 (by decide) f88 (fun _ h9 => h9) rfl (by decide +kernel) rfl rfl (Nat.le_of_ble_eq_true rfl) dX2_begin_25 (fun H locs hP hD hS => ?_)
  have hP : va_P g vwCl [(w, .inr (2, [.int (iI 120), .int (iI 4), .ref t0, .ref t1, .ref a0, .ref a1, .ref a2, .int (iI 0), .int (iI 0), .int (iI 0), .int (iI 0), .int (iI sta), .int (iI hd), .int (iI on), .int (iI lf), .int (iI rt)])), (t0, .inl (k.2.1, 4, .inr (.inl z5))), (t1, .inl (k.2.1, 484, .inr (.inl tps))), (a0, .inl (k.1, 121, .inl (iF hs))), (a1, .inl (k.1, 121, .inl (iF ss))), (a2, .inl (k.1, 121, .inl (iF sd)))] H := hP
  have hD : va_D A [(w, .inr (2, [.int (iI 120), .int (iI 4), .ref t0, .ref t1, .ref a0, .ref a1, .ref a2, .int (iI 0), .int (iI 0), .int (iI 0), .int (iI 0), .int (iI sta), .int (iI hd), .int (iI on), .int (iI lf), .int (iI rt)])), (t0, .inl (k.2.1, 4, .inr (.inl z5))), (t1, .inl (k.2.1, 484, .inr (.inl tps))), (a0, .inl (k.1, 121, .inl (iF hs))), (a1, .inl (k.1, 121, .inl (iF ss))), (a2, .inl (k.1, 121, .inl (iF sd)))] := hD
  refine lv_aload_n hx hb dX2_begin_28 rfl (lv_at hl 0 rfl) ?_
  refine lv_iconst (v := iI 0) hx hb dX2_begin_29 rfl ?_
  refine va_put (D := g) (ci := 2) (v := .int (iI 0)) (ty := .int) (C := RX2) (T := TX2) (N := 16) hx hb hts inX2 tyX2 tyX2_ok nmX2 hown hK.1 hP hD hS 0 rfl rfl 11 (by decide) f53 (fun _ h9 => h9) rfl (by decide +kernel) rfl rfl (Nat.le_of_ble_eq_true rfl) dX2_begin_30 (fun H locs hP hD hS => ?_)
  have hP : va_P g vwCl [(w, .inr (2, [.int (iI 120), .int (iI 4), .ref t0, .ref t1, .ref a0, .ref a1, .ref a2, .int (iI 0), .int (iI 0), .int (iI 0), .int (iI 0), .int (iI 0), .int (iI hd), .int (iI on), .int (iI lf), .int (iI rt)])), (t0, .inl (k.2.1, 4, .inr (.inl z5))), (t1, .inl (k.2.1, 484, .inr (.inl tps))), (a0, .inl (k.1, 121, .inl (iF hs))), (a1, .inl (k.1, 121, .inl (iF ss))), (a2, .inl (k.1, 121, .inl (iF sd)))] H := hP
  have hD : va_D A [(w, .inr (2, [.int (iI 120), .int (iI 4), .ref t0, .ref t1, .ref a0, .ref a1, .ref a2, .int (iI 0), .int (iI 0), .int (iI 0), .int (iI 0), .int (iI 0), .int (iI hd), .int (iI on), .int (iI lf), .int (iI rt)])), (t0, .inl (k.2.1, 4, .inr (.inl z5))), (t1, .inl (k.2.1, 484, .inr (.inl tps))), (a0, .inl (k.1, 121, .inl (iF hs))), (a1, .inl (k.1, 121, .inl (iF ss))), (a2, .inl (k.1, 121, .inl (iF sd)))] := hD
  refine lv_aload_n hx hb dX2_begin_33 rfl (lv_at hl 0 rfl) ?_
  refine lv_iconst (v := iI 0) hx hb dX2_begin_34 rfl ?_
  refine va_put (D := g) (ci := 2) (v := .int (iI 0)) (ty := .int) (C := RX2) (T := TX2) (N := 16) hx hb hts inX2 tyX2 tyX2_ok nmX2 hown hK.1 hP hD hS 0 rfl rfl 12 (by decide) f56 (fun _ h9 => h9) rfl (by decide +kernel) rfl rfl (Nat.le_of_ble_eq_true rfl) dX2_begin_35 (fun H locs hP hD hS => ?_)
  have hP : va_P g vwCl [(w, .inr (2, [.int (iI 120), .int (iI 4), .ref t0, .ref t1, .ref a0, .ref a1, .ref a2, .int (iI 0), .int (iI 0), .int (iI 0), .int (iI 0), .int (iI 0), .int (iI 0), .int (iI on), .int (iI lf), .int (iI rt)])), (t0, .inl (k.2.1, 4, .inr (.inl z5))), (t1, .inl (k.2.1, 484, .inr (.inl tps))), (a0, .inl (k.1, 121, .inl (iF hs))), (a1, .inl (k.1, 121, .inl (iF ss))), (a2, .inl (k.1, 121, .inl (iF sd)))] H := hP
  have hD : va_D A [(w, .inr (2, [.int (iI 120), .int (iI 4), .ref t0, .ref t1, .ref a0, .ref a1, .ref a2, .int (iI 0), .int (iI 0), .int (iI 0), .int (iI 0), .int (iI 0), .int (iI 0), .int (iI on), .int (iI lf), .int (iI rt)])), (t0, .inl (k.2.1, 4, .inr (.inl z5))), (t1, .inl (k.2.1, 484, .inr (.inl tps))), (a0, .inl (k.1, 121, .inl (iF hs))), (a1, .inl (k.1, 121, .inl (iF ss))), (a2, .inl (k.1, 121, .inl (iF sd)))] := hD
  refine lv_aload_n hx hb dX2_begin_38 rfl (lv_at hl 0 rfl) ?_
  refine lv_iconst (v := iI 0) hx hb dX2_begin_39 rfl ?_
  refine va_put (D := g) (ci := 2) (v := .int (iI 0)) (ty := .int) (C := RX2) (T := TX2) (N := 16) hx hb hts inX2 tyX2 tyX2_ok nmX2 hown hK.1 hP hD hS 0 rfl rfl 13 (by decide) f91 (fun _ h9 => h9) rfl (by decide +kernel) rfl rfl (Nat.le_of_ble_eq_true rfl) dX2_begin_40 (fun H locs hP hD hS => ?_)
  have hP : va_P g vwCl [(w, .inr (2, [.int (iI 120), .int (iI 4), .ref t0, .ref t1, .ref a0, .ref a1, .ref a2, .int (iI 0), .int (iI 0), .int (iI 0), .int (iI 0), .int (iI 0), .int (iI 0), .int (iI 0), .int (iI lf), .int (iI rt)])), (t0, .inl (k.2.1, 4, .inr (.inl z5))), (t1, .inl (k.2.1, 484, .inr (.inl tps))), (a0, .inl (k.1, 121, .inl (iF hs))), (a1, .inl (k.1, 121, .inl (iF ss))), (a2, .inl (k.1, 121, .inl (iF sd)))] H := hP
  have hD : va_D A [(w, .inr (2, [.int (iI 120), .int (iI 4), .ref t0, .ref t1, .ref a0, .ref a1, .ref a2, .int (iI 0), .int (iI 0), .int (iI 0), .int (iI 0), .int (iI 0), .int (iI 0), .int (iI 0), .int (iI lf), .int (iI rt)])), (t0, .inl (k.2.1, 4, .inr (.inl z5))), (t1, .inl (k.2.1, 484, .inr (.inl tps))), (a0, .inl (k.1, 121, .inl (iF hs))), (a1, .inl (k.1, 121, .inl (iF ss))), (a2, .inl (k.1, 121, .inl (iF sd)))] := hD
  refine lv_aload_n hx hb dX2_begin_43 rfl (lv_at hl 0 rfl) ?_
  refine lv_iconst (v := iI 0) hx hb dX2_begin_44 rfl ?_
  refine va_put (D := g) (ci := 2) (v := .int (iI 0)) (ty := .int) (C := RX2) (T := TX2) (N := 16) hx hb hts inX2 tyX2 tyX2_ok nmX2 hown hK.1 hP hD hS 0 rfl rfl 14 (by decide) f94 (fun _ h9 => h9) rfl (by decide +kernel) rfl rfl (Nat.le_of_ble_eq_true rfl) dX2_begin_45 (fun H locs hP hD hS => ?_)
  have hP : va_P g vwCl [(w, .inr (2, [.int (iI 120), .int (iI 4), .ref t0, .ref t1, .ref a0, .ref a1, .ref a2, .int (iI 0), .int (iI 0), .int (iI 0), .int (iI 0), .int (iI 0), .int (iI 0), .int (iI 0), .int (iI 0), .int (iI rt)])), (t0, .inl (k.2.1, 4, .inr (.inl z5))), (t1, .inl (k.2.1, 484, .inr (.inl tps))), (a0, .inl (k.1, 121, .inl (iF hs))), (a1, .inl (k.1, 121, .inl (iF ss))), (a2, .inl (k.1, 121, .inl (iF sd)))] H := hP
  have hD : va_D A [(w, .inr (2, [.int (iI 120), .int (iI 4), .ref t0, .ref t1, .ref a0, .ref a1, .ref a2, .int (iI 0), .int (iI 0), .int (iI 0), .int (iI 0), .int (iI 0), .int (iI 0), .int (iI 0), .int (iI 0), .int (iI rt)])), (t0, .inl (k.2.1, 4, .inr (.inl z5))), (t1, .inl (k.2.1, 484, .inr (.inl tps))), (a0, .inl (k.1, 121, .inl (iF hs))), (a1, .inl (k.1, 121, .inl (iF ss))), (a2, .inl (k.1, 121, .inl (iF sd)))] := hD
  refine lv_aload_n hx hb dX2_begin_48 rfl (lv_at hl 0 rfl) ?_
  refine lv_iconst (v := iI 0) hx hb dX2_begin_49 rfl ?_
  refine va_put (D := g) (ci := 2) (v := .int (iI 0)) (ty := .int) (C := RX2) (T := TX2) (N := 16) hx hb hts inX2 tyX2 tyX2_ok nmX2 hown hK.1 hP hD hS 0 rfl rfl 15 (by decide) f97 (fun _ h9 => h9) rfl (by decide +kernel) rfl rfl (Nat.le_of_ble_eq_true rfl) dX2_begin_50 (fun H locs hP hD hS => ?_)
  have hP : va_P g vwCl [(w, .inr (2, [.int (iI 120), .int (iI 4), .ref t0, .ref t1, .ref a0, .ref a1, .ref a2, .int (iI 0), .int (iI 0), .int (iI 0), .int (iI 0), .int (iI 0), .int (iI 0), .int (iI 0), .int (iI 0), .int (iI 0)])), (t0, .inl (k.2.1, 4, .inr (.inl z5))), (t1, .inl (k.2.1, 484, .inr (.inl tps))), (a0, .inl (k.1, 121, .inl (iF hs))), (a1, .inl (k.1, 121, .inl (iF ss))), (a2, .inl (k.1, 121, .inl (iF sd)))] H := hP
  have hD : va_D A [(w, .inr (2, [.int (iI 120), .int (iI 4), .ref t0, .ref t1, .ref a0, .ref a1, .ref a2, .int (iI 0), .int (iI 0), .int (iI 0), .int (iI 0), .int (iI 0), .int (iI 0), .int (iI 0), .int (iI 0), .int (iI 0)])), (t0, .inl (k.2.1, 4, .inr (.inl z5))), (t1, .inl (k.2.1, 484, .inr (.inl tps))), (a0, .inl (k.1, 121, .inl (iF hs))), (a1, .inl (k.1, 121, .inl (iF ss))), (a2, .inl (k.1, 121, .inl (iF sd)))] := hD
  refine lv_aload_n hx hb dX2_begin_53 rfl (lv_at hl 0 rfl) ?_
  refine lv_iconst (v := iI 0) hx hb dX2_begin_54 rfl ?_
  refine rc_V (own := RX2) (q := (RX2, TX2, 16)) (wc := [(w, .inr (2, [.int (iI 120), .int (iI 4), .ref t0, .ref t1, .ref a0, .ref a1, .ref a2, .int (iI 0), .int (iI 0), .int (iI 0), .int (iI 0), .int (iI 0), .int (iI 0), .int (iI 0), .int (iI 0), .int (iI 0)])), (t0, .inl (k.2.1, 4, .inr (.inl z5))), (t1, .inl (k.2.1, 484, .inr (.inl tps))), (a0, .inl (k.1, 121, .inl (iF hs))), (a1, .inl (k.1, 121, .inl (iF ss))), (a2, .inl (k.1, 121, .inl (iF sd)))]) (wr := []) (As := [.int (iI 0)]) (rest := []) ⟨hx, hb, hml, hown, hts⟩ (c_note120 l g k w t0 t1 a0 a1 a2 0 0 0 0 0 0 0 0 0 z5 tps hs ss sd H.size 0 (by omega)) (cwV 1 hts gX2_begin_X2_note rfl rfl rfl (by decide +kernel) ⟨Nat.le_of_ble_eq_true rfl, Nat.le_of_ble_eq_true rfl⟩) hK hP hD hS hA [0, 1, 2, 3, 4, 5] [] rfl (by decide) rfl (by decide) (by decide) (ci := 2) (q0 := 0) rfl rfl rfl rfl hl.1 (Nat.le_of_ble_eq_true rfl) ⟨Nat.le_of_ble_eq_true rfl, Nat.le_of_ble_eq_true rfl⟩ dX2_begin_55 (fun u55 H locs hu55 hP hD hS => ?_)
  have hP : va_P g vwCl [(w, .inr (2, [.int (iI 120), .int (iI 4), .ref t0, .ref t1, .ref a0, .ref a1, .ref a2, .int (iI 0), .int (iI 0), .int (iI 0), .int (iI 0), .int (iI 0), .int (iI 0), .int (iI 0), .int (iI 0), .int (iI 0)])), (t0, .inl (k.2.1, 4, .inr (.inl z5))), (t1, .inl (k.2.1, 484, .inr (.inl (va_cpy z5 tps 0 ((0 : Int) * 4).toNat 4)))), (a0, .inl (k.1, 121, .inl (iF (up hs 0 0)))), (a1, .inl (k.1, 121, .inl (iF (up ss 0 0)))), (a2, .inl (k.1, 121, .inl (iF (up sd 0 0))))] H := hP
  have hD : va_D A [(w, .inr (2, [.int (iI 120), .int (iI 4), .ref t0, .ref t1, .ref a0, .ref a1, .ref a2, .int (iI 0), .int (iI 0), .int (iI 0), .int (iI 0), .int (iI 0), .int (iI 0), .int (iI 0), .int (iI 0), .int (iI 0)])), (t0, .inl (k.2.1, 4, .inr (.inl z5))), (t1, .inl (k.2.1, 484, .inr (.inl (va_cpy z5 tps 0 ((0 : Int) * 4).toNat 4)))), (a0, .inl (k.1, 121, .inl (iF (up hs 0 0)))), (a1, .inl (k.1, 121, .inl (iF (up ss 0 0)))), (a2, .inl (k.1, 121, .inl (iF (up sd 0 0))))] := hD
  obtain ⟨hP, hD⟩ := P_reJ (i := 1) (f' := bW 120 (fun _ => 0)) hP hD rfl (fun j hj => by rw [hu5 j hj, bW_0])
  exact hret (va_cpy z5 tps 0 ((0 : Int) * 4).toNat 4) _ _ _ _ dX2_begin_58 ⟨z5, hu5, rfl⟩ hP hD hS
end
section
set_option maxHeartbeats 4000000 in
set_option maxRecDepth 100000 in
theorem c_sameTape300 (l : Launch) (g : va_G) (k : kT) (w t0 t1 a0 a1 a2 : Nat) (o st pe dr sta hd on lf rt : Int) (tp tps : Nat → Int64) (th : Int) (hth : 0 ≤ th ∧ th ≤ 300) : cP l yX2_sameTape wsX2_sameTape rm_0 g k [wO300 w t0 t1 a0 a1 a2 o st pe dr sta hd on lf rt, (t0, .inl (k.2.1, 10, .inr (.inl tp))), (t1, .inl (k.2.1, 3010, .inr (.inl tps)))] [.ref w, .int (iI th)] (fun r => ∃ v : Int, r = iI v ∧ ((v = 1 ∧ ∀ w : Nat, w < 10 → tps ((th * 10).toNat + w) = tp w) ∨ (v = 0 ∧ ¬ ∀ w : Nat, w < 10 → tps ((th * 10).toNat + w) = tp w))) := by
  refine st_Z (by decide) rfl (Nat.le_of_ble_eq_true rfl) ?_
  intro p e s m below meth c Q hx hb hml hown hts hP hK hret ls hl
  have hown : s.vm.findClass RX2 = some m.cls := hown
  have f24 := hts (.fieldLink RX2 24 "MachineTree$Walk" "words" "I") (by decide +kernel)
  have inX2 := (by decide +kernel : ∀ w ∈ wsX20, w ∈ wsX2_sameTape)
  have f31 := hts (.fieldLink RX2 31 "MachineTree$Walk" "tapes" "[J") (by decide +kernel)
  have f27 := hts (.fieldLink RX2 27 "MachineTree$Walk" "tape" "[J") (by decide +kernel)
  have hl : lv_has ls 4 [(0, .ref w), (1, .int (iI th))] := hl
  refine lv_iload_n hx hb dX2_sameTape_0 rfl (lv_at hl 1 rfl) ?_
  refine lv_aload_n hx hb dX2_sameTape_1 rfl (lv_at hl 0 rfl) ?_
  refine va_get (D := g) (ci := 2) (v := .int (iI 10)) (C := RX2) (T := TX2) (N := 16) hx hb hts inX2 hown hK.1 hP 0 rfl rfl 1 (by decide) f24 (fun _ h9 => h9) rfl dX2_sameTape_2 ?_
  refine ri_imul (a := th) (b := 10) hx hb dX2_sameTape_5 ?_
  refine lv_istore_n (lv' := [(2, .int (iI (th * 10))), (0, .ref w), (1, .int (iI th))]) hx hb dX2_sameTape_6 rfl hl (by decide) rfl (fun ls hl => ?_)
  refine lv_iload_n hx hb dX2_sameTape_7 rfl (lv_at hl 0 rfl) ?_
  refine ri_if_lt (a := (th * 10)) (tgt := 25) hx hb (by omega) dX2_sameTape_8 (by decide) (fun c8 => ?_) (fun c8 => ?_)
  · exact absurd c8 (by omega)
  · skip
    refine lv_iload_n hx hb dX2_sameTape_11 rfl (lv_at hl 0 rfl) ?_
    refine lv_aload_n hx hb dX2_sameTape_12 rfl (lv_at hl 1 rfl) ?_
    refine va_get (D := g) (ci := 2) (v := .int (iI 10)) (C := RX2) (T := TX2) (N := 16) hx hb hts inX2 hown hK.1 hP 0 rfl rfl 1 (by decide) f24 (fun _ h9 => h9) rfl dX2_sameTape_13 ?_
    refine ri_iadd (a := (th * 10)) (b := 10) hx hb dX2_sameTape_16 ?_
    refine lv_aload_n hx hb dX2_sameTape_17 rfl (lv_at hl 1 rfl) ?_
    refine va_get (D := g) (ci := 2) (v := .ref t1) (C := RX2) (T := TX2) (N := 16) hx hb hts inX2 hown hK.1 hP 0 rfl rfl 3 (by decide) f31 (fun _ h9 => h9) rfl dX2_sameTape_18 ?_
    refine ri_alen hx hb hK.1 hP 2 1 rfl rfl dX2_sameTape_21 ?_
    refine ri_ex (b := 3010) rfl ?_
    refine ri_icmp_le (a := ((th * 10) + 10)) (b := 3010) (tgt := 27) hx hb (by omega) (by omega) dX2_sameTape_22 (by decide) (fun c22 => ?_) (fun c22 => ?_)
    · skip
      refine lv_iconst (v := iI 0) hx hb dX2_sameTape_27 rfl ?_
      refine lv_istore_n (lv' := [(3, .int (iI 0)), (2, .int (iI (th * 10))), (0, .ref w), (1, .int (iI th))]) hx hb dX2_sameTape_28 rfl hl (by decide) rfl (fun ls hl => ?_)
      have J29 : ∀ (n9 : Nat) (i : Int), 10 - i < (n9 : Int) → (0 ≤ i ∧ i ≤ 10) → (∀ w : Nat, (w : Int) < i → tps ((th * 10).toNat + w) = tp w) → ∀ (ls : Array Slot), lv_has ls 4 [(0, .ref w), (1, .int (iI th)), (2, .int (iI (th * 10))), (3, .int (iI i))] → W p l e rm_0 s m ([.ref w, .int (iI th)] : List Value).toArray below meth c s.heap [] 0 0 Q (F0 m 29 ls []) := by
        intro n9
        induction n9 with
        | zero => intro i hm9 hi hal; exact absurd hm9 (by omega)
        | succ n9 ih =>
          intro i hm9 hi hal ls hl
          refine lv_iload_n hx hb dX2_sameTape_29 rfl (lv_at hl 3 rfl) ?_
          refine lv_aload_n hx hb dX2_sameTape_30 rfl (lv_at hl 0 rfl) ?_
          refine va_get (D := g) (ci := 2) (v := .int (iI 10)) (C := RX2) (T := TX2) (N := 16) hx hb hts inX2 hown hK.1 hP 0 rfl rfl 1 (by decide) f24 (fun _ h9 => h9) rfl dX2_sameTape_31 ?_
          refine ri_icmp_ge (a := i) (b := 10) (tgt := 63) hx hb (by omega) (by omega) dX2_sameTape_34 (by decide) (fun c34 => ?_) (fun c34 => ?_)
          · skip
            refine lv_iconst (v := iI 1) hx hb dX2_sameTape_63 rfl ?_
            exact hret 1 _ _ dX2_sameTape_64 (by first | exact Or.inl rfl | exact Or.inr rfl | omega) ⟨1, rfl, Or.inl ⟨rfl, fun w hw => hal w (by omega)⟩⟩
          · skip
            refine lv_aload_n hx hb dX2_sameTape_37 rfl (lv_at hl 0 rfl) ?_
            refine va_get (D := g) (ci := 2) (v := .ref t1) (C := RX2) (T := TX2) (N := 16) hx hb hts inX2 hown hK.1 hP 0 rfl rfl 3 (by decide) f31 (fun _ h9 => h9) rfl dX2_sameTape_38 ?_
            refine lv_iload_n hx hb dX2_sameTape_41 rfl (lv_at hl 2 rfl) ?_
            refine lv_iload_n hx hb dX2_sameTape_42 rfl (lv_at hl 3 rfl) ?_
            refine ri_iadd (a := (th * 10)) (b := i) hx hb dX2_sameTape_43 ?_
            refine ri_lald (f := tps) (i := ((th * 10) + i)) hx hb hK.1 hP 2 1 rfl rfl (by omega) (by omega) dX2_sameTape_44 ?_
            refine lv_aload_n hx hb dX2_sameTape_45 rfl (lv_at hl 0 rfl) ?_
            refine va_get (D := g) (ci := 2) (v := .ref t0) (C := RX2) (T := TX2) (N := 16) hx hb hts inX2 hown hK.1 hP 0 rfl rfl 2 (by decide) f27 (fun _ h9 => h9) rfl dX2_sameTape_46 ?_
            refine lv_iload_n hx hb dX2_sameTape_49 rfl (lv_at hl 3 rfl) ?_
            refine ri_lald (f := tp) (i := i) hx hb hK.1 hP 1 1 rfl rfl (by omega) (by omega) dX2_sameTape_50 ?_
            refine W.lcmp hx hb dX2_sameTape_51 ?_
            refine lv_if_eq (tgt := 57) hx hb dX2_sameTape_52 (by decide) (fun c52 => ?_) (fun c52 => ?_)
            · skip
              have c52 := (lg_cmp_eq _ _).mp c52
              refine ri_iinc (x := i) (lv' := [(3, .int (iI (i + 1))), (0, .ref w), (1, .int (iI th)), (2, .int (iI (th * 10)))]) hx hb dX2_sameTape_57 hl (k := 3) rfl (by decide) rfl (fun ls hl => ?_)
              refine lv_goto (tgt := 29) hx hb dX2_sameTape_60 (by decide) ?_
              exact ih (i + 1) (by omega) (by omega) (fun w hw => by by_cases q : (w : Int) < i; exact hal w q; rw [show w = i.toNat by omega, ← c52]; congr 1; omega) _ (lv_sub hl [1, 2, 3, 0] rfl)
            · skip
              have c52 : ¬ _ = _ := fun q => c52 ((lg_cmp_eq _ _).mpr q)
              refine lv_iconst (v := iI 0) hx hb dX2_sameTape_55 rfl ?_
              exact hret 0 _ _ dX2_sameTape_56 (by first | exact Or.inl rfl | exact Or.inr rfl | omega) ⟨0, rfl, Or.inr ⟨rfl, fun h => c52 (by rw [← h i.toNat (by omega)]; congr 1; omega)⟩⟩
      exact J29 ((10 - 0 : Int).toNat.succ) 0 (by omega) (by omega) (fun w hw => absurd hw (by omega)) _ (lv_sub hl [2, 3, 1, 0] rfl)
    · exact absurd (by omega) c22

set_option maxHeartbeats 4000000 in
set_option maxRecDepth 100000 in
theorem c_latestSame300 (l : Launch) (g : va_G) (k : kT) (w t0 t1 a0 a1 a2 : Nat) (o pe dr on lf rt : Int) (tps : Nat → Int64) (hs ss sd : Int → Int) (cs : Int → Int) (hc : okC cs) (kk : Nat) (hk1 : 1 ≤ kk ∧ kk ≤ 300) (hal : alive cs kk) (hRp : Rp cs 300 10 kk tps hs ss sd) : cP l yX2_latestSame wsX2_latestSame rm_1 g k (wW300 k w t0 t1 a0 a1 a2 o (kk : Int) pe dr (sS cs kk) (sH cs kk) on lf rt (bW 300 (sT cs kk)) tps hs ss sd) [.ref w] (fun r => r = iI (cyA cs kk)) := by
  refine st_P (by decide) rfl (Nat.le_of_ble_eq_true rfl) ?_
  intro p e s m below meth c Q hx hb hml hown hts hP hK hret ls hl
  have hown : s.vm.findClass RX2 = some m.cls := hown
  have f47 := hts (.fieldLink RX2 47 "MachineTree$Walk" "steps" "I") (by decide +kernel)
  have inX2 := (by decide +kernel : ∀ w ∈ wsX20, w ∈ wsX2_latestSame)
  have f18 := hts (.fieldLink RX2 18 "MachineTree$Walk" "reach" "I") (by decide +kernel)
  have f34 := hts (.fieldLink RX2 34 "MachineTree$Walk" "heads" "[I") (by decide +kernel)
  have f56 := hts (.fieldLink RX2 56 "MachineTree$Walk" "head" "I") (by decide +kernel)
  have f38 := hts (.fieldLink RX2 38 "MachineTree$Walk" "states" "[I") (by decide +kernel)
  have f53 := hts (.fieldLink RX2 53 "MachineTree$Walk" "state" "I") (by decide +kernel)
  have hl : lv_has ls 2 [(0, .ref w)] := hl
  refine lv_aload_n hx hb dX2_latestSame_0 rfl (lv_at hl 0 rfl) ?_
  refine va_get (D := g) (ci := 2) (v := .int (iI (kk : Int))) (C := RX2) (T := TX2) (N := 16) hx hb hts inX2 hown hK.1 hP 0 rfl rfl 8 (by decide) f47 (fun _ h9 => h9) rfl dX2_latestSame_1 ?_
  refine lv_aload_n hx hb dX2_latestSame_4 rfl (lv_at hl 0 rfl) ?_
  refine va_get (D := g) (ci := 2) (v := .int (iI 300)) (C := RX2) (T := TX2) (N := 16) hx hb hts inX2 hown hK.1 hP 0 rfl rfl 0 (by decide) f18 (fun _ h9 => h9) rfl dX2_latestSame_5 ?_
  refine va_mmin hx hb (by rw [hml]; exact hl.1.symm) hown (hts (.methodLink RX2 9 Lib.Math.min.name) (by decide +kernel)) (hts (.static Lib.Math.min.name) (by decide +kernel)) (hts (.initialized "java/lang/Math") (by decide +kernel)) (hts (.code Lib.Math.min.name Lib.Math.min.code 2 (some .int)) (by decide +kernel)) (Nat.le_of_ble_eq_true rfl) (Nat.le_of_ble_eq_true rfl) (Nat.le_of_ble_eq_true rfl) (Nat.le_of_ble_eq_true rfl) dX2_latestSame_8 ?_
  refine ri_top (iI_min (a := (kk : Int)) (b := 300) (by omega) (by omega)) ?_
  refine ri_ex (b := (kk : Int)) (by omega) ?_
  refine lv_iconst (v := iI 2) hx hb dX2_latestSame_11 rfl ?_
  refine ri_isub (a := (kk : Int)) (b := 2) hx hb dX2_latestSame_12 ?_
  refine lv_istore_n (lv' := [(1, .int (iI ((kk : Int) - 2))), (0, .ref w)]) hx hb dX2_latestSame_13 rfl hl (by decide) rfl (fun ls hl => ?_)
  have J14 : ∀ (n9 : Nat) (th : Int), th + 3 < (n9 : Int) → (-2 ≤ th ∧ th ≤ (kk : Int) - 2 ∧ ((kk : Int) - th) % 2 = 0) → (cyA cs kk = lat (cyc cs kk) (th + 1).toNat) → ∀ (ls : Array Slot), lv_has ls 2 [(0, .ref w), (1, .int (iI th))] → W p l e rm_1 s m ([.ref w] : List Value).toArray below meth c s.heap [] 0 0 Q (F0 m 14 ls []) := by
    intro n9
    induction n9 with
    | zero => intro th hm9 hi hl9; exact absurd hm9 (by omega)
    | succ n9 ih =>
      intro th hm9 hi hl9 ls hl
      refine lv_iload_n hx hb dX2_latestSame_14 rfl (lv_at hl 1 rfl) ?_
      refine ri_if_lt (a := th) (tgt := 60) hx hb (by omega) dX2_latestSame_15 (by decide) (fun c15 => ?_) (fun c15 => ?_)
      · skip
        refine lv_iconst (v := iI (-1)) hx hb dX2_latestSame_60 rfl ?_
        exact hret (iI (-1)) _ _ dX2_latestSame_61 (by rw [hl9, show (th + 1).toNat = 0 by omega]; rfl)
      · skip
        have h4 := hRp th.toNat (by omega)
        rw [Int.toNat_of_nonneg (by omega : 0 ≤ th)] at h4
        have b1 := sH_b cs th.toNat
        have b2 := sH_b cs kk
        have b3 := sS_b hc kk hal
        have b4 := sS_b hc th.toNat (fun i hi => hal i (by omega))
        refine lv_aload_n hx hb dX2_latestSame_18 rfl (lv_at hl 0 rfl) ?_
        refine va_get (D := g) (ci := 2) (v := .ref a0) (C := RX2) (T := TX2) (N := 16) hx hb hts inX2 hown hK.1 hP 0 rfl rfl 4 (by decide) f34 (fun _ h9 => h9) rfl dX2_latestSame_19 ?_
        refine lv_iload_n hx hb dX2_latestSame_22 rfl (lv_at hl 1 rfl) ?_
        refine ri_iald (F := hs) (i := th) hx hb hK.1 hP 3 0 rfl rfl (by omega) (by omega) dX2_latestSame_23 ?_
        refine lv_aload_n hx hb dX2_latestSame_24 rfl (lv_at hl 0 rfl) ?_
        refine va_get (D := g) (ci := 2) (v := .int (iI (sH cs kk))) (C := RX2) (T := TX2) (N := 16) hx hb hts inX2 hown hK.1 hP 0 rfl rfl 12 (by decide) f56 (fun _ h9 => h9) rfl dX2_latestSame_25 ?_
        refine ri_icmp_ne (a := (hs th)) (b := (sH cs kk)) (tgt := 54) hx hb (by rw [h4.1]; omega) (by omega) dX2_latestSame_28 (by decide) (fun c28 => ?_) (fun c28 => ?_)
        · skip
          have hl8 : cyA cs kk = lat (cyc cs kk) (th + -2 + 1).toNat := (by rw [hl9]; exact lat_2 (by omega) (fun q => c28 (by rw [h4.1]; exact q.2.1)) (fun _ => cyc_par (by omega)))
          refine ri_iinc (x := th) (lv' := [(1, .int (iI (th + (-2)))), (0, .ref w)]) hx hb dX2_latestSame_54 hl (k := 1) rfl (by decide) rfl (fun ls hl => ?_)
          refine lv_goto (tgt := 14) hx hb dX2_latestSame_57 (by decide) ?_
          exact ih (th + (-2)) (by omega) (by omega) hl8 _ (lv_sub hl [1, 0] rfl)
        · skip
          refine lv_aload_n hx hb dX2_latestSame_31 rfl (lv_at hl 0 rfl) ?_
          refine va_get (D := g) (ci := 2) (v := .ref a1) (C := RX2) (T := TX2) (N := 16) hx hb hts inX2 hown hK.1 hP 0 rfl rfl 5 (by decide) f38 (fun _ h9 => h9) rfl dX2_latestSame_32 ?_
          refine lv_iload_n hx hb dX2_latestSame_35 rfl (lv_at hl 1 rfl) ?_
          refine ri_iald (F := ss) (i := th) hx hb hK.1 hP 4 0 rfl rfl (by omega) (by omega) dX2_latestSame_36 ?_
          refine lv_aload_n hx hb dX2_latestSame_37 rfl (lv_at hl 0 rfl) ?_
          refine va_get (D := g) (ci := 2) (v := .int (iI (sS cs kk))) (C := RX2) (T := TX2) (N := 16) hx hb hts inX2 hown hK.1 hP 0 rfl rfl 11 (by decide) f53 (fun _ h9 => h9) rfl dX2_latestSame_38 ?_
          refine ri_icmp_ne (a := (ss th)) (b := (sS cs kk)) (tgt := 54) hx hb (by rw [h4.2.1]; omega) (by omega) dX2_latestSame_41 (by decide) (fun c41 => ?_) (fun c41 => ?_)
          · skip
            have hl8 : cyA cs kk = lat (cyc cs kk) (th + -2 + 1).toNat := (by rw [hl9]; exact lat_2 (by omega) (fun q => c41 (by rw [h4.2.1]; exact q.1)) (fun _ => cyc_par (by omega)))
            refine ri_iinc (x := th) (lv' := [(1, .int (iI (th + (-2)))), (0, .ref w)]) hx hb dX2_latestSame_54 hl (k := 1) rfl (by decide) rfl (fun ls hl => ?_)
            refine lv_goto (tgt := 14) hx hb dX2_latestSame_57 (by decide) ?_
            exact ih (th + (-2)) (by omega) (by omega) hl8 _ (lv_sub hl [1, 0] rfl)
          · skip
            refine lv_aload_n hx hb dX2_latestSame_44 rfl (lv_at hl 0 rfl) ?_
            refine lv_iload_n hx hb dX2_latestSame_45 rfl (lv_at hl 1 rfl) ?_
            refine rc_P (own := RX2) (q := (RX2, TX2, 16)) (wc := [(w, .inr (2, [.int (iI 300), .int (iI 10), .ref t0, .ref t1, .ref a0, .ref a1, .ref a2, .int (iI o), .int (iI (kk : Int)), .int (iI pe), .int (iI dr), .int (iI (sS cs kk)), .int (iI (sH cs kk)), .int (iI on), .int (iI lf), .int (iI rt)])), (t0, .inl (k.2.1, 10, .inr (.inl (bW 300 (sT cs kk))))), (t1, .inl (k.2.1, 3010, .inr (.inl tps)))]) (As := [.int (iI th)]) (rest := []) ⟨hx, hb, hml, hown, hts⟩ (c_sameTape300 l g k w t0 t1 a0 a1 a2 o (kk : Int) pe dr (sS cs kk) (sH cs kk) on lf rt (bW 300 (sT cs kk)) tps th (by omega)) (cwV 1 hts gX2_latestSame_X2_sameTape rfl rfl rfl (by decide +kernel) ⟨Nat.le_of_ble_eq_true rfl, Nat.le_of_ble_eq_true rfl⟩) hK hP [0, 1, 2] rfl (ci := 2) (q0 := 0) rfl rfl rfl rfl hl.1 (Nat.le_of_ble_eq_true rfl) ⟨Nat.le_of_ble_eq_true rfl, Nat.le_of_ble_eq_true rfl⟩ dX2_latestSame_46 (fun r46 hr46 => ?_)
            obtain ⟨v46, e46, h46⟩ := hr46
            have hv46 : 0 ≤ v46 ∧ v46 ≤ 1 := by rcases h46 with ⟨h, -⟩ | ⟨h, -⟩ <;> omega
            refine ri_top (y := iI v46) e46 ?_
            refine ri_if_eq (a := v46) (tgt := 54) hx hb (by omega) dX2_latestSame_49 (by decide) (fun c49 => ?_) (fun c49 => ?_)
            · skip
              have hl8 : cyA cs kk = lat (cyc cs kk) (th + -2 + 1).toNat := (by rw [hl9]; exact lat_2 (by omega) (fun q => by rcases h46 with ⟨e1, e2⟩ | ⟨e1, e2⟩; omega; exact e2 (fun w hw => by rw [show (th * 10).toNat = th.toNat * 10 by omega, h4.2.2.2 w hw]; exact bW_eq q.2.2 w)) (fun _ => cyc_par (by omega)))
              refine ri_iinc (x := th) (lv' := [(1, .int (iI (th + (-2)))), (0, .ref w)]) hx hb dX2_latestSame_54 hl (k := 1) rfl (by decide) rfl (fun ls hl => ?_)
              refine lv_goto (tgt := 14) hx hb dX2_latestSame_57 (by decide) ?_
              exact ih (th + (-2)) (by omega) (by omega) hl8 _ (lv_sub hl [1, 0] rfl)
            · skip
              refine lv_iload_n hx hb dX2_latestSame_52 rfl (lv_at hl 1 rfl) ?_
              exact hret (iI th) _ _ dX2_latestSame_53 (by rw [hl9]; congr 1; symm; refine lat_h (by omega) ⟨by rw [← h4.2.1]; omega, by rw [← h4.1]; omega, ?_⟩; rcases h46 with ⟨e1, e2⟩ | ⟨e1, e2⟩; exact (bW_all (R := 300) (Wd := 10) (by decide) (sT_01 cs _) (sT_01 cs _) (fun j hj => sT_out cs _ j (by omega)) (fun j hj => sT_out cs _ j (by omega))).mp (fun w hw => by rw [← h4.2.2.2 w hw, ← e2 w hw]; congr 1; omega); omega)
  exact J14 ((((kk : Int) - 2) + 3 : Int).toNat.succ) ((kk : Int) - 2) (by omega) (by omega) (by unfold cyA; rw [show ((kk : Int) - 2 + 1).toNat = kk - 1 by omega]; obtain ⟨j, rfl⟩ : ∃ j, kk = j + 1 := ⟨kk - 1, by omega⟩; exact lat_n (cyc_par (by omega))) _ (lv_sub hl [1, 0] rfl)

set_option maxHeartbeats 4000000 in
set_option maxRecDepth 100000 in
theorem c_sameTape120 (l : Launch) (g : va_G) (k : kT) (w t0 t1 a0 a1 a2 : Nat) (o st pe dr sta hd on lf rt : Int) (tp tps : Nat → Int64) (th : Int) (hth : 0 ≤ th ∧ th ≤ 120) : cP l yX2_sameTape wsX2_sameTape rm_0 g k [wO120 w t0 t1 a0 a1 a2 o st pe dr sta hd on lf rt, (t0, .inl (k.2.1, 4, .inr (.inl tp))), (t1, .inl (k.2.1, 484, .inr (.inl tps)))] [.ref w, .int (iI th)] (fun r => ∃ v : Int, r = iI v ∧ ((v = 1 ∧ ∀ w : Nat, w < 4 → tps ((th * 4).toNat + w) = tp w) ∨ (v = 0 ∧ ¬ ∀ w : Nat, w < 4 → tps ((th * 4).toNat + w) = tp w))) := by
  refine st_Z (by decide) rfl (Nat.le_of_ble_eq_true rfl) ?_
  intro p e s m below meth c Q hx hb hml hown hts hP hK hret ls hl
  have hown : s.vm.findClass RX2 = some m.cls := hown
  have f24 := hts (.fieldLink RX2 24 "MachineTree$Walk" "words" "I") (by decide +kernel)
  have inX2 := (by decide +kernel : ∀ w ∈ wsX20, w ∈ wsX2_sameTape)
  have f31 := hts (.fieldLink RX2 31 "MachineTree$Walk" "tapes" "[J") (by decide +kernel)
  have f27 := hts (.fieldLink RX2 27 "MachineTree$Walk" "tape" "[J") (by decide +kernel)
  have hl : lv_has ls 4 [(0, .ref w), (1, .int (iI th))] := hl
  refine lv_iload_n hx hb dX2_sameTape_0 rfl (lv_at hl 1 rfl) ?_
  refine lv_aload_n hx hb dX2_sameTape_1 rfl (lv_at hl 0 rfl) ?_
  refine va_get (D := g) (ci := 2) (v := .int (iI 4)) (C := RX2) (T := TX2) (N := 16) hx hb hts inX2 hown hK.1 hP 0 rfl rfl 1 (by decide) f24 (fun _ h9 => h9) rfl dX2_sameTape_2 ?_
  refine ri_imul (a := th) (b := 4) hx hb dX2_sameTape_5 ?_
  refine lv_istore_n (lv' := [(2, .int (iI (th * 4))), (0, .ref w), (1, .int (iI th))]) hx hb dX2_sameTape_6 rfl hl (by decide) rfl (fun ls hl => ?_)
  refine lv_iload_n hx hb dX2_sameTape_7 rfl (lv_at hl 0 rfl) ?_
  refine ri_if_lt (a := (th * 4)) (tgt := 25) hx hb (by omega) dX2_sameTape_8 (by decide) (fun c8 => ?_) (fun c8 => ?_)
  · exact absurd c8 (by omega)
  · skip
    refine lv_iload_n hx hb dX2_sameTape_11 rfl (lv_at hl 0 rfl) ?_
    refine lv_aload_n hx hb dX2_sameTape_12 rfl (lv_at hl 1 rfl) ?_
    refine va_get (D := g) (ci := 2) (v := .int (iI 4)) (C := RX2) (T := TX2) (N := 16) hx hb hts inX2 hown hK.1 hP 0 rfl rfl 1 (by decide) f24 (fun _ h9 => h9) rfl dX2_sameTape_13 ?_
    refine ri_iadd (a := (th * 4)) (b := 4) hx hb dX2_sameTape_16 ?_
    refine lv_aload_n hx hb dX2_sameTape_17 rfl (lv_at hl 1 rfl) ?_
    refine va_get (D := g) (ci := 2) (v := .ref t1) (C := RX2) (T := TX2) (N := 16) hx hb hts inX2 hown hK.1 hP 0 rfl rfl 3 (by decide) f31 (fun _ h9 => h9) rfl dX2_sameTape_18 ?_
    refine ri_alen hx hb hK.1 hP 2 1 rfl rfl dX2_sameTape_21 ?_
    refine ri_ex (b := 484) rfl ?_
    refine ri_icmp_le (a := ((th * 4) + 4)) (b := 484) (tgt := 27) hx hb (by omega) (by omega) dX2_sameTape_22 (by decide) (fun c22 => ?_) (fun c22 => ?_)
    · skip
      refine lv_iconst (v := iI 0) hx hb dX2_sameTape_27 rfl ?_
      refine lv_istore_n (lv' := [(3, .int (iI 0)), (2, .int (iI (th * 4))), (0, .ref w), (1, .int (iI th))]) hx hb dX2_sameTape_28 rfl hl (by decide) rfl (fun ls hl => ?_)
      have J29 : ∀ (n9 : Nat) (i : Int), 4 - i < (n9 : Int) → (0 ≤ i ∧ i ≤ 4) → (∀ w : Nat, (w : Int) < i → tps ((th * 4).toNat + w) = tp w) → ∀ (ls : Array Slot), lv_has ls 4 [(0, .ref w), (1, .int (iI th)), (2, .int (iI (th * 4))), (3, .int (iI i))] → W p l e rm_0 s m ([.ref w, .int (iI th)] : List Value).toArray below meth c s.heap [] 0 0 Q (F0 m 29 ls []) := by
        intro n9
        induction n9 with
        | zero => intro i hm9 hi hal; exact absurd hm9 (by omega)
        | succ n9 ih =>
          intro i hm9 hi hal ls hl
          refine lv_iload_n hx hb dX2_sameTape_29 rfl (lv_at hl 3 rfl) ?_
          refine lv_aload_n hx hb dX2_sameTape_30 rfl (lv_at hl 0 rfl) ?_
          refine va_get (D := g) (ci := 2) (v := .int (iI 4)) (C := RX2) (T := TX2) (N := 16) hx hb hts inX2 hown hK.1 hP 0 rfl rfl 1 (by decide) f24 (fun _ h9 => h9) rfl dX2_sameTape_31 ?_
          refine ri_icmp_ge (a := i) (b := 4) (tgt := 63) hx hb (by omega) (by omega) dX2_sameTape_34 (by decide) (fun c34 => ?_) (fun c34 => ?_)
          · skip
            refine lv_iconst (v := iI 1) hx hb dX2_sameTape_63 rfl ?_
            exact hret 1 _ _ dX2_sameTape_64 (by first | exact Or.inl rfl | exact Or.inr rfl | omega) ⟨1, rfl, Or.inl ⟨rfl, fun w hw => hal w (by omega)⟩⟩
          · skip
            refine lv_aload_n hx hb dX2_sameTape_37 rfl (lv_at hl 0 rfl) ?_
            refine va_get (D := g) (ci := 2) (v := .ref t1) (C := RX2) (T := TX2) (N := 16) hx hb hts inX2 hown hK.1 hP 0 rfl rfl 3 (by decide) f31 (fun _ h9 => h9) rfl dX2_sameTape_38 ?_
            refine lv_iload_n hx hb dX2_sameTape_41 rfl (lv_at hl 2 rfl) ?_
            refine lv_iload_n hx hb dX2_sameTape_42 rfl (lv_at hl 3 rfl) ?_
            refine ri_iadd (a := (th * 4)) (b := i) hx hb dX2_sameTape_43 ?_
            refine ri_lald (f := tps) (i := ((th * 4) + i)) hx hb hK.1 hP 2 1 rfl rfl (by omega) (by omega) dX2_sameTape_44 ?_
            refine lv_aload_n hx hb dX2_sameTape_45 rfl (lv_at hl 0 rfl) ?_
            refine va_get (D := g) (ci := 2) (v := .ref t0) (C := RX2) (T := TX2) (N := 16) hx hb hts inX2 hown hK.1 hP 0 rfl rfl 2 (by decide) f27 (fun _ h9 => h9) rfl dX2_sameTape_46 ?_
            refine lv_iload_n hx hb dX2_sameTape_49 rfl (lv_at hl 3 rfl) ?_
            refine ri_lald (f := tp) (i := i) hx hb hK.1 hP 1 1 rfl rfl (by omega) (by omega) dX2_sameTape_50 ?_
            refine W.lcmp hx hb dX2_sameTape_51 ?_
            refine lv_if_eq (tgt := 57) hx hb dX2_sameTape_52 (by decide) (fun c52 => ?_) (fun c52 => ?_)
            · skip
              have c52 := (lg_cmp_eq _ _).mp c52
              refine ri_iinc (x := i) (lv' := [(3, .int (iI (i + 1))), (0, .ref w), (1, .int (iI th)), (2, .int (iI (th * 4)))]) hx hb dX2_sameTape_57 hl (k := 3) rfl (by decide) rfl (fun ls hl => ?_)
              refine lv_goto (tgt := 29) hx hb dX2_sameTape_60 (by decide) ?_
              exact ih (i + 1) (by omega) (by omega) (fun w hw => by by_cases q : (w : Int) < i; exact hal w q; rw [show w = i.toNat by omega, ← c52]; congr 1; omega) _ (lv_sub hl [1, 2, 3, 0] rfl)
            · skip
              have c52 : ¬ _ = _ := fun q => c52 ((lg_cmp_eq _ _).mpr q)
              refine lv_iconst (v := iI 0) hx hb dX2_sameTape_55 rfl ?_
              exact hret 0 _ _ dX2_sameTape_56 (by first | exact Or.inl rfl | exact Or.inr rfl | omega) ⟨0, rfl, Or.inr ⟨rfl, fun h => c52 (by rw [← h i.toNat (by omega)]; congr 1; omega)⟩⟩
      exact J29 ((4 - 0 : Int).toNat.succ) 0 (by omega) (by omega) (fun w hw => absurd hw (by omega)) _ (lv_sub hl [2, 3, 1, 0] rfl)
    · exact absurd (by omega) c22

set_option maxHeartbeats 4000000 in
set_option maxRecDepth 100000 in
theorem c_latestSame120 (l : Launch) (g : va_G) (k : kT) (w t0 t1 a0 a1 a2 : Nat) (o pe dr on lf rt : Int) (tps : Nat → Int64) (hs ss sd : Int → Int) (cs : Int → Int) (hc : okC cs) (kk : Nat) (hk1 : 1 ≤ kk ∧ kk ≤ 120) (hal : alive cs kk) (hRp : Rp cs 120 4 kk tps hs ss sd) : cP l yX2_latestSame wsX2_latestSame rm_1 g k (wW120 k w t0 t1 a0 a1 a2 o (kk : Int) pe dr (sS cs kk) (sH cs kk) on lf rt (bW 120 (sT cs kk)) tps hs ss sd) [.ref w] (fun r => r = iI (cyA cs kk)) := by
  refine st_P (by decide) rfl (Nat.le_of_ble_eq_true rfl) ?_
  intro p e s m below meth c Q hx hb hml hown hts hP hK hret ls hl
  have hown : s.vm.findClass RX2 = some m.cls := hown
  have f47 := hts (.fieldLink RX2 47 "MachineTree$Walk" "steps" "I") (by decide +kernel)
  have inX2 := (by decide +kernel : ∀ w ∈ wsX20, w ∈ wsX2_latestSame)
  have f18 := hts (.fieldLink RX2 18 "MachineTree$Walk" "reach" "I") (by decide +kernel)
  have f34 := hts (.fieldLink RX2 34 "MachineTree$Walk" "heads" "[I") (by decide +kernel)
  have f56 := hts (.fieldLink RX2 56 "MachineTree$Walk" "head" "I") (by decide +kernel)
  have f38 := hts (.fieldLink RX2 38 "MachineTree$Walk" "states" "[I") (by decide +kernel)
  have f53 := hts (.fieldLink RX2 53 "MachineTree$Walk" "state" "I") (by decide +kernel)
  have hl : lv_has ls 2 [(0, .ref w)] := hl
  refine lv_aload_n hx hb dX2_latestSame_0 rfl (lv_at hl 0 rfl) ?_
  refine va_get (D := g) (ci := 2) (v := .int (iI (kk : Int))) (C := RX2) (T := TX2) (N := 16) hx hb hts inX2 hown hK.1 hP 0 rfl rfl 8 (by decide) f47 (fun _ h9 => h9) rfl dX2_latestSame_1 ?_
  refine lv_aload_n hx hb dX2_latestSame_4 rfl (lv_at hl 0 rfl) ?_
  refine va_get (D := g) (ci := 2) (v := .int (iI 120)) (C := RX2) (T := TX2) (N := 16) hx hb hts inX2 hown hK.1 hP 0 rfl rfl 0 (by decide) f18 (fun _ h9 => h9) rfl dX2_latestSame_5 ?_
  refine va_mmin hx hb (by rw [hml]; exact hl.1.symm) hown (hts (.methodLink RX2 9 Lib.Math.min.name) (by decide +kernel)) (hts (.static Lib.Math.min.name) (by decide +kernel)) (hts (.initialized "java/lang/Math") (by decide +kernel)) (hts (.code Lib.Math.min.name Lib.Math.min.code 2 (some .int)) (by decide +kernel)) (Nat.le_of_ble_eq_true rfl) (Nat.le_of_ble_eq_true rfl) (Nat.le_of_ble_eq_true rfl) (Nat.le_of_ble_eq_true rfl) dX2_latestSame_8 ?_
  refine ri_top (iI_min (a := (kk : Int)) (b := 120) (by omega) (by omega)) ?_
  refine ri_ex (b := (kk : Int)) (by omega) ?_
  refine lv_iconst (v := iI 2) hx hb dX2_latestSame_11 rfl ?_
  refine ri_isub (a := (kk : Int)) (b := 2) hx hb dX2_latestSame_12 ?_
  refine lv_istore_n (lv' := [(1, .int (iI ((kk : Int) - 2))), (0, .ref w)]) hx hb dX2_latestSame_13 rfl hl (by decide) rfl (fun ls hl => ?_)
  have J14 : ∀ (n9 : Nat) (th : Int), th + 3 < (n9 : Int) → (-2 ≤ th ∧ th ≤ (kk : Int) - 2 ∧ ((kk : Int) - th) % 2 = 0) → (cyA cs kk = lat (cyc cs kk) (th + 1).toNat) → ∀ (ls : Array Slot), lv_has ls 2 [(0, .ref w), (1, .int (iI th))] → W p l e rm_1 s m ([.ref w] : List Value).toArray below meth c s.heap [] 0 0 Q (F0 m 14 ls []) := by
    intro n9
    induction n9 with
    | zero => intro th hm9 hi hl9; exact absurd hm9 (by omega)
    | succ n9 ih =>
      intro th hm9 hi hl9 ls hl
      refine lv_iload_n hx hb dX2_latestSame_14 rfl (lv_at hl 1 rfl) ?_
      refine ri_if_lt (a := th) (tgt := 60) hx hb (by omega) dX2_latestSame_15 (by decide) (fun c15 => ?_) (fun c15 => ?_)
      · skip
        refine lv_iconst (v := iI (-1)) hx hb dX2_latestSame_60 rfl ?_
        exact hret (iI (-1)) _ _ dX2_latestSame_61 (by rw [hl9, show (th + 1).toNat = 0 by omega]; rfl)
      · skip
        have h4 := hRp th.toNat (by omega)
        rw [Int.toNat_of_nonneg (by omega : 0 ≤ th)] at h4
        have b1 := sH_b cs th.toNat
        have b2 := sH_b cs kk
        have b3 := sS_b hc kk hal
        have b4 := sS_b hc th.toNat (fun i hi => hal i (by omega))
        refine lv_aload_n hx hb dX2_latestSame_18 rfl (lv_at hl 0 rfl) ?_
        refine va_get (D := g) (ci := 2) (v := .ref a0) (C := RX2) (T := TX2) (N := 16) hx hb hts inX2 hown hK.1 hP 0 rfl rfl 4 (by decide) f34 (fun _ h9 => h9) rfl dX2_latestSame_19 ?_
        refine lv_iload_n hx hb dX2_latestSame_22 rfl (lv_at hl 1 rfl) ?_
        refine ri_iald (F := hs) (i := th) hx hb hK.1 hP 3 0 rfl rfl (by omega) (by omega) dX2_latestSame_23 ?_
        refine lv_aload_n hx hb dX2_latestSame_24 rfl (lv_at hl 0 rfl) ?_
        refine va_get (D := g) (ci := 2) (v := .int (iI (sH cs kk))) (C := RX2) (T := TX2) (N := 16) hx hb hts inX2 hown hK.1 hP 0 rfl rfl 12 (by decide) f56 (fun _ h9 => h9) rfl dX2_latestSame_25 ?_
        refine ri_icmp_ne (a := (hs th)) (b := (sH cs kk)) (tgt := 54) hx hb (by rw [h4.1]; omega) (by omega) dX2_latestSame_28 (by decide) (fun c28 => ?_) (fun c28 => ?_)
        · skip
          have hl8 : cyA cs kk = lat (cyc cs kk) (th + -2 + 1).toNat := (by rw [hl9]; exact lat_2 (by omega) (fun q => c28 (by rw [h4.1]; exact q.2.1)) (fun _ => cyc_par (by omega)))
          refine ri_iinc (x := th) (lv' := [(1, .int (iI (th + (-2)))), (0, .ref w)]) hx hb dX2_latestSame_54 hl (k := 1) rfl (by decide) rfl (fun ls hl => ?_)
          refine lv_goto (tgt := 14) hx hb dX2_latestSame_57 (by decide) ?_
          exact ih (th + (-2)) (by omega) (by omega) hl8 _ (lv_sub hl [1, 0] rfl)
        · skip
          refine lv_aload_n hx hb dX2_latestSame_31 rfl (lv_at hl 0 rfl) ?_
          refine va_get (D := g) (ci := 2) (v := .ref a1) (C := RX2) (T := TX2) (N := 16) hx hb hts inX2 hown hK.1 hP 0 rfl rfl 5 (by decide) f38 (fun _ h9 => h9) rfl dX2_latestSame_32 ?_
          refine lv_iload_n hx hb dX2_latestSame_35 rfl (lv_at hl 1 rfl) ?_
          refine ri_iald (F := ss) (i := th) hx hb hK.1 hP 4 0 rfl rfl (by omega) (by omega) dX2_latestSame_36 ?_
          refine lv_aload_n hx hb dX2_latestSame_37 rfl (lv_at hl 0 rfl) ?_
          refine va_get (D := g) (ci := 2) (v := .int (iI (sS cs kk))) (C := RX2) (T := TX2) (N := 16) hx hb hts inX2 hown hK.1 hP 0 rfl rfl 11 (by decide) f53 (fun _ h9 => h9) rfl dX2_latestSame_38 ?_
          refine ri_icmp_ne (a := (ss th)) (b := (sS cs kk)) (tgt := 54) hx hb (by rw [h4.2.1]; omega) (by omega) dX2_latestSame_41 (by decide) (fun c41 => ?_) (fun c41 => ?_)
          · skip
            have hl8 : cyA cs kk = lat (cyc cs kk) (th + -2 + 1).toNat := (by rw [hl9]; exact lat_2 (by omega) (fun q => c41 (by rw [h4.2.1]; exact q.1)) (fun _ => cyc_par (by omega)))
            refine ri_iinc (x := th) (lv' := [(1, .int (iI (th + (-2)))), (0, .ref w)]) hx hb dX2_latestSame_54 hl (k := 1) rfl (by decide) rfl (fun ls hl => ?_)
            refine lv_goto (tgt := 14) hx hb dX2_latestSame_57 (by decide) ?_
            exact ih (th + (-2)) (by omega) (by omega) hl8 _ (lv_sub hl [1, 0] rfl)
          · skip
            refine lv_aload_n hx hb dX2_latestSame_44 rfl (lv_at hl 0 rfl) ?_
            refine lv_iload_n hx hb dX2_latestSame_45 rfl (lv_at hl 1 rfl) ?_
            refine rc_P (own := RX2) (q := (RX2, TX2, 16)) (wc := [(w, .inr (2, [.int (iI 120), .int (iI 4), .ref t0, .ref t1, .ref a0, .ref a1, .ref a2, .int (iI o), .int (iI (kk : Int)), .int (iI pe), .int (iI dr), .int (iI (sS cs kk)), .int (iI (sH cs kk)), .int (iI on), .int (iI lf), .int (iI rt)])), (t0, .inl (k.2.1, 4, .inr (.inl (bW 120 (sT cs kk))))), (t1, .inl (k.2.1, 484, .inr (.inl tps)))]) (As := [.int (iI th)]) (rest := []) ⟨hx, hb, hml, hown, hts⟩ (c_sameTape120 l g k w t0 t1 a0 a1 a2 o (kk : Int) pe dr (sS cs kk) (sH cs kk) on lf rt (bW 120 (sT cs kk)) tps th (by omega)) (cwV 1 hts gX2_latestSame_X2_sameTape rfl rfl rfl (by decide +kernel) ⟨Nat.le_of_ble_eq_true rfl, Nat.le_of_ble_eq_true rfl⟩) hK hP [0, 1, 2] rfl (ci := 2) (q0 := 0) rfl rfl rfl rfl hl.1 (Nat.le_of_ble_eq_true rfl) ⟨Nat.le_of_ble_eq_true rfl, Nat.le_of_ble_eq_true rfl⟩ dX2_latestSame_46 (fun r46 hr46 => ?_)
            obtain ⟨v46, e46, h46⟩ := hr46
            have hv46 : 0 ≤ v46 ∧ v46 ≤ 1 := by rcases h46 with ⟨h, -⟩ | ⟨h, -⟩ <;> omega
            refine ri_top (y := iI v46) e46 ?_
            refine ri_if_eq (a := v46) (tgt := 54) hx hb (by omega) dX2_latestSame_49 (by decide) (fun c49 => ?_) (fun c49 => ?_)
            · skip
              have hl8 : cyA cs kk = lat (cyc cs kk) (th + -2 + 1).toNat := (by rw [hl9]; exact lat_2 (by omega) (fun q => by rcases h46 with ⟨e1, e2⟩ | ⟨e1, e2⟩; omega; exact e2 (fun w hw => by rw [show (th * 4).toNat = th.toNat * 4 by omega, h4.2.2.2 w hw]; exact bW_eq q.2.2 w)) (fun _ => cyc_par (by omega)))
              refine ri_iinc (x := th) (lv' := [(1, .int (iI (th + (-2)))), (0, .ref w)]) hx hb dX2_latestSame_54 hl (k := 1) rfl (by decide) rfl (fun ls hl => ?_)
              refine lv_goto (tgt := 14) hx hb dX2_latestSame_57 (by decide) ?_
              exact ih (th + (-2)) (by omega) (by omega) hl8 _ (lv_sub hl [1, 0] rfl)
            · skip
              refine lv_iload_n hx hb dX2_latestSame_52 rfl (lv_at hl 1 rfl) ?_
              exact hret (iI th) _ _ dX2_latestSame_53 (by rw [hl9]; congr 1; symm; refine lat_h (by omega) ⟨by rw [← h4.2.1]; omega, by rw [← h4.1]; omega, ?_⟩; rcases h46 with ⟨e1, e2⟩ | ⟨e1, e2⟩; exact (bW_all (R := 120) (Wd := 4) (by decide) (sT_01 cs _) (sT_01 cs _) (fun j hj => sT_out cs _ j (by omega)) (fun j hj => sT_out cs _ j (by omega))).mp (fun w hw => by rw [← h4.2.2.2 w hw, ← e2 w hw]; congr 1; omega); omega)
  exact J14 ((((kk : Int) - 2) + 3 : Int).toNat.succ) ((kk : Int) - 2) (by omega) (by omega) (by unfold cyA; rw [show ((kk : Int) - 2 + 1).toNat = kk - 1 by omega]; obtain ⟨j, rfl⟩ : ∃ j, kk = j + 1 := ⟨kk - 1, by omega⟩; exact lat_n (cyc_par (by omega))) _ (lv_sub hl [1, 0] rfl)
end
section
set_option maxHeartbeats 4000000 in
set_option maxRecDepth 100000 in
theorem c_sameBehind300 (l : Launch) (g : va_G) (k : kT) (w t0 t1 a0 a1 a2 : Nat) (o pe dr on lf rt : Int) (tps : Nat → Int64) (hs ss sd : Int → Int) (cs : Int → Int) (hc : okC cs) (kk : Nat) (hk1 : 1 ≤ kk ∧ kk ≤ 300) (hal : alive cs kk) (hRp : Rp cs 300 10 kk tps hs ss sd) (th side dp : Int) (hth : 0 < th ∧ th < kk) (hsd : side = 1 ∨ side = -1) (hdp : 0 ≤ dp ∧ dp ≤ 1000) : cP l yX2_sameBehind wsX2_sameBehind rm_1 g k (wW300 k w t0 t1 a0 a1 a2 o (kk : Int) pe dr (sS cs kk) (sH cs kk) on lf rt (bW 300 (sT cs kk)) tps hs ss sd) [.ref w, .int (iI th), .int (iI side), .int (iI dp)] (fun r => ∃ v : Int, r = iI v ∧ ((v = 1 ∧ ∀ j : Int, 0 ≤ j → j ≤ dp → sT cs th.toNat (sH cs th.toNat - side * j) = sT cs kk (sH cs kk - side * j)) ∨ (v = 0 ∧ ¬ ∀ j : Int, 0 ≤ j → j ≤ dp → sT cs th.toNat (sH cs th.toNat - side * j) = sT cs kk (sH cs kk - side * j)))) := by
  refine st_Z (by decide) rfl (Nat.le_of_ble_eq_true rfl) ?_
  intro p e s m below meth c Q hx hb hml hown hts hP hK hret ls hl
  have hown : s.vm.findClass RX2 = some m.cls := hown
  have f34 := hts (.fieldLink RX2 34 "MachineTree$Walk" "heads" "[I") (by decide +kernel)
  have inX2 := (by decide +kernel : ∀ w ∈ wsX20, w ∈ wsX2_sameBehind)
  have f31 := hts (.fieldLink RX2 31 "MachineTree$Walk" "tapes" "[J") (by decide +kernel)
  have f24 := hts (.fieldLink RX2 24 "MachineTree$Walk" "words" "I") (by decide +kernel)
  have f27 := hts (.fieldLink RX2 27 "MachineTree$Walk" "tape" "[J") (by decide +kernel)
  have f56 := hts (.fieldLink RX2 56 "MachineTree$Walk" "head" "I") (by decide +kernel)
  have hl : lv_has ls 6 [(0, .ref w), (1, .int (iI th)), (2, .int (iI side)), (3, .int (iI dp))] := hl
  have h4 := hRp th.toNat (by omega)
  rw [Int.toNat_of_nonneg (by omega : 0 ≤ th)] at h4
  have b1 := sH_b cs th.toNat
  have b2 := sH_b cs kk
  refine lv_iload_n hx hb dX2_sameBehind_0 rfl (lv_at hl 1 rfl) ?_
  refine ri_if_lt (a := th) (tgt := 13) hx hb (by omega) dX2_sameBehind_1 (by decide) (fun c1 => ?_) (fun c1 => ?_)
  · exact absurd c1 (by omega)
  · skip
    refine lv_iload_n hx hb dX2_sameBehind_4 rfl (lv_at hl 1 rfl) ?_
    refine lv_aload_n hx hb dX2_sameBehind_5 rfl (lv_at hl 0 rfl) ?_
    refine va_get (D := g) (ci := 2) (v := .ref a0) (C := RX2) (T := TX2) (N := 16) hx hb hts inX2 hown hK.1 hP 0 rfl rfl 4 (by decide) f34 (fun _ h9 => h9) rfl dX2_sameBehind_6 ?_
    refine ri_alen hx hb hK.1 hP 3 0 rfl rfl dX2_sameBehind_9 ?_
    refine ri_ex (b := 301) rfl ?_
    refine ri_icmp_lt (a := th) (b := 301) (tgt := 15) hx hb (by omega) (by omega) dX2_sameBehind_10 (by decide) (fun c10 => ?_) (fun c10 => ?_)
    · skip
      refine lv_iconst (v := iI 0) hx hb dX2_sameBehind_15 rfl ?_
      refine lv_istore (lv' := [(4, .int (iI 0)), (0, .ref w), (1, .int (iI th)), (2, .int (iI side)), (3, .int (iI dp))]) hx hb dX2_sameBehind_16 hl (by decide) rfl (fun ls hl => ?_)
      have J18 : ∀ (n9 : Nat) (i : Int), dp + 2 - i < (n9 : Int) → (0 ≤ i ∧ i ≤ dp + 1) → (∀ j : Int, 0 ≤ j → j < i → sT cs th.toNat (sH cs th.toNat - side * j) = sT cs kk (sH cs kk - side * j)) → ∀ (ls : Array Slot), lv_has ls 6 [(0, .ref w), (1, .int (iI th)), (2, .int (iI side)), (3, .int (iI dp)), (4, .int (iI i))] → W p l e rm_1 s m ([.ref w, .int (iI th), .int (iI side), .int (iI dp)] : List Value).toArray below meth c s.heap [] 0 0 Q (F0 m 18 ls []) := by
        intro n9
        induction n9 with
        | zero => intro i hm9 hi hal9; exact absurd hm9 (by omega)
        | succ n9 ih =>
          intro i hm9 hi hal9 ls hl
          have hm : side * i = i ∨ side * i = -i := by rcases hsd with h | h <;> rw [h] <;> omega
          refine lv_iload hx hb dX2_sameBehind_18 (lv_at hl 4 rfl) ?_
          refine lv_iload_n hx hb dX2_sameBehind_20 rfl (lv_at hl 3 rfl) ?_
          refine ri_icmp_gt (a := i) (b := dp) (tgt := 82) hx hb (by omega) (by omega) dX2_sameBehind_21 (by decide) (fun c21 => ?_) (fun c21 => ?_)
          · skip
            refine lv_iconst (v := iI 1) hx hb dX2_sameBehind_82 rfl ?_
            exact hret 1 _ _ dX2_sameBehind_83 (by first | exact Or.inl rfl | exact Or.inr rfl | omega) ⟨1, rfl, Or.inl ⟨rfl, fun j h1 h2 => hal9 j h1 (by omega)⟩⟩
          · skip
            refine lv_aload_n hx hb dX2_sameBehind_24 rfl (lv_at hl 0 rfl) ?_
            refine lv_aload_n hx hb dX2_sameBehind_25 rfl (lv_at hl 0 rfl) ?_
            refine va_get (D := g) (ci := 2) (v := .ref t1) (C := RX2) (T := TX2) (N := 16) hx hb hts inX2 hown hK.1 hP 0 rfl rfl 3 (by decide) f31 (fun _ h9 => h9) rfl dX2_sameBehind_26 ?_
            refine lv_iload_n hx hb dX2_sameBehind_29 rfl (lv_at hl 1 rfl) ?_
            refine lv_aload_n hx hb dX2_sameBehind_30 rfl (lv_at hl 0 rfl) ?_
            refine va_get (D := g) (ci := 2) (v := .int (iI 10)) (C := RX2) (T := TX2) (N := 16) hx hb hts inX2 hown hK.1 hP 0 rfl rfl 1 (by decide) f24 (fun _ h9 => h9) rfl dX2_sameBehind_31 ?_
            refine ri_imul (a := th) (b := 10) hx hb dX2_sameBehind_34 ?_
            refine lv_aload_n hx hb dX2_sameBehind_35 rfl (lv_at hl 0 rfl) ?_
            refine va_get (D := g) (ci := 2) (v := .ref a0) (C := RX2) (T := TX2) (N := 16) hx hb hts inX2 hown hK.1 hP 0 rfl rfl 4 (by decide) f34 (fun _ h9 => h9) rfl dX2_sameBehind_36 ?_
            refine lv_iload_n hx hb dX2_sameBehind_39 rfl (lv_at hl 1 rfl) ?_
            refine ri_iald (F := hs) (i := th) hx hb hK.1 hP 3 0 rfl rfl (by omega) (by omega) dX2_sameBehind_40 ?_
            refine lv_iload_n hx hb dX2_sameBehind_41 rfl (lv_at hl 2 rfl) ?_
            refine lv_iload hx hb dX2_sameBehind_42 (lv_at hl 4 rfl) ?_
            refine ri_imul (a := side) (b := i) hx hb dX2_sameBehind_44 ?_
            refine ri_isub (a := (hs th)) (b := (side * i)) hx hb dX2_sameBehind_45 ?_
            refine rc_P (own := RX2) (q := (RX2, TX2, 16)) (wc := [(w, .inr (2, [.int (iI 300), .int (iI 10), .ref t0, .ref t1, .ref a0, .ref a1, .ref a2, .int (iI o), .int (iI (kk : Int)), .int (iI pe), .int (iI dr), .int (iI (sS cs kk)), .int (iI (sH cs kk)), .int (iI on), .int (iI lf), .int (iI rt)])), (t1, .inl (k.2.1, 3010, .inr (.inl tps)))]) (As := [.ref t1, .int (iI (th * 10)), .int (iI ((hs th) - (side * i)))]) (rest := []) ⟨hx, hb, hml, hown, hts⟩ (c_symbolIn300 l g k w t0 t1 a0 a1 a2 o (kk : Int) pe dr (sS cs kk) (sH cs kk) on lf rt t1 3010 tps (th * 10) (hs th - side * i) (sT cs th.toNat) (sT_01 cs _) (fun j hj => sT_out cs _ j (by omega)) (by omega) (fun w hw => by rw [show (th * 10).toNat = th.toNat * 10 by omega]; exact h4.2.2.2 w hw) (by rw [h4.1]; omega)) (cwV 3 hts gX2_sameBehind_X2_symbolIn rfl rfl rfl (by decide +kernel) ⟨Nat.le_of_ble_eq_true rfl, Nat.le_of_ble_eq_true rfl⟩) hK hP [0, 2] rfl (ci := 2) (q0 := 0) rfl rfl rfl rfl hl.1 (Nat.le_of_ble_eq_true rfl) ⟨Nat.le_of_ble_eq_true rfl, Nat.le_of_ble_eq_true rfl⟩ dX2_sameBehind_46 (fun r46 hr46 => ?_)
            refine ri_top (y := iI (sT cs th.toNat (hs th - side * i))) hr46 ?_
            refine lv_istore (lv' := [(5, .int (iI (sT cs th.toNat (hs th - side * i)))), (0, .ref w), (1, .int (iI th)), (2, .int (iI side)), (3, .int (iI dp)), (4, .int (iI i))]) hx hb dX2_sameBehind_49 hl (by decide) rfl (fun ls hl => ?_)
            refine lv_iload hx hb dX2_sameBehind_51 (lv_at hl 0 rfl) ?_
            refine lv_aload_n hx hb dX2_sameBehind_53 rfl (lv_at hl 1 rfl) ?_
            refine lv_aload_n hx hb dX2_sameBehind_54 rfl (lv_at hl 1 rfl) ?_
            refine va_get (D := g) (ci := 2) (v := .ref t0) (C := RX2) (T := TX2) (N := 16) hx hb hts inX2 hown hK.1 hP 0 rfl rfl 2 (by decide) f27 (fun _ h9 => h9) rfl dX2_sameBehind_55 ?_
            refine lv_iconst (v := iI 0) hx hb dX2_sameBehind_58 rfl ?_
            refine lv_aload_n hx hb dX2_sameBehind_59 rfl (lv_at hl 1 rfl) ?_
            refine va_get (D := g) (ci := 2) (v := .int (iI (sH cs kk))) (C := RX2) (T := TX2) (N := 16) hx hb hts inX2 hown hK.1 hP 0 rfl rfl 12 (by decide) f56 (fun _ h9 => h9) rfl dX2_sameBehind_60 ?_
            refine lv_iload_n hx hb dX2_sameBehind_63 rfl (lv_at hl 3 rfl) ?_
            refine lv_iload hx hb dX2_sameBehind_64 (lv_at hl 5 rfl) ?_
            refine ri_imul (a := side) (b := i) hx hb dX2_sameBehind_66 ?_
            refine ri_isub (a := (sH cs kk)) (b := (side * i)) hx hb dX2_sameBehind_67 ?_
            refine rc_P (own := RX2) (q := (RX2, TX2, 16)) (wc := [(w, .inr (2, [.int (iI 300), .int (iI 10), .ref t0, .ref t1, .ref a0, .ref a1, .ref a2, .int (iI o), .int (iI (kk : Int)), .int (iI pe), .int (iI dr), .int (iI (sS cs kk)), .int (iI (sH cs kk)), .int (iI on), .int (iI lf), .int (iI rt)])), (t0, .inl (k.2.1, 10, .inr (.inl (bW 300 (sT cs kk)))))]) (As := [.ref t0, .int (iI 0), .int (iI ((sH cs kk) - (side * i)))]) (rest := [.int (iI (sT cs th.toNat (hs th - side * i)))]) ⟨hx, hb, hml, hown, hts⟩ (c_symbolIn300 l g k w t0 t1 a0 a1 a2 o (kk : Int) pe dr (sS cs kk) (sH cs kk) on lf rt t0 10 (bW 300 (sT cs kk)) 0 (sH cs kk - side * i) (sT cs kk) (sT_01 cs _) (fun j hj => sT_out cs _ j (by omega)) (by omega) (fun w _ => by rw [show (0 : Int).toNat + w = w by omega]) (by omega)) (cwV 3 hts gX2_sameBehind_X2_symbolIn rfl rfl rfl (by decide +kernel) ⟨Nat.le_of_ble_eq_true rfl, Nat.le_of_ble_eq_true rfl⟩) hK hP [0, 1] rfl (ci := 2) (q0 := 0) rfl rfl rfl rfl hl.1 (Nat.le_of_ble_eq_true rfl) ⟨Nat.le_of_ble_eq_true rfl, Nat.le_of_ble_eq_true rfl⟩ dX2_sameBehind_68 (fun r68 hr68 => ?_)
            refine ri_top (y := iI (sT cs kk (sH cs kk - side * i))) hr68 ?_
            have d1 := sT_01 cs th.toNat (hs th - side * i)
            have d2 := sT_01 cs kk (sH cs kk - side * i)
            refine ri_icmp_eq (a := (sT cs th.toNat (hs th - side * i))) (b := (sT cs kk (sH cs kk - side * i))) (tgt := 76) hx hb (by omega) (by omega) dX2_sameBehind_71 (by decide) (fun c71 => ?_) (fun c71 => ?_)
            · skip
              refine ri_iinc (x := i) (lv' := [(4, .int (iI (i + 1))), (5, .int (iI (sT cs th.toNat (hs th - side * i)))), (0, .ref w), (1, .int (iI th)), (2, .int (iI side)), (3, .int (iI dp))]) hx hb dX2_sameBehind_76 hl (k := 5) rfl (by decide) rfl (fun ls hl => ?_)
              refine lv_goto (tgt := 18) hx hb dX2_sameBehind_79 (by decide) ?_
              exact ih (i + 1) (by omega) (by omega) (fun j h1 h2 => by by_cases q : j < i; exact hal9 j h1 q; rw [show j = i by omega, ← h4.1]; exact c71) _ (lv_sub hl [2, 3, 4, 5, 0] rfl)
            · skip
              refine lv_iconst (v := iI 0) hx hb dX2_sameBehind_74 rfl ?_
              exact hret 0 _ _ dX2_sameBehind_75 (by first | exact Or.inl rfl | exact Or.inr rfl | omega) ⟨0, rfl, Or.inr ⟨rfl, fun h => c71 (by rw [h4.1]; exact h i (by omega) (by omega))⟩⟩
      exact J18 ((dp + 2 - 0 : Int).toNat.succ) 0 (by omega) (by omega) (fun j h1 h2 => absurd h2 (by omega)) _ (lv_sub hl [1, 2, 3, 4, 0] rfl)
    · exact absurd (by omega) c10

set_option maxHeartbeats 4000000 in
set_option maxRecDepth 100000 in
theorem c_sameBehind120 (l : Launch) (g : va_G) (k : kT) (w t0 t1 a0 a1 a2 : Nat) (o pe dr on lf rt : Int) (tps : Nat → Int64) (hs ss sd : Int → Int) (cs : Int → Int) (hc : okC cs) (kk : Nat) (hk1 : 1 ≤ kk ∧ kk ≤ 120) (hal : alive cs kk) (hRp : Rp cs 120 4 kk tps hs ss sd) (th side dp : Int) (hth : 0 < th ∧ th < kk) (hsd : side = 1 ∨ side = -1) (hdp : 0 ≤ dp ∧ dp ≤ 1000) : cP l yX2_sameBehind wsX2_sameBehind rm_1 g k (wW120 k w t0 t1 a0 a1 a2 o (kk : Int) pe dr (sS cs kk) (sH cs kk) on lf rt (bW 120 (sT cs kk)) tps hs ss sd) [.ref w, .int (iI th), .int (iI side), .int (iI dp)] (fun r => ∃ v : Int, r = iI v ∧ ((v = 1 ∧ ∀ j : Int, 0 ≤ j → j ≤ dp → sT cs th.toNat (sH cs th.toNat - side * j) = sT cs kk (sH cs kk - side * j)) ∨ (v = 0 ∧ ¬ ∀ j : Int, 0 ≤ j → j ≤ dp → sT cs th.toNat (sH cs th.toNat - side * j) = sT cs kk (sH cs kk - side * j)))) := by
  refine st_Z (by decide) rfl (Nat.le_of_ble_eq_true rfl) ?_
  intro p e s m below meth c Q hx hb hml hown hts hP hK hret ls hl
  have hown : s.vm.findClass RX2 = some m.cls := hown
  have f34 := hts (.fieldLink RX2 34 "MachineTree$Walk" "heads" "[I") (by decide +kernel)
  have inX2 := (by decide +kernel : ∀ w ∈ wsX20, w ∈ wsX2_sameBehind)
  have f31 := hts (.fieldLink RX2 31 "MachineTree$Walk" "tapes" "[J") (by decide +kernel)
  have f24 := hts (.fieldLink RX2 24 "MachineTree$Walk" "words" "I") (by decide +kernel)
  have f27 := hts (.fieldLink RX2 27 "MachineTree$Walk" "tape" "[J") (by decide +kernel)
  have f56 := hts (.fieldLink RX2 56 "MachineTree$Walk" "head" "I") (by decide +kernel)
  have hl : lv_has ls 6 [(0, .ref w), (1, .int (iI th)), (2, .int (iI side)), (3, .int (iI dp))] := hl
  have h4 := hRp th.toNat (by omega)
  rw [Int.toNat_of_nonneg (by omega : 0 ≤ th)] at h4
  have b1 := sH_b cs th.toNat
  have b2 := sH_b cs kk
  refine lv_iload_n hx hb dX2_sameBehind_0 rfl (lv_at hl 1 rfl) ?_
  refine ri_if_lt (a := th) (tgt := 13) hx hb (by omega) dX2_sameBehind_1 (by decide) (fun c1 => ?_) (fun c1 => ?_)
  · exact absurd c1 (by omega)
  · skip
    refine lv_iload_n hx hb dX2_sameBehind_4 rfl (lv_at hl 1 rfl) ?_
    refine lv_aload_n hx hb dX2_sameBehind_5 rfl (lv_at hl 0 rfl) ?_
    refine va_get (D := g) (ci := 2) (v := .ref a0) (C := RX2) (T := TX2) (N := 16) hx hb hts inX2 hown hK.1 hP 0 rfl rfl 4 (by decide) f34 (fun _ h9 => h9) rfl dX2_sameBehind_6 ?_
    refine ri_alen hx hb hK.1 hP 3 0 rfl rfl dX2_sameBehind_9 ?_
    refine ri_ex (b := 121) rfl ?_
    refine ri_icmp_lt (a := th) (b := 121) (tgt := 15) hx hb (by omega) (by omega) dX2_sameBehind_10 (by decide) (fun c10 => ?_) (fun c10 => ?_)
    · skip
      refine lv_iconst (v := iI 0) hx hb dX2_sameBehind_15 rfl ?_
      refine lv_istore (lv' := [(4, .int (iI 0)), (0, .ref w), (1, .int (iI th)), (2, .int (iI side)), (3, .int (iI dp))]) hx hb dX2_sameBehind_16 hl (by decide) rfl (fun ls hl => ?_)
      have J18 : ∀ (n9 : Nat) (i : Int), dp + 2 - i < (n9 : Int) → (0 ≤ i ∧ i ≤ dp + 1) → (∀ j : Int, 0 ≤ j → j < i → sT cs th.toNat (sH cs th.toNat - side * j) = sT cs kk (sH cs kk - side * j)) → ∀ (ls : Array Slot), lv_has ls 6 [(0, .ref w), (1, .int (iI th)), (2, .int (iI side)), (3, .int (iI dp)), (4, .int (iI i))] → W p l e rm_1 s m ([.ref w, .int (iI th), .int (iI side), .int (iI dp)] : List Value).toArray below meth c s.heap [] 0 0 Q (F0 m 18 ls []) := by
        intro n9
        induction n9 with
        | zero => intro i hm9 hi hal9; exact absurd hm9 (by omega)
        | succ n9 ih =>
          intro i hm9 hi hal9 ls hl
          have hm : side * i = i ∨ side * i = -i := by rcases hsd with h | h <;> rw [h] <;> omega
          refine lv_iload hx hb dX2_sameBehind_18 (lv_at hl 4 rfl) ?_
          refine lv_iload_n hx hb dX2_sameBehind_20 rfl (lv_at hl 3 rfl) ?_
          refine ri_icmp_gt (a := i) (b := dp) (tgt := 82) hx hb (by omega) (by omega) dX2_sameBehind_21 (by decide) (fun c21 => ?_) (fun c21 => ?_)
          · skip
            refine lv_iconst (v := iI 1) hx hb dX2_sameBehind_82 rfl ?_
            exact hret 1 _ _ dX2_sameBehind_83 (by first | exact Or.inl rfl | exact Or.inr rfl | omega) ⟨1, rfl, Or.inl ⟨rfl, fun j h1 h2 => hal9 j h1 (by omega)⟩⟩
          · skip
            refine lv_aload_n hx hb dX2_sameBehind_24 rfl (lv_at hl 0 rfl) ?_
            refine lv_aload_n hx hb dX2_sameBehind_25 rfl (lv_at hl 0 rfl) ?_
            refine va_get (D := g) (ci := 2) (v := .ref t1) (C := RX2) (T := TX2) (N := 16) hx hb hts inX2 hown hK.1 hP 0 rfl rfl 3 (by decide) f31 (fun _ h9 => h9) rfl dX2_sameBehind_26 ?_
            refine lv_iload_n hx hb dX2_sameBehind_29 rfl (lv_at hl 1 rfl) ?_
            refine lv_aload_n hx hb dX2_sameBehind_30 rfl (lv_at hl 0 rfl) ?_
            refine va_get (D := g) (ci := 2) (v := .int (iI 4)) (C := RX2) (T := TX2) (N := 16) hx hb hts inX2 hown hK.1 hP 0 rfl rfl 1 (by decide) f24 (fun _ h9 => h9) rfl dX2_sameBehind_31 ?_
            refine ri_imul (a := th) (b := 4) hx hb dX2_sameBehind_34 ?_
            refine lv_aload_n hx hb dX2_sameBehind_35 rfl (lv_at hl 0 rfl) ?_
            refine va_get (D := g) (ci := 2) (v := .ref a0) (C := RX2) (T := TX2) (N := 16) hx hb hts inX2 hown hK.1 hP 0 rfl rfl 4 (by decide) f34 (fun _ h9 => h9) rfl dX2_sameBehind_36 ?_
            refine lv_iload_n hx hb dX2_sameBehind_39 rfl (lv_at hl 1 rfl) ?_
            refine ri_iald (F := hs) (i := th) hx hb hK.1 hP 3 0 rfl rfl (by omega) (by omega) dX2_sameBehind_40 ?_
            refine lv_iload_n hx hb dX2_sameBehind_41 rfl (lv_at hl 2 rfl) ?_
            refine lv_iload hx hb dX2_sameBehind_42 (lv_at hl 4 rfl) ?_
            refine ri_imul (a := side) (b := i) hx hb dX2_sameBehind_44 ?_
            refine ri_isub (a := (hs th)) (b := (side * i)) hx hb dX2_sameBehind_45 ?_
            refine rc_P (own := RX2) (q := (RX2, TX2, 16)) (wc := [(w, .inr (2, [.int (iI 120), .int (iI 4), .ref t0, .ref t1, .ref a0, .ref a1, .ref a2, .int (iI o), .int (iI (kk : Int)), .int (iI pe), .int (iI dr), .int (iI (sS cs kk)), .int (iI (sH cs kk)), .int (iI on), .int (iI lf), .int (iI rt)])), (t1, .inl (k.2.1, 484, .inr (.inl tps)))]) (As := [.ref t1, .int (iI (th * 4)), .int (iI ((hs th) - (side * i)))]) (rest := []) ⟨hx, hb, hml, hown, hts⟩ (c_symbolIn120 l g k w t0 t1 a0 a1 a2 o (kk : Int) pe dr (sS cs kk) (sH cs kk) on lf rt t1 484 tps (th * 4) (hs th - side * i) (sT cs th.toNat) (sT_01 cs _) (fun j hj => sT_out cs _ j (by omega)) (by omega) (fun w hw => by rw [show (th * 4).toNat = th.toNat * 4 by omega]; exact h4.2.2.2 w hw) (by rw [h4.1]; omega)) (cwV 3 hts gX2_sameBehind_X2_symbolIn rfl rfl rfl (by decide +kernel) ⟨Nat.le_of_ble_eq_true rfl, Nat.le_of_ble_eq_true rfl⟩) hK hP [0, 2] rfl (ci := 2) (q0 := 0) rfl rfl rfl rfl hl.1 (Nat.le_of_ble_eq_true rfl) ⟨Nat.le_of_ble_eq_true rfl, Nat.le_of_ble_eq_true rfl⟩ dX2_sameBehind_46 (fun r46 hr46 => ?_)
            refine ri_top (y := iI (sT cs th.toNat (hs th - side * i))) hr46 ?_
            refine lv_istore (lv' := [(5, .int (iI (sT cs th.toNat (hs th - side * i)))), (0, .ref w), (1, .int (iI th)), (2, .int (iI side)), (3, .int (iI dp)), (4, .int (iI i))]) hx hb dX2_sameBehind_49 hl (by decide) rfl (fun ls hl => ?_)
            refine lv_iload hx hb dX2_sameBehind_51 (lv_at hl 0 rfl) ?_
            refine lv_aload_n hx hb dX2_sameBehind_53 rfl (lv_at hl 1 rfl) ?_
            refine lv_aload_n hx hb dX2_sameBehind_54 rfl (lv_at hl 1 rfl) ?_
            refine va_get (D := g) (ci := 2) (v := .ref t0) (C := RX2) (T := TX2) (N := 16) hx hb hts inX2 hown hK.1 hP 0 rfl rfl 2 (by decide) f27 (fun _ h9 => h9) rfl dX2_sameBehind_55 ?_
            refine lv_iconst (v := iI 0) hx hb dX2_sameBehind_58 rfl ?_
            refine lv_aload_n hx hb dX2_sameBehind_59 rfl (lv_at hl 1 rfl) ?_
            refine va_get (D := g) (ci := 2) (v := .int (iI (sH cs kk))) (C := RX2) (T := TX2) (N := 16) hx hb hts inX2 hown hK.1 hP 0 rfl rfl 12 (by decide) f56 (fun _ h9 => h9) rfl dX2_sameBehind_60 ?_
            refine lv_iload_n hx hb dX2_sameBehind_63 rfl (lv_at hl 3 rfl) ?_
            refine lv_iload hx hb dX2_sameBehind_64 (lv_at hl 5 rfl) ?_
            refine ri_imul (a := side) (b := i) hx hb dX2_sameBehind_66 ?_
            refine ri_isub (a := (sH cs kk)) (b := (side * i)) hx hb dX2_sameBehind_67 ?_
            refine rc_P (own := RX2) (q := (RX2, TX2, 16)) (wc := [(w, .inr (2, [.int (iI 120), .int (iI 4), .ref t0, .ref t1, .ref a0, .ref a1, .ref a2, .int (iI o), .int (iI (kk : Int)), .int (iI pe), .int (iI dr), .int (iI (sS cs kk)), .int (iI (sH cs kk)), .int (iI on), .int (iI lf), .int (iI rt)])), (t0, .inl (k.2.1, 4, .inr (.inl (bW 120 (sT cs kk)))))]) (As := [.ref t0, .int (iI 0), .int (iI ((sH cs kk) - (side * i)))]) (rest := [.int (iI (sT cs th.toNat (hs th - side * i)))]) ⟨hx, hb, hml, hown, hts⟩ (c_symbolIn120 l g k w t0 t1 a0 a1 a2 o (kk : Int) pe dr (sS cs kk) (sH cs kk) on lf rt t0 4 (bW 120 (sT cs kk)) 0 (sH cs kk - side * i) (sT cs kk) (sT_01 cs _) (fun j hj => sT_out cs _ j (by omega)) (by omega) (fun w _ => by rw [show (0 : Int).toNat + w = w by omega]) (by omega)) (cwV 3 hts gX2_sameBehind_X2_symbolIn rfl rfl rfl (by decide +kernel) ⟨Nat.le_of_ble_eq_true rfl, Nat.le_of_ble_eq_true rfl⟩) hK hP [0, 1] rfl (ci := 2) (q0 := 0) rfl rfl rfl rfl hl.1 (Nat.le_of_ble_eq_true rfl) ⟨Nat.le_of_ble_eq_true rfl, Nat.le_of_ble_eq_true rfl⟩ dX2_sameBehind_68 (fun r68 hr68 => ?_)
            refine ri_top (y := iI (sT cs kk (sH cs kk - side * i))) hr68 ?_
            have d1 := sT_01 cs th.toNat (hs th - side * i)
            have d2 := sT_01 cs kk (sH cs kk - side * i)
            refine ri_icmp_eq (a := (sT cs th.toNat (hs th - side * i))) (b := (sT cs kk (sH cs kk - side * i))) (tgt := 76) hx hb (by omega) (by omega) dX2_sameBehind_71 (by decide) (fun c71 => ?_) (fun c71 => ?_)
            · skip
              refine ri_iinc (x := i) (lv' := [(4, .int (iI (i + 1))), (5, .int (iI (sT cs th.toNat (hs th - side * i)))), (0, .ref w), (1, .int (iI th)), (2, .int (iI side)), (3, .int (iI dp))]) hx hb dX2_sameBehind_76 hl (k := 5) rfl (by decide) rfl (fun ls hl => ?_)
              refine lv_goto (tgt := 18) hx hb dX2_sameBehind_79 (by decide) ?_
              exact ih (i + 1) (by omega) (by omega) (fun j h1 h2 => by by_cases q : j < i; exact hal9 j h1 q; rw [show j = i by omega, ← h4.1]; exact c71) _ (lv_sub hl [2, 3, 4, 5, 0] rfl)
            · skip
              refine lv_iconst (v := iI 0) hx hb dX2_sameBehind_74 rfl ?_
              exact hret 0 _ _ dX2_sameBehind_75 (by first | exact Or.inl rfl | exact Or.inr rfl | omega) ⟨0, rfl, Or.inr ⟨rfl, fun h => c71 (by rw [h4.1]; exact h i (by omega) (by omega))⟩⟩
      exact J18 ((dp + 2 - 0 : Int).toNat.succ) 0 (by omega) (by omega) (fun j h1 h2 => absurd h2 (by omega)) _ (lv_sub hl [1, 2, 3, 4, 0] rfl)
    · exact absurd (by omega) c10
end
section
/-! THE CLASS Walk: the latest drift, the look back -/
set_option maxHeartbeats 4000000 in
set_option maxRecDepth 100000 in
theorem c_latestDrift300 (l : Launch) (g : va_G) (k : kT) (w t0 t1 a0 a1 a2 : Nat) (o pe dr on lf rt : Int) (tps : Nat → Int64) (hs ss sd : Int → Int) (cs : Int → Int) (hc : okC cs) (kk : Nat) (hk1 : 1 ≤ kk ∧ kk ≤ 300) (hal : alive cs kk) (hRp : Rp cs 300 10 kk tps hs ss sd) : cP l yX2_latestDrift wsX2_latestDrift rm_2 g k (wW300 k w t0 t1 a0 a1 a2 o (kk : Int) pe dr (sS cs kk) (sH cs kk) on lf rt (bW 300 (sT cs kk)) tps hs ss sd) [.ref w] (fun r => r = iI (drA cs kk)) := by
  refine st_P (by decide) rfl (Nat.le_of_ble_eq_true rfl) ?_
  intro p e s m below meth c Q hx hb hml hown hts hP hK hret ls hl
  have hown : s.vm.findClass RX2 = some m.cls := hown
  have f47 := hts (.fieldLink RX2 47 "MachineTree$Walk" "steps" "I") (by decide +kernel)
  have inX2 := (by decide +kernel : ∀ w ∈ wsX20, w ∈ wsX2_latestDrift)
  have f18 := hts (.fieldLink RX2 18 "MachineTree$Walk" "reach" "I") (by decide +kernel)
  have f41 := hts (.fieldLink RX2 41 "MachineTree$Walk" "sides" "[I") (by decide +kernel)
  have f56 := hts (.fieldLink RX2 56 "MachineTree$Walk" "head" "I") (by decide +kernel)
  have f34 := hts (.fieldLink RX2 34 "MachineTree$Walk" "heads" "[I") (by decide +kernel)
  have f38 := hts (.fieldLink RX2 38 "MachineTree$Walk" "states" "[I") (by decide +kernel)
  have f53 := hts (.fieldLink RX2 53 "MachineTree$Walk" "state" "I") (by decide +kernel)
  have hl : lv_has ls 6 [(0, .ref w)] := hl
  have r0 := sR_b cs kk
  have b2 := sH_b cs kk
  have b3 := sS_b hc kk hal
  refine lv_aload_n hx hb dX2_latestDrift_0 rfl (lv_at hl 0 rfl) ?_
  refine va_get (D := g) (ci := 2) (v := .int (iI (kk : Int))) (C := RX2) (T := TX2) (N := 16) hx hb hts inX2 hown hK.1 hP 0 rfl rfl 8 (by decide) f47 (fun _ h9 => h9) rfl dX2_latestDrift_1 ?_
  refine lv_aload_n hx hb dX2_latestDrift_4 rfl (lv_at hl 0 rfl) ?_
  refine va_get (D := g) (ci := 2) (v := .int (iI 300)) (C := RX2) (T := TX2) (N := 16) hx hb hts inX2 hown hK.1 hP 0 rfl rfl 0 (by decide) f18 (fun _ h9 => h9) rfl dX2_latestDrift_5 ?_
  refine va_mmin hx hb (by rw [hml]; exact hl.1.symm) hown (hts (.methodLink RX2 9 Lib.Math.min.name) (by decide +kernel)) (hts (.static Lib.Math.min.name) (by decide +kernel)) (hts (.initialized "java/lang/Math") (by decide +kernel)) (hts (.code Lib.Math.min.name Lib.Math.min.code 2 (some .int)) (by decide +kernel)) (Nat.le_of_ble_eq_true rfl) (Nat.le_of_ble_eq_true rfl) (Nat.le_of_ble_eq_true rfl) (Nat.le_of_ble_eq_true rfl) dX2_latestDrift_8 ?_
  refine ri_top (iI_min (a := (kk : Int)) (b := 300) (by omega) (by omega)) ?_
  refine ri_ex (b := (kk : Int)) (by omega) ?_
  refine lv_istore_n (lv' := [(1, .int (iI (kk : Int))), (0, .ref w)]) hx hb dX2_latestDrift_11 rfl hl (by decide) rfl (fun ls hl => ?_)
  refine lv_iload_n hx hb dX2_latestDrift_12 rfl (lv_at hl 0 rfl) ?_
  refine ri_if_lt (a := (kk : Int)) (tgt := 25) hx hb (by omega) dX2_latestDrift_13 (by decide) (fun c13 => ?_) (fun c13 => ?_)
  · exact absurd c13 (by omega)
  · skip
    refine lv_aload_n hx hb dX2_latestDrift_16 rfl (lv_at hl 1 rfl) ?_
    refine va_get (D := g) (ci := 2) (v := .ref a2) (C := RX2) (T := TX2) (N := 16) hx hb hts inX2 hown hK.1 hP 0 rfl rfl 6 (by decide) f41 (fun _ h9 => h9) rfl dX2_latestDrift_17 ?_
    refine lv_iload_n hx hb dX2_latestDrift_20 rfl (lv_at hl 0 rfl) ?_
    refine ri_iald (F := sd) (i := (kk : Int)) hx hb hK.1 hP 5 0 rfl rfl (by omega) (by omega) dX2_latestDrift_21 ?_
    refine ri_ex (b := (sR cs kk)) (hRp kk (Nat.le_refl kk)).2.2.1 ?_
    refine lv_goto (tgt := 26) hx hb dX2_latestDrift_22 (by decide) ?_
    refine lv_istore_n (lv' := [(2, .int (iI (sR cs kk))), (1, .int (iI (kk : Int))), (0, .ref w)]) hx hb dX2_latestDrift_26 rfl hl (by decide) rfl (fun ls hl => ?_)
    refine lv_iload_n hx hb dX2_latestDrift_27 rfl (lv_at hl 0 rfl) ?_
    refine ri_if_ne (a := (sR cs kk)) (tgt := 33) hx hb (by omega) dX2_latestDrift_28 (by decide) (fun c28 => ?_) (fun c28 => ?_)
    · skip
      refine lv_iload_n hx hb dX2_latestDrift_33 rfl (lv_at hl 0 rfl) ?_
      refine lv_aload_n hx hb dX2_latestDrift_34 rfl (lv_at hl 2 rfl) ?_
      refine va_get (D := g) (ci := 2) (v := .int (iI (sH cs kk))) (C := RX2) (T := TX2) (N := 16) hx hb hts inX2 hown hK.1 hP 0 rfl rfl 12 (by decide) f56 (fun _ h9 => h9) rfl dX2_latestDrift_35 ?_
      refine ri_imul (a := (sR cs kk)) (b := (sH cs kk)) hx hb dX2_latestDrift_38 ?_
      refine lv_istore_n (lv' := [(3, .int (iI ((sR cs kk) * (sH cs kk)))), (2, .int (iI (sR cs kk))), (1, .int (iI (kk : Int))), (0, .ref w)]) hx hb dX2_latestDrift_39 rfl hl (by decide) rfl (fun ls hl => ?_)
      refine lv_iload_n hx hb dX2_latestDrift_40 rfl (lv_at hl 2 rfl) ?_
      refine lv_iconst (v := iI 1) hx hb dX2_latestDrift_41 rfl ?_
      refine ri_isub (a := (kk : Int)) (b := 1) hx hb dX2_latestDrift_42 ?_
      refine lv_istore (lv' := [(4, .int (iI ((kk : Int) - 1))), (3, .int (iI ((sR cs kk) * (sH cs kk)))), (2, .int (iI (sR cs kk))), (1, .int (iI (kk : Int))), (0, .ref w)]) hx hb dX2_latestDrift_43 hl (by decide) rfl (fun ls hl => ?_)
      have J45 : ∀ (n9 : Nat) (th : Int) (x3 : Int), th + 1 < (n9 : Int) → (0 ≤ th ∧ th ≤ (kk : Int) - 1) → (x3 = far cs (sR cs kk) kk ((kk : Int) - 1 - th).toNat) → (lat (dri cs kk) kk = lat (dri cs kk) (th + 1).toNat) → ∀ (ls : Array Slot), lv_has ls 6 [(0, .ref w), (1, .int (iI (kk : Int))), (2, .int (iI (sR cs kk))), (3, .int (iI x3)), (4, .int (iI th))] → W p l e rm_2 s m ([.ref w] : List Value).toArray below meth c s.heap [] 0 0 Q (F0 m 45 ls []) := by
        intro n9
        induction n9 with
        | zero => intro th x3 hm9 hi hx3 hl9; exact absurd hm9 (by omega)
        | succ n9 ih =>
          intro th x3 hm9 hi hx3 hl9 ls hl
          refine lv_iload hx hb dX2_latestDrift_45 (lv_at hl 4 rfl) ?_
          refine ri_if_le (a := th) (tgt := 116) hx hb (by omega) dX2_latestDrift_47 (by decide) (fun c47 => ?_) (fun c47 => ?_)
          · skip
            refine lv_iconst (v := iI (-1)) hx hb dX2_latestDrift_116 rfl ?_
            exact hret (iI (-1)) _ _ dX2_latestDrift_117 (by unfold drA; rw [if_neg c28, hl9, show (th + 1).toNat = 0 + 1 by omega, lat_n (fun q => absurd q.1 (by omega))]; rfl)
          · skip
            have h4 := hRp th.toNat (by omega)
            rw [Int.toNat_of_nonneg (by omega : 0 ≤ th)] at h4
            have b1 := sH_b cs th.toNat
            have b4 := sS_b hc th.toNat (fun i hi => hal i (by omega))
            have r1 := sR_b cs th.toNat
            have hd9 : sR cs kk = 1 ∨ sR cs kk = -1 := by omega
            have f9 := far_b cs (sR cs kk) hd9 kk ((kk : Int) - 1 - th).toNat
            have m2 : sR cs kk * sH cs th.toNat = sH cs th.toNat ∨ sR cs kk * sH cs th.toNat = -sH cs th.toNat := by rcases hd9 with h | h <;> rw [h] <;> omega
            have hfar : far cs (sR cs kk) kk (kk - th.toNat) = min x3 (sR cs kk * sH cs th.toNat) := by rw [show kk - th.toNat = ((kk : Int) - 1 - (th + -1)).toNat by omega, far_s (by omega) (by omega), hx3]
            refine lv_iload_n hx hb dX2_latestDrift_50 rfl (lv_at hl 2 rfl) ?_
            refine lv_aload_n hx hb dX2_latestDrift_51 rfl (lv_at hl 0 rfl) ?_
            refine va_get (D := g) (ci := 2) (v := .ref a0) (C := RX2) (T := TX2) (N := 16) hx hb hts inX2 hown hK.1 hP 0 rfl rfl 4 (by decide) f34 (fun _ h9 => h9) rfl dX2_latestDrift_52 ?_
            refine lv_iload hx hb dX2_latestDrift_55 (lv_at hl 4 rfl) ?_
            refine ri_iald (F := hs) (i := th) hx hb hK.1 hP 3 0 rfl rfl (by omega) (by omega) dX2_latestDrift_57 ?_
            refine ri_ex (b := (sH cs th.toNat)) h4.1 ?_
            refine ri_imul (a := (sR cs kk)) (b := (sH cs th.toNat)) hx hb dX2_latestDrift_58 ?_
            refine lv_istore (lv' := [(5, .int (iI ((sR cs kk) * (sH cs th.toNat)))), (0, .ref w), (1, .int (iI (kk : Int))), (2, .int (iI (sR cs kk))), (3, .int (iI x3)), (4, .int (iI th))]) hx hb dX2_latestDrift_59 hl (by decide) rfl (fun ls hl => ?_)
            refine lv_iload_n hx hb dX2_latestDrift_61 rfl (lv_at hl 4 rfl) ?_
            refine lv_iload hx hb dX2_latestDrift_62 (lv_at hl 0 rfl) ?_
            refine va_mmin hx hb (by rw [hml]; exact hl.1.symm) hown (hts (.methodLink RX2 9 Lib.Math.min.name) (by decide +kernel)) (hts (.static Lib.Math.min.name) (by decide +kernel)) (hts (.initialized "java/lang/Math") (by decide +kernel)) (hts (.code Lib.Math.min.name Lib.Math.min.code 2 (some .int)) (by decide +kernel)) (Nat.le_of_ble_eq_true rfl) (Nat.le_of_ble_eq_true rfl) (Nat.le_of_ble_eq_true rfl) (Nat.le_of_ble_eq_true rfl) dX2_latestDrift_64 ?_
            refine ri_top (iI_min (a := x3) (b := ((sR cs kk) * (sH cs th.toNat))) (by omega) (by omega)) ?_
            refine lv_istore_n (lv' := [(3, .int (iI (min x3 ((sR cs kk) * (sH cs th.toNat))))), (5, .int (iI ((sR cs kk) * (sH cs th.toNat)))), (0, .ref w), (1, .int (iI (kk : Int))), (2, .int (iI (sR cs kk))), (4, .int (iI th))]) hx hb dX2_latestDrift_67 rfl hl (by decide) rfl (fun ls hl => ?_)
            refine lv_aload_n hx hb dX2_latestDrift_68 rfl (lv_at hl 2 rfl) ?_
            refine va_get (D := g) (ci := 2) (v := .ref a2) (C := RX2) (T := TX2) (N := 16) hx hb hts inX2 hown hK.1 hP 0 rfl rfl 6 (by decide) f41 (fun _ h9 => h9) rfl dX2_latestDrift_69 ?_
            refine lv_iload hx hb dX2_latestDrift_72 (lv_at hl 5 rfl) ?_
            refine ri_iald (F := sd) (i := th) hx hb hK.1 hP 5 0 rfl rfl (by omega) (by omega) dX2_latestDrift_74 ?_
            refine ri_ex (b := (sR cs th.toNat)) h4.2.2.1 ?_
            refine lv_iload_n hx hb dX2_latestDrift_75 rfl (lv_at hl 4 rfl) ?_
            refine ri_icmp_ne (a := (sR cs th.toNat)) (b := (sR cs kk)) (tgt := 110) hx hb (by omega) (by omega) dX2_latestDrift_76 (by decide) (fun c76 => ?_) (fun c76 => ?_)
            · skip
              have hl8 : lat (dri cs kk) kk = lat (dri cs kk) (th + -1 + 1).toNat := by rw [hl9]; exact lat_1 (by omega) (fun q => c76 q.2.1)
              refine ri_iinc (x := th) (lv' := [(4, .int (iI (th + (-1)))), (3, .int (iI (min x3 ((sR cs kk) * (sH cs th.toNat))))), (5, .int (iI ((sR cs kk) * (sH cs th.toNat)))), (0, .ref w), (1, .int (iI (kk : Int))), (2, .int (iI (sR cs kk)))]) hx hb dX2_latestDrift_110 hl (k := 5) rfl (by decide) rfl (fun ls hl => ?_)
              refine lv_goto (tgt := 45) hx hb dX2_latestDrift_113 (by decide) ?_
              exact ih (th + (-1)) (min x3 ((sR cs kk) * (sH cs th.toNat))) (by omega) (by omega) (by rw [far_s (by omega) (by omega), hx3]) hl8 _ (lv_sub hl [3, 4, 5, 1, 0] rfl)
            · skip
              refine lv_aload_n hx hb dX2_latestDrift_79 rfl (lv_at hl 2 rfl) ?_
              refine va_get (D := g) (ci := 2) (v := .ref a1) (C := RX2) (T := TX2) (N := 16) hx hb hts inX2 hown hK.1 hP 0 rfl rfl 5 (by decide) f38 (fun _ h9 => h9) rfl dX2_latestDrift_80 ?_
              refine lv_iload hx hb dX2_latestDrift_83 (lv_at hl 5 rfl) ?_
              refine ri_iald (F := ss) (i := th) hx hb hK.1 hP 4 0 rfl rfl (by omega) (by omega) dX2_latestDrift_85 ?_
              refine ri_ex (b := (sS cs th.toNat)) h4.2.1 ?_
              refine lv_aload_n hx hb dX2_latestDrift_86 rfl (lv_at hl 2 rfl) ?_
              refine va_get (D := g) (ci := 2) (v := .int (iI (sS cs kk))) (C := RX2) (T := TX2) (N := 16) hx hb hts inX2 hown hK.1 hP 0 rfl rfl 11 (by decide) f53 (fun _ h9 => h9) rfl dX2_latestDrift_87 ?_
              refine ri_icmp_ne (a := (sS cs th.toNat)) (b := (sS cs kk)) (tgt := 110) hx hb (by omega) (by omega) dX2_latestDrift_90 (by decide) (fun c90 => ?_) (fun c90 => ?_)
              · skip
                have hl8 : lat (dri cs kk) kk = lat (dri cs kk) (th + -1 + 1).toNat := by rw [hl9]; exact lat_1 (by omega) (fun q => c90 q.2.2.1)
                refine ri_iinc (x := th) (lv' := [(4, .int (iI (th + (-1)))), (3, .int (iI (min x3 ((sR cs kk) * (sH cs th.toNat))))), (5, .int (iI ((sR cs kk) * (sH cs th.toNat)))), (0, .ref w), (1, .int (iI (kk : Int))), (2, .int (iI (sR cs kk)))]) hx hb dX2_latestDrift_110 hl (k := 5) rfl (by decide) rfl (fun ls hl => ?_)
                refine lv_goto (tgt := 45) hx hb dX2_latestDrift_113 (by decide) ?_
                exact ih (th + (-1)) (min x3 ((sR cs kk) * (sH cs th.toNat))) (by omega) (by omega) (by rw [far_s (by omega) (by omega), hx3]) hl8 _ (lv_sub hl [3, 4, 5, 1, 0] rfl)
              · skip
                refine lv_aload_n hx hb dX2_latestDrift_93 rfl (lv_at hl 2 rfl) ?_
                refine lv_iload hx hb dX2_latestDrift_94 (lv_at hl 5 rfl) ?_
                refine lv_iload_n hx hb dX2_latestDrift_96 rfl (lv_at hl 4 rfl) ?_
                refine lv_iload hx hb dX2_latestDrift_97 (lv_at hl 1 rfl) ?_
                refine lv_iload_n hx hb dX2_latestDrift_99 rfl (lv_at hl 0 rfl) ?_
                refine ri_isub (a := ((sR cs kk) * (sH cs th.toNat))) (b := (min x3 ((sR cs kk) * (sH cs th.toNat)))) hx hb dX2_latestDrift_100 ?_
                refine rc_P (own := RX2) (q := (RX2, TX2, 16)) (wc := [(w, .inr (2, [.int (iI 300), .int (iI 10), .ref t0, .ref t1, .ref a0, .ref a1, .ref a2, .int (iI o), .int (iI (kk : Int)), .int (iI pe), .int (iI dr), .int (iI (sS cs kk)), .int (iI (sH cs kk)), .int (iI on), .int (iI lf), .int (iI rt)])), (t0, .inl (k.2.1, 10, .inr (.inl (bW 300 (sT cs kk))))), (t1, .inl (k.2.1, 3010, .inr (.inl tps))), (a0, .inl (k.1, 301, .inl (iF hs))), (a1, .inl (k.1, 301, .inl (iF ss))), (a2, .inl (k.1, 301, .inl (iF sd)))]) (As := [.int (iI th), .int (iI (sR cs kk)), .int (iI (((sR cs kk) * (sH cs th.toNat)) - (min x3 ((sR cs kk) * (sH cs th.toNat)))))]) (rest := []) ⟨hx, hb, hml, hown, hts⟩ (c_sameBehind300 l g k w t0 t1 a0 a1 a2 o pe dr on lf rt tps hs ss sd cs hc kk hk1 hal hRp th (sR cs kk) ((sR cs kk * sH cs th.toNat) - (min x3 (sR cs kk * sH cs th.toNat))) (by omega) hd9 (by omega)) (cwV 3 hts gX2_latestDrift_X2_sameBehind rfl rfl rfl (by decide +kernel) ⟨Nat.le_of_ble_eq_true rfl, Nat.le_of_ble_eq_true rfl⟩) hK hP [0, 1, 2, 3, 4, 5] rfl (ci := 2) (q0 := 0) rfl rfl rfl rfl hl.1 (Nat.le_of_ble_eq_true rfl) ⟨Nat.le_of_ble_eq_true rfl, Nat.le_of_ble_eq_true rfl⟩ dX2_latestDrift_101 (fun r101 hr101 => ?_)
                obtain ⟨v101, e101, h101⟩ := hr101
                have hv101 : 0 ≤ v101 ∧ v101 ≤ 1 := by rcases h101 with ⟨h, -⟩ | ⟨h, -⟩ <;> omega
                refine ri_top (y := iI v101) e101 ?_
                refine ri_if_eq (a := v101) (tgt := 110) hx hb (by omega) dX2_latestDrift_104 (by decide) (fun c104 => ?_) (fun c104 => ?_)
                · skip
                  have hl8 : lat (dri cs kk) kk = lat (dri cs kk) (th + -1 + 1).toNat := by rw [hl9]; exact lat_1 (by omega) (fun q => by rcases h101 with ⟨e1, e2⟩ | ⟨e1, e2⟩; omega; exact e2 (fun j h1 h2 => q.2.2.2 j h1 (by rw [hfar]; exact h2)))
                  refine ri_iinc (x := th) (lv' := [(4, .int (iI (th + (-1)))), (3, .int (iI (min x3 ((sR cs kk) * (sH cs th.toNat))))), (5, .int (iI ((sR cs kk) * (sH cs th.toNat)))), (0, .ref w), (1, .int (iI (kk : Int))), (2, .int (iI (sR cs kk)))]) hx hb dX2_latestDrift_110 hl (k := 5) rfl (by decide) rfl (fun ls hl => ?_)
                  refine lv_goto (tgt := 45) hx hb dX2_latestDrift_113 (by decide) ?_
                  exact ih (th + (-1)) (min x3 ((sR cs kk) * (sH cs th.toNat))) (by omega) (by omega) (by rw [far_s (by omega) (by omega), hx3]) hl8 _ (lv_sub hl [3, 4, 5, 1, 0] rfl)
                · skip
                  refine lv_iload hx hb dX2_latestDrift_107 (lv_at hl 5 rfl) ?_
                  exact hret (iI th) _ _ dX2_latestDrift_109 (by unfold drA; rw [if_neg c28, hl9]; congr 1; refine (lat_h (by omega) ⟨by omega, by omega, by omega, ?_⟩).symm; rcases h101 with ⟨e1, e2⟩ | ⟨e1, e2⟩; exact (fun j h1 h2 => e2 j h1 (by rw [hfar] at h2; exact h2)); omega)
      exact J45 ((((kk : Int) - 1) + 1 : Int).toNat.succ) ((kk : Int) - 1) ((sR cs kk) * (sH cs kk)) (by omega) (by omega) (by rw [show ((kk : Int) - 1 - ((kk : Int) - 1)).toNat = 0 by omega]; rfl) (by rw [show ((kk : Int) - 1 + 1).toNat = kk by omega]) _ (lv_sub hl [4, 3, 2, 1, 0] rfl)
    · skip
      refine lv_iconst (v := iI (-1)) hx hb dX2_latestDrift_31 rfl ?_
      exact hret (iI (-1)) _ _ dX2_latestDrift_32 (by unfold drA; rw [if_pos c28])

set_option maxHeartbeats 4000000 in
set_option maxRecDepth 100000 in
theorem c_look300 (l : Launch) (g : va_G) (k : kT) (w t0 t1 a0 a1 a2 : Nat) (o pe dr on lf rt : Int) (tps : Nat → Int64) (hs ss sd : Int → Int) (cs : Int → Int) (hc : okC cs) (kk : Nat) (hk1 : 1 ≤ kk ∧ kk ≤ 300) (hal : alive cs kk) (hRp : Rp cs 300 10 kk tps hs ss sd) (sz : Nat) : cV l yX2_look wsX2_look rm_3 g k (wW300 k w t0 t1 a0 a1 a2 o (kk : Int) pe dr (sS cs kk) (sH cs kk) on lf rt (bW 300 (sT cs kk)) tps hs ss sd) sz [.ref w] 0 0 (fun u : Int × Int × Int => wW300 k w t0 t1 a0 a1 a2 u.1 (kk : Int) u.2.1 u.2.2 (sS cs kk) (sH cs kk) on lf rt (bW 300 (sT cs kk)) tps hs ss sd) (fun u => u = lkG cs kk o pe dr) := by
  refine st_V (by decide) rfl (Nat.le_of_ble_eq_true rfl) ?_
  intro p e s m below meth c Q A hx hb hml hown hts hin hA hP hD hS hK hret ls hl
  have hown : s.vm.findClass RX2 = some m.cls := hown
  have f34 := hts (.fieldLink RX2 34 "MachineTree$Walk" "heads" "[I") (by decide +kernel)
  have inX2 := (by decide +kernel : ∀ w ∈ wsX20, w ∈ wsX2_look)
  have f50 := hts (.fieldLink RX2 50 "MachineTree$Walk" "outcome" "I") (by decide +kernel)
  have f47 := hts (.fieldLink RX2 47 "MachineTree$Walk" "steps" "I") (by decide +kernel)
  have f85 := hts (.fieldLink RX2 85 "MachineTree$Walk" "period" "I") (by decide +kernel)
  have f56 := hts (.fieldLink RX2 56 "MachineTree$Walk" "head" "I") (by decide +kernel)
  have f88 := hts (.fieldLink RX2 88 "MachineTree$Walk" "drift" "I") (by decide +kernel)
  have hl : lv_has ls 3 [(0, .ref w)] := hl
  obtain ⟨H, hH⟩ : ∃ H, H = s.heap := ⟨_, rfl⟩
  obtain ⟨locs, hlo⟩ : ∃ L : List Loc, L = [] := ⟨_, rfl⟩
  rw [← hH] at hP
  have hS : va_S A s.heap H locs := by rw [hH, hlo]; exact hS
  rw [show W p l e rm_3 s m ([.ref w] : List Value).toArray below meth c s.heap [] 0 0 Q (F0 m 0 ls []) = W p l e rm_3 s m ([.ref w] : List Value).toArray below meth c H locs 0 0 Q (F0 m 0 ls []) by rw [hH, hlo]]
  clear hH hlo
  have y1 := cyA_b cs kk
  have y2 := drA_b cs kk
  refine lv_aload_n hx hb dX2_look_0 rfl (lv_at hl 0 rfl) ?_
  refine rc_P (own := RX2) (q := (RX2, TX2, 16)) (wc := [(w, .inr (2, [.int (iI 300), .int (iI 10), .ref t0, .ref t1, .ref a0, .ref a1, .ref a2, .int (iI o), .int (iI (kk : Int)), .int (iI pe), .int (iI dr), .int (iI (sS cs kk)), .int (iI (sH cs kk)), .int (iI on), .int (iI lf), .int (iI rt)])), (t0, .inl (k.2.1, 10, .inr (.inl (bW 300 (sT cs kk))))), (t1, .inl (k.2.1, 3010, .inr (.inl tps))), (a0, .inl (k.1, 301, .inl (iF hs))), (a1, .inl (k.1, 301, .inl (iF ss))), (a2, .inl (k.1, 301, .inl (iF sd)))]) (As := []) (rest := []) ⟨hx, hb, hml, hown, hts⟩ (c_latestSame300 l g k w t0 t1 a0 a1 a2 o pe dr on lf rt tps hs ss sd cs hc kk hk1 hal hRp) (cwV 0 hts gX2_look_X2_latestSame rfl rfl rfl (by decide +kernel) ⟨Nat.le_of_ble_eq_true rfl, Nat.le_of_ble_eq_true rfl⟩) hK hP [0, 1, 2, 3, 4, 5] rfl (ci := 2) (q0 := 0) rfl rfl rfl rfl hl.1 (Nat.le_of_ble_eq_true rfl) ⟨Nat.le_of_ble_eq_true rfl, Nat.le_of_ble_eq_true rfl⟩ dX2_look_1 (fun r1 hr1 => ?_)
  refine ri_top (y := iI (cyA cs kk)) hr1 ?_
  refine lv_istore_n (lv' := [(1, .int (iI (cyA cs kk))), (0, .ref w)]) hx hb dX2_look_4 rfl hl (by decide) rfl (fun ls hl => ?_)
  refine lv_iload_n hx hb dX2_look_5 rfl (lv_at hl 0 rfl) ?_
  refine ri_if_lt (a := (cyA cs kk)) (tgt := 25) hx hb (by omega) dX2_look_6 (by decide) (fun c6 => ?_) (fun c6 => ?_)
  · skip
    refine lv_aload_n hx hb dX2_look_25 rfl (lv_at hl 1 rfl) ?_
    refine rc_P (own := RX2) (q := (RX2, TX2, 16)) (wc := [(w, .inr (2, [.int (iI 300), .int (iI 10), .ref t0, .ref t1, .ref a0, .ref a1, .ref a2, .int (iI o), .int (iI (kk : Int)), .int (iI pe), .int (iI dr), .int (iI (sS cs kk)), .int (iI (sH cs kk)), .int (iI on), .int (iI lf), .int (iI rt)])), (t0, .inl (k.2.1, 10, .inr (.inl (bW 300 (sT cs kk))))), (t1, .inl (k.2.1, 3010, .inr (.inl tps))), (a0, .inl (k.1, 301, .inl (iF hs))), (a1, .inl (k.1, 301, .inl (iF ss))), (a2, .inl (k.1, 301, .inl (iF sd)))]) (As := []) (rest := []) ⟨hx, hb, hml, hown, hts⟩ (c_latestDrift300 l g k w t0 t1 a0 a1 a2 o pe dr on lf rt tps hs ss sd cs hc kk hk1 hal hRp) (cwV 0 hts gX2_look_X2_latestDrift rfl rfl rfl (by decide +kernel) ⟨Nat.le_of_ble_eq_true rfl, Nat.le_of_ble_eq_true rfl⟩) hK hP [0, 1, 2, 3, 4, 5] rfl (ci := 2) (q0 := 0) rfl rfl rfl rfl hl.1 (Nat.le_of_ble_eq_true rfl) ⟨Nat.le_of_ble_eq_true rfl, Nat.le_of_ble_eq_true rfl⟩ dX2_look_26 (fun r26 hr26 => ?_)
    refine ri_top (y := iI (drA cs kk)) hr26 ?_
    refine lv_istore_n (lv' := [(2, .int (iI (drA cs kk))), (1, .int (iI (cyA cs kk))), (0, .ref w)]) hx hb dX2_look_29 rfl hl (by decide) rfl (fun ls hl => ?_)
    refine lv_iload_n hx hb dX2_look_30 rfl (lv_at hl 0 rfl) ?_
    refine ri_if_lt (a := (drA cs kk)) (tgt := 73) hx hb (by omega) dX2_look_31 (by decide) (fun c31 => ?_) (fun c31 => ?_)
    · skip
      exact hret (o, pe, dr) _ _ _ _ dX2_look_73 (by show _ = lkG cs kk o pe dr; unfold lkG; rw [if_neg (by omega), if_neg (by omega)]) hP hD hS
    · skip
      refine lv_iload_n hx hb dX2_look_34 rfl (lv_at hl 0 rfl) ?_
      refine lv_aload_n hx hb dX2_look_35 rfl (lv_at hl 2 rfl) ?_
      refine va_get (D := g) (ci := 2) (v := .ref a0) (C := RX2) (T := TX2) (N := 16) hx hb hts inX2 hown hK.1 hP 0 rfl rfl 4 (by decide) f34 (fun _ h9 => h9) rfl dX2_look_36 ?_
      refine ri_alen hx hb hK.1 hP 3 0 rfl rfl dX2_look_39 ?_
      refine ri_ex (b := 301) rfl ?_
      refine ri_icmp_ge (a := (drA cs kk)) (b := 301) (tgt := 73) hx hb (by omega) (by omega) dX2_look_40 (by decide) (fun c40 => ?_) (fun c40 => ?_)
      · exact absurd c40 (by omega)
      · skip
        refine lv_aload_n hx hb dX2_look_43 rfl (lv_at hl 2 rfl) ?_
        refine lv_iconst (v := iI 3) hx hb dX2_look_44 rfl ?_
        refine va_put (D := g) (ci := 2) (v := .int (iI 3)) (ty := .int) (C := RX2) (T := TX2) (N := 16) hx hb hts inX2 tyX2 tyX2_ok nmX2 hown hK.1 hP hD hS 0 rfl rfl 7 (by decide) f50 (fun _ h9 => h9) rfl (by decide +kernel) rfl rfl (Nat.le_of_ble_eq_true rfl) dX2_look_45 (fun H locs hP hD hS => ?_)
        have hP : va_P g vwCl [(w, .inr (2, [.int (iI 300), .int (iI 10), .ref t0, .ref t1, .ref a0, .ref a1, .ref a2, .int (iI 3), .int (iI (kk : Int)), .int (iI pe), .int (iI dr), .int (iI (sS cs kk)), .int (iI (sH cs kk)), .int (iI on), .int (iI lf), .int (iI rt)])), (t0, .inl (k.2.1, 10, .inr (.inl (bW 300 (sT cs kk))))), (t1, .inl (k.2.1, 3010, .inr (.inl tps))), (a0, .inl (k.1, 301, .inl (iF hs))), (a1, .inl (k.1, 301, .inl (iF ss))), (a2, .inl (k.1, 301, .inl (iF sd)))] H := hP
        have hD : va_D A [(w, .inr (2, [.int (iI 300), .int (iI 10), .ref t0, .ref t1, .ref a0, .ref a1, .ref a2, .int (iI 3), .int (iI (kk : Int)), .int (iI pe), .int (iI dr), .int (iI (sS cs kk)), .int (iI (sH cs kk)), .int (iI on), .int (iI lf), .int (iI rt)])), (t0, .inl (k.2.1, 10, .inr (.inl (bW 300 (sT cs kk))))), (t1, .inl (k.2.1, 3010, .inr (.inl tps))), (a0, .inl (k.1, 301, .inl (iF hs))), (a1, .inl (k.1, 301, .inl (iF ss))), (a2, .inl (k.1, 301, .inl (iF sd)))] := hD
        refine lv_aload_n hx hb dX2_look_48 rfl (lv_at hl 2 rfl) ?_
        refine lv_aload_n hx hb dX2_look_49 rfl (lv_at hl 2 rfl) ?_
        refine va_get (D := g) (ci := 2) (v := .int (iI (kk : Int))) (C := RX2) (T := TX2) (N := 16) hx hb hts inX2 hown hK.1 hP 0 rfl rfl 8 (by decide) f47 (fun _ h9 => h9) rfl dX2_look_50 ?_
        refine lv_iload_n hx hb dX2_look_53 rfl (lv_at hl 0 rfl) ?_
        refine ri_isub (a := (kk : Int)) (b := (drA cs kk)) hx hb dX2_look_54 ?_
        refine va_put (D := g) (ci := 2) (v := .int (iI ((kk : Int) - (drA cs kk)))) (ty := .int) (C := RX2) (T := TX2) (N := 16) hx hb hts inX2 tyX2 tyX2_ok nmX2 hown hK.1 hP hD hS 0 rfl rfl 9 (by decide) f85 (fun _ h9 => h9) rfl (by decide +kernel) rfl rfl (Nat.le_of_ble_eq_true rfl) dX2_look_55 (fun H locs hP hD hS => ?_)
        have hP : va_P g vwCl [(w, .inr (2, [.int (iI 300), .int (iI 10), .ref t0, .ref t1, .ref a0, .ref a1, .ref a2, .int (iI 3), .int (iI (kk : Int)), .int (iI ((kk : Int) - (drA cs kk))), .int (iI dr), .int (iI (sS cs kk)), .int (iI (sH cs kk)), .int (iI on), .int (iI lf), .int (iI rt)])), (t0, .inl (k.2.1, 10, .inr (.inl (bW 300 (sT cs kk))))), (t1, .inl (k.2.1, 3010, .inr (.inl tps))), (a0, .inl (k.1, 301, .inl (iF hs))), (a1, .inl (k.1, 301, .inl (iF ss))), (a2, .inl (k.1, 301, .inl (iF sd)))] H := hP
        have hD : va_D A [(w, .inr (2, [.int (iI 300), .int (iI 10), .ref t0, .ref t1, .ref a0, .ref a1, .ref a2, .int (iI 3), .int (iI (kk : Int)), .int (iI ((kk : Int) - (drA cs kk))), .int (iI dr), .int (iI (sS cs kk)), .int (iI (sH cs kk)), .int (iI on), .int (iI lf), .int (iI rt)])), (t0, .inl (k.2.1, 10, .inr (.inl (bW 300 (sT cs kk))))), (t1, .inl (k.2.1, 3010, .inr (.inl tps))), (a0, .inl (k.1, 301, .inl (iF hs))), (a1, .inl (k.1, 301, .inl (iF ss))), (a2, .inl (k.1, 301, .inl (iF sd)))] := hD
        refine lv_aload_n hx hb dX2_look_58 rfl (lv_at hl 2 rfl) ?_
        refine lv_aload_n hx hb dX2_look_59 rfl (lv_at hl 2 rfl) ?_
        refine va_get (D := g) (ci := 2) (v := .int (iI (sH cs kk))) (C := RX2) (T := TX2) (N := 16) hx hb hts inX2 hown hK.1 hP 0 rfl rfl 12 (by decide) f56 (fun _ h9 => h9) rfl dX2_look_60 ?_
        refine lv_aload_n hx hb dX2_look_63 rfl (lv_at hl 2 rfl) ?_
        refine va_get (D := g) (ci := 2) (v := .ref a0) (C := RX2) (T := TX2) (N := 16) hx hb hts inX2 hown hK.1 hP 0 rfl rfl 4 (by decide) f34 (fun _ h9 => h9) rfl dX2_look_64 ?_
        refine lv_iload_n hx hb dX2_look_67 rfl (lv_at hl 0 rfl) ?_
        refine ri_iald (F := hs) (i := (drA cs kk)) hx hb hK.1 hP 3 0 rfl rfl (by omega) (by omega) dX2_look_68 ?_
        refine ri_ex (b := (sH cs (drA cs kk).toNat)) (by have h := (hRp (drA cs kk).toNat (by omega)).1; rw [Int.toNat_of_nonneg (by omega)] at h; exact h) ?_
        refine ri_isub (a := (sH cs kk)) (b := (sH cs (drA cs kk).toNat)) hx hb dX2_look_69 ?_
        refine va_put (D := g) (ci := 2) (v := .int (iI ((sH cs kk) - (sH cs (drA cs kk).toNat)))) (ty := .int) (C := RX2) (T := TX2) (N := 16) hx hb hts inX2 tyX2 tyX2_ok nmX2 hown hK.1 hP hD hS 0 rfl rfl 10 (by decide) f88 (fun _ h9 => h9) rfl (by decide +kernel) rfl rfl (Nat.le_of_ble_eq_true rfl) dX2_look_70 (fun H locs hP hD hS => ?_)
        have hP : va_P g vwCl [(w, .inr (2, [.int (iI 300), .int (iI 10), .ref t0, .ref t1, .ref a0, .ref a1, .ref a2, .int (iI 3), .int (iI (kk : Int)), .int (iI ((kk : Int) - (drA cs kk))), .int (iI ((sH cs kk) - (sH cs (drA cs kk).toNat))), .int (iI (sS cs kk)), .int (iI (sH cs kk)), .int (iI on), .int (iI lf), .int (iI rt)])), (t0, .inl (k.2.1, 10, .inr (.inl (bW 300 (sT cs kk))))), (t1, .inl (k.2.1, 3010, .inr (.inl tps))), (a0, .inl (k.1, 301, .inl (iF hs))), (a1, .inl (k.1, 301, .inl (iF ss))), (a2, .inl (k.1, 301, .inl (iF sd)))] H := hP
        have hD : va_D A [(w, .inr (2, [.int (iI 300), .int (iI 10), .ref t0, .ref t1, .ref a0, .ref a1, .ref a2, .int (iI 3), .int (iI (kk : Int)), .int (iI ((kk : Int) - (drA cs kk))), .int (iI ((sH cs kk) - (sH cs (drA cs kk).toNat))), .int (iI (sS cs kk)), .int (iI (sH cs kk)), .int (iI on), .int (iI lf), .int (iI rt)])), (t0, .inl (k.2.1, 10, .inr (.inl (bW 300 (sT cs kk))))), (t1, .inl (k.2.1, 3010, .inr (.inl tps))), (a0, .inl (k.1, 301, .inl (iF hs))), (a1, .inl (k.1, 301, .inl (iF ss))), (a2, .inl (k.1, 301, .inl (iF sd)))] := hD
        exact hret (3, ((kk : Int) - (drA cs kk)), ((sH cs kk) - (sH cs (drA cs kk).toNat))) _ _ _ _ dX2_look_73 (by show _ = lkG cs kk o pe dr; unfold lkG; rw [if_neg (by omega), if_pos (by omega)]) hP hD hS
  · skip
    refine lv_aload_n hx hb dX2_look_9 rfl (lv_at hl 1 rfl) ?_
    refine lv_iconst (v := iI 2) hx hb dX2_look_10 rfl ?_
    refine va_put (D := g) (ci := 2) (v := .int (iI 2)) (ty := .int) (C := RX2) (T := TX2) (N := 16) hx hb hts inX2 tyX2 tyX2_ok nmX2 hown hK.1 hP hD hS 0 rfl rfl 7 (by decide) f50 (fun _ h9 => h9) rfl (by decide +kernel) rfl rfl (Nat.le_of_ble_eq_true rfl) dX2_look_11 (fun H locs hP hD hS => ?_)
    have hP : va_P g vwCl [(w, .inr (2, [.int (iI 300), .int (iI 10), .ref t0, .ref t1, .ref a0, .ref a1, .ref a2, .int (iI 2), .int (iI (kk : Int)), .int (iI pe), .int (iI dr), .int (iI (sS cs kk)), .int (iI (sH cs kk)), .int (iI on), .int (iI lf), .int (iI rt)])), (t0, .inl (k.2.1, 10, .inr (.inl (bW 300 (sT cs kk))))), (t1, .inl (k.2.1, 3010, .inr (.inl tps))), (a0, .inl (k.1, 301, .inl (iF hs))), (a1, .inl (k.1, 301, .inl (iF ss))), (a2, .inl (k.1, 301, .inl (iF sd)))] H := hP
    have hD : va_D A [(w, .inr (2, [.int (iI 300), .int (iI 10), .ref t0, .ref t1, .ref a0, .ref a1, .ref a2, .int (iI 2), .int (iI (kk : Int)), .int (iI pe), .int (iI dr), .int (iI (sS cs kk)), .int (iI (sH cs kk)), .int (iI on), .int (iI lf), .int (iI rt)])), (t0, .inl (k.2.1, 10, .inr (.inl (bW 300 (sT cs kk))))), (t1, .inl (k.2.1, 3010, .inr (.inl tps))), (a0, .inl (k.1, 301, .inl (iF hs))), (a1, .inl (k.1, 301, .inl (iF ss))), (a2, .inl (k.1, 301, .inl (iF sd)))] := hD
    refine lv_aload_n hx hb dX2_look_14 rfl (lv_at hl 1 rfl) ?_
    refine lv_aload_n hx hb dX2_look_15 rfl (lv_at hl 1 rfl) ?_
    refine va_get (D := g) (ci := 2) (v := .int (iI (kk : Int))) (C := RX2) (T := TX2) (N := 16) hx hb hts inX2 hown hK.1 hP 0 rfl rfl 8 (by decide) f47 (fun _ h9 => h9) rfl dX2_look_16 ?_
    refine lv_iload_n hx hb dX2_look_19 rfl (lv_at hl 0 rfl) ?_
    refine ri_isub (a := (kk : Int)) (b := (cyA cs kk)) hx hb dX2_look_20 ?_
    refine va_put (D := g) (ci := 2) (v := .int (iI ((kk : Int) - (cyA cs kk)))) (ty := .int) (C := RX2) (T := TX2) (N := 16) hx hb hts inX2 tyX2 tyX2_ok nmX2 hown hK.1 hP hD hS 0 rfl rfl 9 (by decide) f85 (fun _ h9 => h9) rfl (by decide +kernel) rfl rfl (Nat.le_of_ble_eq_true rfl) dX2_look_21 (fun H locs hP hD hS => ?_)
    have hP : va_P g vwCl [(w, .inr (2, [.int (iI 300), .int (iI 10), .ref t0, .ref t1, .ref a0, .ref a1, .ref a2, .int (iI 2), .int (iI (kk : Int)), .int (iI ((kk : Int) - (cyA cs kk))), .int (iI dr), .int (iI (sS cs kk)), .int (iI (sH cs kk)), .int (iI on), .int (iI lf), .int (iI rt)])), (t0, .inl (k.2.1, 10, .inr (.inl (bW 300 (sT cs kk))))), (t1, .inl (k.2.1, 3010, .inr (.inl tps))), (a0, .inl (k.1, 301, .inl (iF hs))), (a1, .inl (k.1, 301, .inl (iF ss))), (a2, .inl (k.1, 301, .inl (iF sd)))] H := hP
    have hD : va_D A [(w, .inr (2, [.int (iI 300), .int (iI 10), .ref t0, .ref t1, .ref a0, .ref a1, .ref a2, .int (iI 2), .int (iI (kk : Int)), .int (iI ((kk : Int) - (cyA cs kk))), .int (iI dr), .int (iI (sS cs kk)), .int (iI (sH cs kk)), .int (iI on), .int (iI lf), .int (iI rt)])), (t0, .inl (k.2.1, 10, .inr (.inl (bW 300 (sT cs kk))))), (t1, .inl (k.2.1, 3010, .inr (.inl tps))), (a0, .inl (k.1, 301, .inl (iF hs))), (a1, .inl (k.1, 301, .inl (iF ss))), (a2, .inl (k.1, 301, .inl (iF sd)))] := hD
    exact hret (2, ((kk : Int) - (cyA cs kk)), dr) _ _ _ _ dX2_look_24 (by show _ = lkG cs kk o pe dr; unfold lkG; rw [if_pos (by omega)]) hP hD hS
end
