section
-- ===== PART A: goes FIRST, ahead of the names: the tables' words, and 'selects' of the private methods out of them =====
/-- a private method of a class that the tables say can be made, by its rows of tables_1 -/
def lw_okq (q : MethodName × Nat) : Prop := (q.1.cls ≠ "java/lang/invoke/MethodHandle" ∧ q.1.cls ≠ "java/lang/invoke/VarHandle") ∧ Cond.instantiable q.1.cls q.2 ∈ tables_1 ∧ Cond.privateMethod q.1 ∈ tables_1 ∧ Cond.instanceMethod q.1 ∈ tables_1
theorem lw_p0 : lw_okq (⟨"java/lang/Throwable", "fillInStackTrace", "(I)Ljava/lang/Throwable;"⟩, 6) := ⟨⟨by decide +kernel, by decide +kernel⟩, List.mem_of_getElem? (i := 218) (by decide +kernel), List.mem_of_getElem? (i := 216) (by decide +kernel), List.mem_of_getElem? (i := 217) (by decide +kernel)⟩
theorem lw_p1 : lw_okq (⟨"DayCutPlans", "forgetSearch", "()V"⟩, 6) := ⟨⟨by decide +kernel, by decide +kernel⟩, List.mem_of_getElem? (i := 14) (by decide +kernel), List.mem_of_getElem? (i := 268) (by decide +kernel), List.mem_of_getElem? (i := 269) (by decide +kernel)⟩
theorem lw_p2 : lw_okq (⟨"DayCutPlans$Search", "goThroughPlans", "(II)V"⟩, 15) := ⟨⟨by decide +kernel, by decide +kernel⟩, List.mem_of_getElem? (i := 92) (by decide +kernel), List.mem_of_getElem? (i := 324) (by decide +kernel), List.mem_of_getElem? (i := 325) (by decide +kernel)⟩
theorem lw_p3 : lw_okq (⟨"DayCutPlans$Search", "startWithEmptyPlan", "()V"⟩, 15) := ⟨⟨by decide +kernel, by decide +kernel⟩, List.mem_of_getElem? (i := 92) (by decide +kernel), List.mem_of_getElem? (i := 328) (by decide +kernel), List.mem_of_getElem? (i := 329) (by decide +kernel)⟩
theorem lw_p4 : lw_okq (⟨"DayCutPlans$Search", "takeOrders", "(I)V"⟩, 15) := ⟨⟨by decide +kernel, by decide +kernel⟩, List.mem_of_getElem? (i := 92) (by decide +kernel), List.mem_of_getElem? (i := 332) (by decide +kernel), List.mem_of_getElem? (i := 333) (by decide +kernel)⟩
theorem lw_p5 : lw_okq (⟨"DayCutPlans$Search", "tellPatternsFrom", "(I)V"⟩, 15) := ⟨⟨by decide +kernel, by decide +kernel⟩, List.mem_of_getElem? (i := 92) (by decide +kernel), List.mem_of_getElem? (i := 336) (by decide +kernel), List.mem_of_getElem? (i := 337) (by decide +kernel)⟩
theorem lw_p6 : lw_okq (⟨"DayCutPlans$Search", "lookAtPlan", "()V"⟩, 15) := ⟨⟨by decide +kernel, by decide +kernel⟩, List.mem_of_getElem? (i := 92) (by decide +kernel), List.mem_of_getElem? (i := 340) (by decide +kernel), List.mem_of_getElem? (i := 341) (by decide +kernel)⟩
theorem lw_p7 : lw_okq (⟨"DayCutPlans$Search", "fillsOrders", "()Z"⟩, 15) := ⟨⟨by decide +kernel, by decide +kernel⟩, List.mem_of_getElem? (i := 92) (by decide +kernel), List.mem_of_getElem? (i := 344) (by decide +kernel), List.mem_of_getElem? (i := 345) (by decide +kernel)⟩
theorem lw_p8 : lw_okq (⟨"DayCutPlans$Search", "gainOfPlan", "()I"⟩, 15) := ⟨⟨by decide +kernel, by decide +kernel⟩, List.mem_of_getElem? (i := 92) (by decide +kernel), List.mem_of_getElem? (i := 348) (by decide +kernel), List.mem_of_getElem? (i := 349) (by decide +kernel)⟩
theorem lw_p9 : lw_okq (⟨"DayCutPlans$Search", "takeStep", "(I)V"⟩, 15) := ⟨⟨by decide +kernel, by decide +kernel⟩, List.mem_of_getElem? (i := 92) (by decide +kernel), List.mem_of_getElem? (i := 358) (by decide +kernel), List.mem_of_getElem? (i := 359) (by decide +kernel)⟩
theorem lw_p10 : lw_okq (⟨"DayCutPlans$Search", "oneLogMoreFits", "(I)Z"⟩, 15) := ⟨⟨by decide +kernel, by decide +kernel⟩, List.mem_of_getElem? (i := 92) (by decide +kernel), List.mem_of_getElem? (i := 362) (by decide +kernel), List.mem_of_getElem? (i := 363) (by decide +kernel)⟩
theorem lw_p11 : lw_okq (⟨"DayCutPlans$Search", "minutesOfNextLog", "(I)I"⟩, 15) := ⟨⟨by decide +kernel, by decide +kernel⟩, List.mem_of_getElem? (i := 92) (by decide +kernel), List.mem_of_getElem? (i := 366) (by decide +kernel), List.mem_of_getElem? (i := 367) (by decide +kernel)⟩
theorem lw_p12 : lw_okq (⟨"DayCutPlans$Search", "addLog", "(I)V"⟩, 15) := ⟨⟨by decide +kernel, by decide +kernel⟩, List.mem_of_getElem? (i := 92) (by decide +kernel), List.mem_of_getElem? (i := 370) (by decide +kernel), List.mem_of_getElem? (i := 371) (by decide +kernel)⟩
theorem lw_p13 : lw_okq (⟨"DayCutPlans$Search", "takeLogsBack", "(I)V"⟩, 15) := ⟨⟨by decide +kernel, by decide +kernel⟩, List.mem_of_getElem? (i := 92) (by decide +kernel), List.mem_of_getElem? (i := 374) (by decide +kernel), List.mem_of_getElem? (i := 375) (by decide +kernel)⟩
theorem lw_p14 : lw_okq (⟨"DayCutPlans$Yard", "boundOfGain", "()I"⟩, 12) := ⟨⟨by decide +kernel, by decide +kernel⟩, List.mem_of_getElem? (i := 22) (by decide +kernel), List.mem_of_getElem? (i := 386) (by decide +kernel), List.mem_of_getElem? (i := 387) (by decide +kernel)⟩
theorem lw_p15 : lw_okq (⟨"DayCutPlans$Yard", "minutesOf", "([I)I"⟩, 12) := ⟨⟨by decide +kernel, by decide +kernel⟩, List.mem_of_getElem? (i := 22) (by decide +kernel), List.mem_of_getElem? (i := 408) (by decide +kernel), List.mem_of_getElem? (i := 409) (by decide +kernel)⟩
def lw_privs_1 : List (MethodName × Nat) := [(⟨"java/lang/Throwable", "fillInStackTrace", "(I)Ljava/lang/Throwable;"⟩, 6), (⟨"DayCutPlans", "forgetSearch", "()V"⟩, 6), (⟨"DayCutPlans$Search", "goThroughPlans", "(II)V"⟩, 15), (⟨"DayCutPlans$Search", "startWithEmptyPlan", "()V"⟩, 15), (⟨"DayCutPlans$Search", "takeOrders", "(I)V"⟩, 15), (⟨"DayCutPlans$Search", "tellPatternsFrom", "(I)V"⟩, 15), (⟨"DayCutPlans$Search", "lookAtPlan", "()V"⟩, 15), (⟨"DayCutPlans$Search", "fillsOrders", "()Z"⟩, 15), (⟨"DayCutPlans$Search", "gainOfPlan", "()I"⟩, 15), (⟨"DayCutPlans$Search", "takeStep", "(I)V"⟩, 15), (⟨"DayCutPlans$Search", "oneLogMoreFits", "(I)Z"⟩, 15), (⟨"DayCutPlans$Search", "minutesOfNextLog", "(I)I"⟩, 15), (⟨"DayCutPlans$Search", "addLog", "(I)V"⟩, 15), (⟨"DayCutPlans$Search", "takeLogsBack", "(I)V"⟩, 15), (⟨"DayCutPlans$Yard", "boundOfGain", "()I"⟩, 12), (⟨"DayCutPlans$Yard", "minutesOf", "([I)I"⟩, 12)]
theorem lw_r1 : ∀ q ∈ lw_privs_1, lw_okq q := List.forall_mem_cons.mpr ⟨lw_p0, List.forall_mem_cons.mpr ⟨lw_p1, List.forall_mem_cons.mpr ⟨lw_p2, List.forall_mem_cons.mpr ⟨lw_p3, List.forall_mem_cons.mpr ⟨lw_p4, List.forall_mem_cons.mpr ⟨lw_p5, List.forall_mem_cons.mpr ⟨lw_p6, List.forall_mem_cons.mpr ⟨lw_p7, List.forall_mem_cons.mpr ⟨lw_p8, List.forall_mem_cons.mpr ⟨lw_p9, List.forall_mem_cons.mpr ⟨lw_p10, List.forall_mem_cons.mpr ⟨lw_p11, List.forall_mem_cons.mpr ⟨lw_p12, List.forall_mem_cons.mpr ⟨lw_p13, List.forall_mem_cons.mpr ⟨lw_p14, List.forall_mem_cons.mpr ⟨lw_p15, fun _ h => absurd h List.not_mem_nil⟩⟩⟩⟩⟩⟩⟩⟩⟩⟩⟩⟩⟩⟩⟩⟩
theorem lw_p16 : lw_okq (⟨"DayCutPlans$Yard", "patternsUsedIn", "([I)I"⟩, 12) := ⟨⟨by decide +kernel, by decide +kernel⟩, List.mem_of_getElem? (i := 22) (by decide +kernel), List.mem_of_getElem? (i := 412) (by decide +kernel), List.mem_of_getElem? (i := 413) (by decide +kernel)⟩
theorem lw_p17 : lw_okq (⟨"DayCutPlans$Yard", "madeBy", "([II)I"⟩, 12) := ⟨⟨by decide +kernel, by decide +kernel⟩, List.mem_of_getElem? (i := 22) (by decide +kernel), List.mem_of_getElem? (i := 424) (by decide +kernel), List.mem_of_getElem? (i := 425) (by decide +kernel)⟩
theorem lw_p18 : lw_okq (⟨"DayCutPlans$Yard", "doPlan", "([I)V"⟩, 12) := ⟨⟨by decide +kernel, by decide +kernel⟩, List.mem_of_getElem? (i := 22) (by decide +kernel), List.mem_of_getElem? (i := 435) (by decide +kernel), List.mem_of_getElem? (i := 436) (by decide +kernel)⟩
theorem lw_p19 : lw_okq (⟨"DayCutPlans", "gainOfTrial", "(II)I"⟩, 6) := ⟨⟨by decide +kernel, by decide +kernel⟩, List.mem_of_getElem? (i := 14) (by decide +kernel), List.mem_of_getElem? (i := 455) (by decide +kernel), List.mem_of_getElem? (i := 456) (by decide +kernel)⟩
theorem lw_p20 : lw_okq (⟨"DayCutPlansModel", "forget", "()V"⟩, 27) := ⟨⟨by decide +kernel, by decide +kernel⟩, List.mem_of_getElem? (i := 459) (by decide +kernel), List.mem_of_getElem? (i := 559) (by decide +kernel), List.mem_of_getElem? (i := 560) (by decide +kernel)⟩
theorem lw_p21 : lw_okq (⟨"DayCutPlansModel", "isPattern", "(I)Z"⟩, 27) := ⟨⟨by decide +kernel, by decide +kernel⟩, List.mem_of_getElem? (i := 459) (by decide +kernel), List.mem_of_getElem? (i := 571) (by decide +kernel), List.mem_of_getElem? (i := 572) (by decide +kernel)⟩
theorem lw_p22 : lw_okq (⟨"DayCutPlansModel", "seek", "(I)V"⟩, 27) := ⟨⟨by decide +kernel, by decide +kernel⟩, List.mem_of_getElem? (i := 459) (by decide +kernel), List.mem_of_getElem? (i := 587) (by decide +kernel), List.mem_of_getElem? (i := 588) (by decide +kernel)⟩
theorem lw_p23 : lw_okq (⟨"DayCutPlansModel", "look", "()V"⟩, 27) := ⟨⟨by decide +kernel, by decide +kernel⟩, List.mem_of_getElem? (i := 459) (by decide +kernel), List.mem_of_getElem? (i := 591) (by decide +kernel), List.mem_of_getElem? (i := 592) (by decide +kernel)⟩
theorem lw_p24 : lw_okq (⟨"DayCutPlansModel", "madeOf", "([II)I"⟩, 27) := ⟨⟨by decide +kernel, by decide +kernel⟩, List.mem_of_getElem? (i := 459) (by decide +kernel), List.mem_of_getElem? (i := 595) (by decide +kernel), List.mem_of_getElem? (i := 596) (by decide +kernel)⟩
theorem lw_p25 : lw_okq (⟨"DayCutPlansModel", "fits", "(I)Z"⟩, 27) := ⟨⟨by decide +kernel, by decide +kernel⟩, List.mem_of_getElem? (i := 459) (by decide +kernel), List.mem_of_getElem? (i := 602) (by decide +kernel), List.mem_of_getElem? (i := 603) (by decide +kernel)⟩
theorem lw_p26 : lw_okq (⟨"DayCutPlansModel", "minutesOf", "([II)I"⟩, 27) := ⟨⟨by decide +kernel, by decide +kernel⟩, List.mem_of_getElem? (i := 459) (by decide +kernel), List.mem_of_getElem? (i := 606) (by decide +kernel), List.mem_of_getElem? (i := 607) (by decide +kernel)⟩
theorem lw_p27 : lw_okq (⟨"DayCutPlansModel", "bound", "()I"⟩, 27) := ⟨⟨by decide +kernel, by decide +kernel⟩, List.mem_of_getElem? (i := 459) (by decide +kernel), List.mem_of_getElem? (i := 614) (by decide +kernel), List.mem_of_getElem? (i := 615) (by decide +kernel)⟩
def lw_privs_2 : List (MethodName × Nat) := [(⟨"DayCutPlans$Yard", "patternsUsedIn", "([I)I"⟩, 12), (⟨"DayCutPlans$Yard", "madeBy", "([II)I"⟩, 12), (⟨"DayCutPlans$Yard", "doPlan", "([I)V"⟩, 12), (⟨"DayCutPlans", "gainOfTrial", "(II)I"⟩, 6), (⟨"DayCutPlansModel", "forget", "()V"⟩, 27), (⟨"DayCutPlansModel", "isPattern", "(I)Z"⟩, 27), (⟨"DayCutPlansModel", "seek", "(I)V"⟩, 27), (⟨"DayCutPlansModel", "look", "()V"⟩, 27), (⟨"DayCutPlansModel", "madeOf", "([II)I"⟩, 27), (⟨"DayCutPlansModel", "fits", "(I)Z"⟩, 27), (⟨"DayCutPlansModel", "minutesOf", "([II)I"⟩, 27), (⟨"DayCutPlansModel", "bound", "()I"⟩, 27)]
theorem lw_r2 : ∀ q ∈ lw_privs_2, lw_okq q := List.forall_mem_cons.mpr ⟨lw_p16, List.forall_mem_cons.mpr ⟨lw_p17, List.forall_mem_cons.mpr ⟨lw_p18, List.forall_mem_cons.mpr ⟨lw_p19, List.forall_mem_cons.mpr ⟨lw_p20, List.forall_mem_cons.mpr ⟨lw_p21, List.forall_mem_cons.mpr ⟨lw_p22, List.forall_mem_cons.mpr ⟨lw_p23, List.forall_mem_cons.mpr ⟨lw_p24, List.forall_mem_cons.mpr ⟨lw_p25, List.forall_mem_cons.mpr ⟨lw_p26, List.forall_mem_cons.mpr ⟨lw_p27, fun _ h => absurd h List.not_mem_nil⟩⟩⟩⟩⟩⟩⟩⟩⟩⟩⟩⟩
def lw_privs : List (MethodName × Nat) := lw_privs_1 ++ (lw_privs_2)
def lw_tbl : List Cond := k2_sels lw_privs ++ tables_1
theorem lw_privs_ok : ∀ q ∈ lw_privs, lw_okq q := by
  show ∀ q ∈ lw_privs_1 ++ (lw_privs_2), lw_okq q
  exact List.forall_mem_append.mpr ⟨lw_r1, lw_r2⟩
/-! ===== BEGIN words of one list among another's, by their places ===== -/
theorem goodIn_r {big : List Cond} (ws : List Cond) (ps : List Nat) (hp : ws = ps.filterMap (fun i => big[i]?)) (h : ws.all goodWord = true) : GoodIn big ws := by
  intro w hw
  have h1 := List.all_eq_true.mp h w hw
  rw [hp] at hw
  obtain ⟨i, -, hi⟩ := List.mem_filterMap.mp hw
  have hm : w ∈ big := by first | exact List.mem_of_getElem? hi | exact List.getElem?_mem hi
  exact ⟨hm, good_of_word h1⟩
theorem goodIn_app {big a b : List Cond} (ha : GoodIn big a) (hb : GoodIn big b) : GoodIn big (a ++ b) := fun w h => (List.mem_append.mp h).elim (ha w) (hb w)
theorem goodIn_ca {big a b : List Cond} {c : Cond} (ha : GoodIn big (c :: a)) (hb : GoodIn big b) : GoodIn big (c :: (a ++ b)) := fun w h => (List.mem_cons.mp h).elim (fun e => ha w (List.mem_cons.mpr (Or.inl e))) (fun h => (List.mem_append.mp h).elim (fun h => ha w (List.mem_cons.mpr (Or.inr h))) (hb w))
theorem goodIn_sub {big ws : List Cond} (hm : ∀ w ∈ ws, w ∈ big) (h : ws.all goodWord = true) : GoodIn big ws := fun w hw => ⟨hm w hw, good_of_word (List.all_eq_true.mp h w hw)⟩
/-! ===== END ===== -/

/-! ===== BEGIN exceptions that leave a method, and their catching by the caller (launches without stack traces) ===== -/
section VXA
/-! The laws vx_back, vx_callV, vx_callS, vx_callSW, vx_throw0, vx_throwS follow proofs of the library, with one case more: JvmDerived/Free/Laws.lean (Back.of_free), Shelf42/LK1.lean (callV, callS), Shelf/KitTraced.lean (throwNew0V, throwNewS). -/
/-- where a method has thrown q: the class by its name, the cell, what was written, the world -/
def vx_T (XC : String → State → State → Prop) (st : State) (q : Addr) (t : State) (mc ms : Nat) (free : Addr → Prop) : Prop :=
  ∃ (E : String) (ce : Cell) (L : List Loc), XC E st t ∧ t.heap[q]? = some ce ∧ ce.vm = .none ∧ st.vm.findClass E = some ce.cls ∧ st.WarmedH t.vm ∧ st.sameButNew ({ t with vm := st.vm } : State) L mc ms ∧ ∀ z ∈ L, free z.base
def vx_Q (Qc : Array Value → State → Outcome → State → Prop) (XC : String → State → State → Prop) (mc ms : Nat) (free : Addr → Prop) : Array Value → State → Outcome → State → Prop := fun a st o t =>
  (Qc a st o t ∧ ∃ L, FrameEnd st o t L mc ms ∧ ∀ q ∈ L, free q.base) ∨ ∃ q, o = .threw q ∧ vx_T XC st q t mc ms free
/-- a callee that returns or throws -/
def vx_Met (l : Launch) (y : MethodName) (ws : List Cond) (rm : Room) (Pc : Array Value → State → Prop) (Qc : Array Value → State → Outcome → State → Prop) (XC : String → State → State → Prop) (mc ms : Nat) (free : Addr → Prop) : Prop :=
  MetFree l y (headSpec ws rm) Pc (fun _ _ _ _ _ => True) (vx_Q Qc XC mc ms free)
def vx_Post (XC : String → State → State → Prop) (mc ms : Nat) (free : Addr → Prop) : Pt → Array Value → Addr → Pt → Prop := fun A a q B =>
  ∃ (g : JFrame) (mk : MethodId) (t : State) (L : List Loc) (E : String) (ce : Cell), B.U.heap = t.heap ∧ B.U.vm = t.vm ∧ XC E (A.U.calling g mk a) t ∧ t.heap[q]? = some ce ∧ ce.vm = .none ∧ A.U.vm.findClass E = some ce.cls ∧ B.locs = A.locs ++ L ∧ (∀ z ∈ L, free z.base) ∧ B.cells = A.cells + mc ∧ B.slots = A.slots + ms
def vx_Back (l : Launch) (R : Room) (p : Program) (e : Env) (below : List Frame) (s : State) (sargs : Array Value) (y : MethodName) (len W9 : Nat)
    (Pre : Pt → Array Value → Prop) (Post : Pt → Array Value → Option Value → Pt → Prop) (PostX : Pt → Array Value → Addr → Pt → Prop) : Prop :=
  ∀ (m : MethodId) (meth : Method) (c : Code) (A : Pt) (g : JFrame) (ig : Instr) (mk : MethodId) (a : Array Value),
    Stand p l e R s m sargs below meth c A.U A.locs A.cells A.slots → g.method = m → g.locals.size = c.maxLocals → decode c.code g.pc = .ok (ig, len) →
    2 * g.monitorRoom + (g.stack.map fun v => v.category).sum ≤ W9 → A.U.methodNamed? y = some mk → Pre A a →
    (∃ (v : Option Value) (B : Pt), Stand p l e R s m sargs below meth c B.U B.locs B.cells B.slots ∧ Post A a v B ∧
      Steps p.tables e below (doInvoke e (A.U.setTop g) [] mk a).1 (B.U.setTop { g with pc := g.pc + len, stack := v.toList ++ g.stack })) ∨
    (∃ (q : Addr) (B : Pt), Stand p l e R s m sargs below meth c B.U B.locs B.cells B.slots ∧ PostX A a q B ∧
      Steps p.tables e below (doInvoke e (A.U.setTop g) [] mk a).1 ((B.U.setTop g).pushFrame (.throwing q)))
section Payer
variable {l : Launch} {R : Room} {p : Program} {e : Env} {below : List Frame} {s : State} {sargs : Array Value} {y : MethodName} {len W9 : Nat}
theorem vx_back {ws : List Cond} {rm : Room} {Pc : Array Value → State → Prop} {Qc : Array Value → State → Outcome → State → Prop} {XC : String → State → State → Prop} {mc ms : Nat} {free : Addr → Prop} {bytes : ByteArray} {maxL : Nat} {ret : Option FieldType}
    (hM : vx_Met l y ws rm Pc Qc XC mc ms free) (hblind : FrameBlind Pc) (hrc : rm.cells = mc) (hrs : rm.slots = ms)
    (hframes : rm.frames + 1 ≤ R.frames) (hlocals : W9 + (maxL + 11) + rm.locals ≤ R.locals)
    (hws : ∀ w ∈ ws, ∀ a' U, s.WarmedH U.vm → w.before a' U = true) (hcode : Cond.code y bytes maxL ret ∈ ws) (hinit : ∀ a' U, s.WarmedH U.vm → (Cond.initialized y.cls).before a' U = true) :
    vx_Back l R p e below s sargs y len W9 (PreOf R mc ms Pc) (PostOf Qc mc ms free) (vx_Post XC mc ms free) := by
  intro m meth c A g ig mk a X hg hsize hdg hW hn hp
  have h1 : (headSpec ws rm).pre.before a A.U = true := atoms_intro fun w hw => hws w hw _ _ X.warmed
  have h2 : (Cond.code y bytes maxL ret).before a A.U = true := hws _ hcode _ _ X.warmed
  have h3 : (Cond.initialized y.cls).before a A.U = true := hinit _ _ X.warmed
  have h4 : A.cells + (headSpec ws rm).room.cells ≤ R.cells := by rw [show (headSpec ws rm).room.cells = mc from hrc]; exact hp.1
  have h5 : A.slots + (headSpec ws rm).room.slots ≤ R.slots := by rw [show (headSpec ws rm).room.slots = ms from hrs]; exact hp.2.1
  have hPc : Pc a (A.U.calling g mk a) := hblind _ _ _ _ hp.2.2
  obtain ⟨U, Ls, c0, s0⟩ := A
  dsimp only [Pt.U, Pt.locs, Pt.cells, Pt.slots] at h1 h2 h3 h4 h5 X hn hPc ⊢
  obtain ⟨methY, cY, hmY, hcY, -, hlY, -, -, -, -⟩ := Cond.code_spec hn h2
  obtain ⟨kY, hkY, -⟩ := className_of_methodNamed hn
  have hinitY : kY.init = .initialized := Cond.initialized_spec (findClass_of_methodNamed hn) hkY h3
  have h : At U g.method c below := by rw [hg]; exact X.here
  have hlocals9 : W9 + (maxL + 11) + (headSpec ws rm).room.locals ≤ R.locals := hlocals
  have happ : (headSpec ws rm).appliesLoose y e.platform (U.calling g mk a) = true :=
    Spec.appliesLoose_calling (g := g) h hdg hn hkY hinitY
      (X.room_calling (g := g) (R' := (headSpec ws rm).room) hsize hmY hcY hframes (by rw [hlY]; omega) h4 h5) h1
  obtain ⟨mid, hmid⟩ := h.above
  have hfr : (U.setTop g).frames = (.java g :: mid) ++ below := by rw [State.frames_setTop' g h.top, hmid]; rfl
  obtain ⟨o, s₂, hsteps, -, hend, hq⟩ := Steps.callFree hM p X.admits X.cas X.clock (acts := []) hfr happ hPc trivial
  have hq' : vx_Q Qc XC mc ms free a (U.calling g mk a) o s₂ := hq
  rw [State.frames_setTop' g h.top] at hend
  obtain ⟨g₀, hg0⟩ := Option.isSome_iff_exists.mp h.top
  obtain ⟨r, hr⟩ := State.topJava?_eq_some.mp hg0
  have hr' : (({ U with heap := s₂.heap, slotsUsed := s₂.slotsUsed } : State).setVm s₂.vm).frames = .java g₀ :: r := hr
  rcases hq' with ⟨hqc, L, hfe, hL⟩ | ⟨q, rfl, E, ce, L, hx, hce, hcv, hcl, hW₂, hsm, hL⟩
  · obtain ⟨⟨v, rfl⟩, hW₂, e2, q2, q3, q4, q5, q6⟩ := id hfe
    have e3 : s₂ = ({ (U.calling g mk a).setFrames s₂.frames with heap := s₂.heap, slotsUsed := s₂.slotsUsed } : State).setVm s₂.vm := by
      have : s₂ = ({ s₂ with vm := (U.calling g mk a).vm } : State).setVm s₂.vm := rfl
      rw [e2] at this
      exact this
    obtain ⟨c₂, i₂, len₂, hc₂, hd₂, hf₂⟩ := hend
    have hW' : U.WarmedH s₂.vm := hW₂
    have hcc : c₂ = c := by
      have h1 : s₂.code? g.method = U.code? g.method := by
        rw [State.code?_eq, State.code?_eq, hW'.alike.method?]
      exact Option.some.inj (hc₂.symm.trans (h1.trans h.code))
    subst hcc
    have hlen : len₂ = len := by rw [hdg] at hd₂; cases hd₂; rfl
    subst hlen
    have hs₂ : s₂ = (({ U with heap := s₂.heap, slotsUsed := s₂.slotsUsed } : State).setVm s₂.vm).setTop { g with pc := g.pc + len₂, stack := v.toList ++ g.stack } := by
      refine e3.trans ?_
      rw [hf₂, State.calling_eq h.top, State.setFrames_setFrames, State.setTop_of_frames _ hr', hr]
      rfl
    have hsame : U.sameButNew ({ U with heap := s₂.heap, slotsUsed := s₂.slotsUsed } : State) L mc ms := by
      refine ⟨?_, q2, q3, q4, q5, q6⟩
      obtain ⟨t, ht, -⟩ := State.frames_cons hr
      show ({ U with heap := s₂.heap, slotsUsed := s₂.slotsUsed } : State) = { U.setFrames U.frames with heap := s₂.heap, slotsUsed := s₂.slotsUsed }
      rw [State.setFrames_self ht]
    subst hg
    refine Or.inl ⟨v, ⟨(({ U with heap := s₂.heap, slotsUsed := s₂.slotsUsed } : State).setVm s₂.vm), Ls ++ L, c0 + mc, s0 + ms⟩,
      ⟨X.admits, X.cas, X.clock, X.frames, X.room, X.hears, X.method, X.code, (X.here.setHeapUsed s₂.heap s₂.slotsUsed).setVm hW'.alike, X.tail, State.WarmedH.trans X.warmed hW', X.limits, X.bytes, X.same.trans (hsame.setVm s.vm)⟩,
      ⟨g, mk, s₂, L, rfl, rfl, hqc, rfl, hL, rfl, rfl⟩, ?_⟩
    show Steps p.tables e below _ ((({ U with heap := s₂.heap, slotsUsed := s₂.slotsUsed } : State).setVm s₂.vm).setTop { g with pc := g.pc + len₂, stack := v.toList ++ g.stack })
    rw [← hs₂]
    exact hsteps
  · obtain ⟨e2, q2, q3, q4, q5, q6⟩ := id hsm
    have e3 : s₂ = ({ (U.calling g mk a).setFrames s₂.frames with heap := s₂.heap, slotsUsed := s₂.slotsUsed } : State).setVm s₂.vm := by
      have : s₂ = ({ s₂ with vm := (U.calling g mk a).vm } : State).setVm s₂.vm := rfl
      rw [e2] at this
      exact this
    have hf₂ : s₂.frames = .throwing q :: .java g :: U.frames.tail := hend
    have hW' : U.WarmedH s₂.vm := hW₂
    have hs₂ : s₂ = ((({ U with heap := s₂.heap, slotsUsed := s₂.slotsUsed } : State).setVm s₂.vm).setTop g).pushFrame (.throwing q) := by
      refine e3.trans ?_
      rw [hf₂, State.calling_eq h.top, State.setFrames_setFrames, State.pushFrame, State.frames_setTop _ hr', State.setTop_of_frames _ hr', State.setFrames_setFrames, hr]
      rfl
    have hsame : U.sameButNew ({ U with heap := s₂.heap, slotsUsed := s₂.slotsUsed } : State) L mc ms := by
      refine ⟨?_, q2, q3, q4, q5, q6⟩
      obtain ⟨t, ht, -⟩ := State.frames_cons hr
      show ({ U with heap := s₂.heap, slotsUsed := s₂.slotsUsed } : State) = { U.setFrames U.frames with heap := s₂.heap, slotsUsed := s₂.slotsUsed }
      rw [State.setFrames_self ht]
    subst hg
    refine Or.inr ⟨q, ⟨(({ U with heap := s₂.heap, slotsUsed := s₂.slotsUsed } : State).setVm s₂.vm), Ls ++ L, c0 + mc, s0 + ms⟩,
      ⟨X.admits, X.cas, X.clock, X.frames, X.room, X.hears, X.method, X.code, (X.here.setHeapUsed s₂.heap s₂.slotsUsed).setVm hW'.alike, X.tail, State.WarmedH.trans X.warmed hW', X.limits, X.bytes, X.same.trans (hsame.setVm s.vm)⟩,
      ⟨g, mk, s₂, L, E, ce, rfl, rfl, hx, hce, hcv, hcl, rfl, hL, rfl, rfl⟩, ?_⟩
    show Steps p.tables e below _ (((({ U with heap := s₂.heap, slotsUsed := s₂.slotsUsed } : State).setVm s₂.vm).setTop g).pushFrame (.throwing q))
    rw [← hs₂]
    exact hsteps
end Payer
section Calls
variable {p : Program} {l : Launch} {e : Env} {R : Room} {s : State} {m : MethodId} {args : Array Value} {below : List Frame} {meth : Method} {c : Code} {T : State} {locs : List Loc} {cells slots : Nat}
theorem vx_callV (X : Stand p l e R s m args below meth c T locs cells slots) (hexec : p.tables.exec = Jvm.exec) {own C : String} {index : Nat} {y : MethodName} {bytes : ByteArray} {maxL : Nat} {ret : Option FieldType}
    (hown : s.vm.findClass own = some m.cls) (hlink : (Cond.methodLink own index y).before args s = true) (hinst : (Cond.instanceMethod y).before args s = true) (hsel : (Cond.selects C y y).before args s = true)
    (hcode : (Cond.code y bytes maxL ret).before args s = true) (hy : y.cls ≠ "java/lang/invoke/MethodHandle" ∧ y.cls ≠ "java/lang/invoke/VarHandle")
    {W9 : Nat} {Pre : Pt → Array Value → Prop} {Post : Pt → Array Value → Option Value → Pt → Prop} {PostX : Pt → Array Value → Addr → Pt → Prop} (hK : vx_Back l R p e below s args y 3 W9 Pre Post PostX)
    {b : Addr} {cellB : Cell} (hcell : T.heap[b]? = some cellB) (hobj : cellB.vm.isStatics = false) (hcls : s.vm.findClass C = some cellB.cls)
    {g : JFrame} (hg : g.method = m) (hsize : g.locals.size = c.maxLocals) {argsL rest : List Value} (hlen : ∀ sig, parseMethodDescriptor y.desc = some sig → argsL.length = sig.parameters.length)
    (hstack : g.stack = argsL.reverse ++ .ref b :: rest) (hW : 2 * g.monitorRoom + (rest.map fun v => v.category).sum ≤ W9) (hdg : decode c.code g.pc = .ok (.invokevirtual index, 3))
    (hpre : ∀ vm₁, s.WarmedH vm₁ → Pre ⟨T.setVm vm₁, locs, cells, slots⟩ (Value.ref b :: argsL).toArray) :
    (∃ (v : Option Value) (vm₁ : Vm) (B : Pt), s.WarmedH vm₁ ∧ Stand p l e R s m args below meth c B.U B.locs B.cells B.slots ∧ Post ⟨T.setVm vm₁, locs, cells, slots⟩ (Value.ref b :: argsL).toArray v B ∧
      ∀ target, Steps p.tables e below (B.U.setTop { g with pc := g.pc + 3, stack := v.toList ++ rest }) target → Steps p.tables e below (T.setTop g) target) ∨
    (∃ (q : Addr) (vm₁ : Vm) (B : Pt), s.WarmedH vm₁ ∧ Stand p l e R s m args below meth c B.U B.locs B.cells B.slots ∧ PostX ⟨T.setVm vm₁, locs, cells, slots⟩ (Value.ref b :: argsL).toArray q B ∧
      Steps p.tables e below (T.setTop g) ((B.U.setTop { g with stack := rest }).pushFrame (.throwing q))) := by
  obtain ⟨mk, methM, hnamed, hmethM, hstM, habM⟩ := Cond.instanceMethod_spec hinst
  obtain ⟨methM', cM, hmethM', -, -, -, -, -, -, hsigM⟩ := Cond.code_spec hnamed hcode
  cases hmethM.symm.trans hmethM'
  obtain ⟨c2, r2, m2, q1, q2, q3, q4, kP, hkP, hkPi⟩ := Cond.selects_spec hsel
  cases hcls.symm.trans q1
  cases (State.methodFound?_of_named hnamed hy).symm.trans q2
  cases hnamed.symm.trans q3
  have hselP : selectMethod e.platform s.vm cellB.cls mk = .method mk := by rw [Launch.admits_selectMethod X.admits]; exact q4
  obtain ⟨vm₁, X₁, hstep₁⟩ := X.invokevirtual hexec hown hlink hnamed hmethM hstM hkP hkPi hy (a := b) (cell := cellB) hcell
    (fun z h => by rw [h] at hobj; cases hobj) hselP hmethM habM hkP hkPi (g := g) hg (argsL := argsL) (rest := rest) (hlen _ hsigM) hstack hdg
  rcases hK m meth c ⟨T.setVm vm₁, locs, cells, slots⟩ { g with stack := rest } (.invokevirtual index) mk (Value.ref b :: argsL).toArray X₁ hg hsize hdg hW (X₁.named hnamed) (hpre vm₁ X₁.warmed) with ⟨v, B, X', hpost, hsteps⟩ | ⟨q, B, X', hpost, hsteps⟩
  · exact Or.inl ⟨v, vm₁, B, X₁.warmed, X', hpost, fun target h => hstep₁ _ fun acts => by rw [doInvoke_state]; exact hsteps.trans h⟩
  · exact Or.inr ⟨q, vm₁, B, X₁.warmed, X', hpost, hstep₁ _ fun acts => by rw [doInvoke_state]; exact hsteps⟩
theorem vx_callS (X : Stand p l e R s m args below meth c T locs cells slots) (hexec : p.tables.exec = Jvm.exec) {own : String} {index : Nat} {y : MethodName} {bytes : ByteArray} {maxL : Nat} {ret : Option FieldType}
    (hown : s.vm.findClass own = some m.cls) (hlink : (Cond.methodLink own index y).before args s = true) (hstat : (Cond.static y).before args s = true) (hinit : (Cond.initialized y.cls).before args s = true)
    (hcode : (Cond.code y bytes maxL ret).before args s = true) (hy : y.cls ≠ "java/lang/invoke/MethodHandle" ∧ y.cls ≠ "java/lang/invoke/VarHandle")
    {W9 : Nat} {Pre : Pt → Array Value → Prop} {Post : Pt → Array Value → Option Value → Pt → Prop} {PostX : Pt → Array Value → Addr → Pt → Prop} (hK : vx_Back l R p e below s args y 3 W9 Pre Post PostX)
    {g : JFrame} (hg : g.method = m) (hsize : g.locals.size = c.maxLocals) {argsL rest : List Value} (hlen : ∀ sig, parseMethodDescriptor y.desc = some sig → argsL.length = sig.parameters.length)
    (hstack : g.stack = argsL.reverse ++ rest) (hW : 2 * g.monitorRoom + (rest.map fun v => v.category).sum ≤ W9) (hdg : decode c.code g.pc = .ok (.invokestatic index, 3))
    (hpre : ∀ vm₁, s.WarmedH vm₁ → Pre ⟨T.setVm vm₁, locs, cells, slots⟩ argsL.toArray) :
    (∃ (v : Option Value) (vm₁ : Vm) (B : Pt), s.WarmedH vm₁ ∧ Stand p l e R s m args below meth c B.U B.locs B.cells B.slots ∧ Post ⟨T.setVm vm₁, locs, cells, slots⟩ argsL.toArray v B ∧
      ∀ target, Steps p.tables e below (B.U.setTop { g with pc := g.pc + 3, stack := v.toList ++ rest }) target → Steps p.tables e below (T.setTop g) target) ∨
    (∃ (q : Addr) (vm₁ : Vm) (B : Pt), s.WarmedH vm₁ ∧ Stand p l e R s m args below meth c B.U B.locs B.cells B.slots ∧ PostX ⟨T.setVm vm₁, locs, cells, slots⟩ argsL.toArray q B ∧
      Steps p.tables e below (T.setTop g) ((B.U.setTop { g with stack := rest }).pushFrame (.throwing q))) := by
  obtain ⟨mk, hnamed⟩ := Cond.code_named hcode
  obtain ⟨methM, cM, hmethM, -, -, -, -, -, -, hsigM⟩ := Cond.code_spec hnamed hcode
  have hstatic : methM.isStatic = true := Cond.static_spec hnamed hmethM hstat
  obtain ⟨kP, hkP, -⟩ := className_of_methodNamed hnamed
  have hinitP : kP.init = .initialized := Cond.initialized_spec (findClass_of_methodNamed hnamed) hkP hinit
  obtain ⟨vm₁, X₁, hstep₁⟩ := X.invokestatic hexec hown hlink hnamed hmethM hstatic hkP hinitP hy (g := g) hg (argsL := argsL) (rest := rest) (hlen _ hsigM) hstack hdg
  rcases hK m meth c ⟨T.setVm vm₁, locs, cells, slots⟩ { g with stack := rest } (.invokestatic index) mk argsL.toArray X₁ hg hsize hdg hW (X₁.named hnamed) (hpre vm₁ X₁.warmed) with ⟨v, B, X', hpost, hsteps⟩ | ⟨q, B, X', hpost, hsteps⟩
  · exact Or.inl ⟨v, vm₁, B, X₁.warmed, X', hpost, fun target h => hstep₁ _ fun acts => by rw [doInvoke_state]; exact hsteps.trans h⟩
  · exact Or.inr ⟨q, vm₁, B, X₁.warmed, X', hpost, hstep₁ _ fun acts => by rw [doInvoke_state]; exact hsteps⟩
end Calls
theorem vx_cls {s : State} {T : State} {vm₁ : Vm} {E : String} {k : ClassId} (hW : s.WarmedH vm₁) (h : (T.setVm vm₁).vm.findClass E = some k) : s.vm.findClass E = some k := by
  have h1 : vm₁.findClass E = some k := h
  rw [hW.alike.findClass] at h1
  exact h1
/-- the method's frame g, with q thrown over it -/
def vx_W (p : Program) (l : Launch) (e : Env) (R : Room) (s : State) (m : MethodId) (args : Array Value) (below : List Frame) (meth : Method) (c : Code) (H : Heap) (locs : List Loc) (cells slots : Nat) (Q : State → Prop) (g : JFrame) (q : Addr) : Prop :=
  ∀ T : State, T.heap = H → Stand p l e R s m args below meth c T locs cells slots → ∃ t, Steps p.tables e below ((T.setTop g).pushFrame (.throwing q)) t ∧ Q t
def vx_Run (p : Program) (l : Launch) (e : Env) (R : Room) (s : State) (m : MethodId) (args : Array Value) (below : List Frame) (meth : Method) (c : Code) (H : Heap) (locs : List Loc) (cells slots mc ms : Nat) (g : JFrame) (rest : List Value) (Qa : State → Outcome → State → Prop) (XC : String → State → State → Prop) (free : Addr → Prop) : Prop :=
  ∀ T : State, T.heap = H → Stand p l e R s m args below meth c T locs cells slots →
    (∃ (v : Option Value) (st₀ t T' : State) (L : List Loc), st₀.heap = H ∧ Stand p l e R s m args below meth c T' (locs ++ L) (cells + mc) (slots + ms) ∧ (∀ q ∈ L, free q.base) ∧ T'.heap = t.heap ∧ T'.vm = t.vm ∧ Qa st₀ (.returned v) t ∧
      Goes p e below T g T' { g with pc := g.pc + 3, stack := v.toList ++ rest }) ∨
    (∃ (q : Addr) (st₀ t T' : State) (L : List Loc) (E : String) (ce : Cell), st₀.heap = H ∧ Stand p l e R s m args below meth c T' (locs ++ L) (cells + mc) (slots + ms) ∧ (∀ z ∈ L, free z.base) ∧ T'.heap = t.heap ∧ T'.vm = t.vm ∧ XC E st₀ t ∧ t.heap[q]? = some ce ∧ ce.vm = .none ∧ s.vm.findClass E = some ce.cls ∧
      Steps p.tables e below (T.setTop g) ((T'.setTop { g with stack := rest }).pushFrame (.throwing q)))
def vx_X {S : Type} (px : S → Prop) (B : String → S → State → Prop) (A : Nat → Prop) : String → State → State → Prop := fun E st t => ∃ u : S, px u ∧ B E u t ∧ va_F A st t
section Runs
variable {p : Program} {l : Launch} {e : Env} {R : Room} {s : State} {m : MethodId} {args : Array Value} {below : List Frame} {meth : Method} {c : Code} {H : Heap} {locs : List Loc} {cells slots : Nat}
variable {y : MethodName} {bytes cc : ByteArray} {maxL nL mc ms n index : Nat} {ret : Option FieldType} {ws : List Cond} {rm : Room} {Pc : Array Value → State → Prop} {Qc : Array Value → State → Outcome → State → Prop} {XC : String → State → State → Prop} {free : Addr → Prop} {Ts : List Cond} {own C : String} {b : Addr} {As rest : List Value} {g : JFrame}
theorem vx_callBack (cb : CallB R s args own index y bytes maxL ret ws rm mc ms n) (hM : vx_Met l y ws rm Pc Qc XC mc ms free) (hbl : FrameBlind Pc) : vx_Back l R p e below s args y 3 8 (PreOf R mc ms Pc) (PostOf Qc mc ms free) (vx_Post XC mc ms free) := by
  obtain ⟨hrc, hrs, hfr, hlo, hws, hcw, -, hini, -⟩ := cb
  exact vx_back (bytes := bytes) (maxL := maxL) (ret := ret) hM hbl hrc hrs hfr hlo hws hcw (fun a' U hW => word_at hW (Or.inl (by first | rfl | simp [Cond.onTables, Cond.keeps, Cond.steady])) hini)
theorem vx_runV (S : CallFix p m c cc nL s args Ts own) (hM : vx_Met l y ws rm Pc Qc XC mc ms free) (cw : CallW R s args own C index y bytes maxL ret ws rm mc ms n) (hp : PreV s H C b Pc As)
    (hg : g.method = m) (hn : As.length = n) (hsize : g.locals.size = nL) (hstack : g.stack = As.reverse ++ .ref b :: rest) (hW : 2 * g.monitorRoom + (rest.map fun v => v.category).sum ≤ 8) (hdg : decode cc g.pc = .ok (.invokevirtual index, 3)) (hf : cells + mc ≤ R.cells ∧ slots + ms ≤ R.slots) :
    vx_Run p l e R s m args below meth c H locs cells slots mc ms g rest (Qc (Value.ref b :: As).toArray) XC free := by
  have hK : vx_Back l R p e below s args y 3 8 (PreOf R mc ms Pc) (PostOf Qc mc ms free) (vx_Post XC mc ms free) := vx_callBack cw.1 hM hp.1
  obtain ⟨⟨-, -, -, -, -, -, hcode, -, hy, hlen, hl⟩, hin, hse⟩ := cw
  obtain ⟨hx, hb, hml, ho, -⟩ := S
  obtain ⟨-, ⟨cellB, hcB, hoB, hclB⟩, hPc⟩ := hp
  intro T hT X
  rcases vx_callV X hx (C := C) (bytes := bytes) (maxL := maxL) (ret := ret) ho hl hin hse hcode hy hK (by rw [hT]; exact hcB) hoB hclB hg (hsize.trans hml.symm) (argsL := As) (rest := rest) (fun sig h => hn.trans (hlen sig h)) hstack hW (by rw [hb]; exact hdg)
    (fun vm₁ hW₁ => ⟨hf.1, hf.2, hPc (T.setVm vm₁) hT hW₁⟩) with ⟨v, vm₁, ⟨U', l2, c2, s2⟩, hW₁, X', ⟨g', mk, t, L, e1, e2, hq, h1, hL, h2, h3⟩, st⟩ | ⟨q, vm₁, ⟨U', l2, c2, s2⟩, hW₁, X', ⟨g', mk, t, L, E, ce, e1, e2, hq, hce, hcv, hcl, h1, hL, h2, h3⟩, st⟩
  · dsimp only [Pt.U, Pt.locs, Pt.cells, Pt.slots] at X' e1 e2 h1 h2 h3 st
    subst h1; subst h2; subst h3
    exact Or.inl ⟨v, (T.setVm vm₁).calling g' mk (Value.ref b :: As).toArray, t, U', L, hT, X', hL, e1, e2, hq, st⟩
  · dsimp only [Pt.U, Pt.locs, Pt.cells, Pt.slots] at X' e1 e2 h1 h2 h3 st hcl
    subst h1; subst h2; subst h3
    exact Or.inr ⟨q, (T.setVm vm₁).calling g' mk (Value.ref b :: As).toArray, t, U', L, E, ce, hT, X', hL, e1, e2, hq, hce, hcv, vx_cls hW₁ hcl, st⟩
theorem vx_runS (S : CallFix p m c cc nL s args Ts own) (hM : vx_Met l y ws rm Pc Qc XC mc ms free) (cw : CallB R s args own index y bytes maxL ret ws rm mc ms n ∧ (Cond.static y).before args s = true) (hp : PreS s H Pc As)
    (hg : g.method = m) (hn : As.length = n) (hsize : g.locals.size = nL) (hstack : g.stack = As.reverse ++ rest) (hW : 2 * g.monitorRoom + (rest.map fun v => v.category).sum ≤ 8) (hdg : decode cc g.pc = .ok (.invokestatic index, 3)) (hf : cells + mc ≤ R.cells ∧ slots + ms ≤ R.slots) :
    vx_Run p l e R s m args below meth c H locs cells slots mc ms g rest (Qc As.toArray) XC free := by
  have hK : vx_Back l R p e below s args y 3 8 (PreOf R mc ms Pc) (PostOf Qc mc ms free) (vx_Post XC mc ms free) := vx_callBack cw.1 hM hp.1
  obtain ⟨⟨-, -, -, -, -, -, hcode, hini, hy, hlen, hl⟩, hstt⟩ := cw
  obtain ⟨hx, hb, hml, ho, -⟩ := S
  intro T hT X
  rcases vx_callS X hx (bytes := bytes) (maxL := maxL) (ret := ret) ho hl hstt hini hcode hy hK hg (hsize.trans hml.symm) (argsL := As) (rest := rest) (fun sig h => hn.trans (hlen sig h)) hstack hW (by rw [hb]; exact hdg)
    (fun vm₁ hW₁ => ⟨hf.1, hf.2, hp.2 (T.setVm vm₁) hT hW₁⟩) with ⟨v, vm₁, ⟨U', l2, c2, s2⟩, hW₁, X', ⟨g', mk, t, L, e1, e2, hq, h1, hL, h2, h3⟩, st⟩ | ⟨q, vm₁, ⟨U', l2, c2, s2⟩, hW₁, X', ⟨g', mk, t, L, E, ce, e1, e2, hq, hce, hcv, hcl, h1, hL, h2, h3⟩, st⟩
  · dsimp only [Pt.U, Pt.locs, Pt.cells, Pt.slots] at X' e1 e2 h1 h2 h3 st
    subst h1; subst h2; subst h3
    exact Or.inl ⟨v, (T.setVm vm₁).calling g' mk As.toArray, t, U', L, hT, X', hL, e1, e2, hq, st⟩
  · dsimp only [Pt.U, Pt.locs, Pt.cells, Pt.slots] at X' e1 e2 h1 h2 h3 st hcl
    subst h1; subst h2; subst h3
    exact Or.inr ⟨q, (T.setVm vm₁).calling g' mk As.toArray, t, U', L, E, ce, hT, X', hL, e1, e2, hq, hce, hcv, vx_cls hW₁ hcl, st⟩
end Runs
section Rows
variable {p : Program} {l : Launch} {e : Env} {R : Room} {s : State} {m : MethodId} {args : Array Value} {below : List Frame} {meth : Method} {c : Code} {H : Heap} {locs : List Loc} {cells slots : Nat} {Q : State → Prop}
variable {mc ms : Nat} {free : Addr → Prop} {A0 A1 : Nat → Prop} {H0 : Heap} {a : Array Value} {pc : Nat} {ls : Array Slot} {st0 rest : List Value}
theorem vx_keep {st₀ t T' : State} {L : List Loc} (h0 : st₀.heap = H) (e1 : T'.heap = t.heap) (hS : va_S A0 H0 H locs) (hA : ∀ q, q < H.size → A1 q → A0 q) (hf : ∀ q, free q → A0 q) (hL : ∀ q ∈ L, free q.base) (hF : va_F A1 st₀ t) :
    H.size ≤ T'.heap.size ∧ (∀ q : Nat, q < H.size → ¬ A1 q → T'.heap[q]? = H[q]?) ∧ va_S A0 H0 T'.heap (locs ++ L) := by
  obtain ⟨hz, hk⟩ := hF
  rw [h0] at hz hk
  exact ⟨by rw [e1]; exact hz, fun q h1 h2 => by rw [e1]; exact hk q h1 h2,
    ⟨Nat.le_trans hS.1 (by rw [e1]; exact hz), fun q h1 h2 => by rw [e1, hk q (Nat.lt_of_lt_of_le h1 hS.1) (fun z => h2 (hA q (Nat.lt_of_lt_of_le h1 hS.1) z))]; exact hS.2.1 q h1 h2, fun q hq => by
      rcases List.mem_append.mp hq with h | h
      · exact hS.2.2 q h
      · exact hf _ (hL q h)⟩⟩
theorem vx_calli {S SX : Type} {post : Int32 → S → Prop} {px : SX → Prop} {B : S → State → Prop} {BX : String → SX → State → Prop} {AX : Nat → Prop} (hr : vx_Run p l e R s m args below meth c H locs cells slots mc ms (F0 m pc ls st0) rest (va_Qi post B A1 a) (vx_X px BX AX) free) (hS : va_S A0 H0 H locs) (hA : ∀ q, q < H.size → A1 q → A0 q) (hf : ∀ q, free q → A0 q) (hAX : ∀ q, q < H.size → AX q → A0 q)
    (kx : ∀ (E : String) (ce : Cell) (q9 : Addr) (u : SX) (t : State) (H1 : Heap) (locs1 : List Loc), t.heap = H1 → s.vm.Alike t.vm → px u → BX E u t → H.size ≤ H1.size → (∀ q : Nat, q < H.size → ¬ AX q → H1[q]? = H[q]?) → va_S A0 H0 H1 locs1 → H1[q9]? = some ce → ce.vm = .none → s.vm.findClass E = some ce.cls → vx_W p l e R s m args below meth c H1 locs1 (cells + mc) (slots + ms) Q (F0 m pc ls rest) q9)
    (kk : ∀ (r : Int32) (u : S) (t : State) (H1 : Heap) (locs1 : List Loc), t.heap = H1 → s.vm.Alike t.vm → post r u → B u t → H.size ≤ H1.size → (∀ q : Nat, q < H.size → ¬ A1 q → H1[q]? = H[q]?) → va_S A0 H0 H1 locs1 → W p l e R s m args below meth c H1 locs1 (cells + mc) (slots + ms) Q (F0 m (pc + 3) ls (.int r :: rest))) : W p l e R s m args below meth c H locs cells slots Q (F0 m pc ls st0) := by
  intro T hT X
  rcases hr T hT X with ⟨v, st₀, t, T', L, h0, X', hL, e1, e2, ⟨⟨r, u, hv, hp, hb⟩, hF⟩, st⟩ | ⟨q, st₀, t, T', L, E, ce, h0, X', hL, e1, e2, ⟨u, hp, hb, hF⟩, hce, hcv, hcl, st⟩
  · cases hv
    obtain ⟨k1, k2, k3⟩ := vx_keep h0 e1 hS hA hf hL hF
    obtain ⟨t2, a1, b1⟩ := kk r u t T'.heap (locs ++ L) e1.symm (by rw [← e2]; exact X'.warmed.alike) hp hb k1 k2 k3 T' rfl X'
    exact ⟨t2, st t2 a1, b1⟩
  · obtain ⟨k1, k2, k3⟩ := vx_keep h0 e1 hS hAX hf hL hF
    obtain ⟨t2, a1, b1⟩ := kx E ce q u t T'.heap (locs ++ L) e1.symm (by rw [← e2]; exact X'.warmed.alike) hp hb k1 k2 k3 (by rw [e1]; exact hce) hcv hcl T' rfl X'
    exact ⟨t2, st.trans a1, b1⟩
theorem vx_calll {S SX : Type} {post : Int64 → S → Prop} {px : SX → Prop} {B : S → State → Prop} {BX : String → SX → State → Prop} {AX : Nat → Prop} (hr : vx_Run p l e R s m args below meth c H locs cells slots mc ms (F0 m pc ls st0) rest (va_Ql post B A1 a) (vx_X px BX AX) free) (hS : va_S A0 H0 H locs) (hA : ∀ q, q < H.size → A1 q → A0 q) (hf : ∀ q, free q → A0 q) (hAX : ∀ q, q < H.size → AX q → A0 q)
    (kx : ∀ (E : String) (ce : Cell) (q9 : Addr) (u : SX) (t : State) (H1 : Heap) (locs1 : List Loc), t.heap = H1 → s.vm.Alike t.vm → px u → BX E u t → H.size ≤ H1.size → (∀ q : Nat, q < H.size → ¬ AX q → H1[q]? = H[q]?) → va_S A0 H0 H1 locs1 → H1[q9]? = some ce → ce.vm = .none → s.vm.findClass E = some ce.cls → vx_W p l e R s m args below meth c H1 locs1 (cells + mc) (slots + ms) Q (F0 m pc ls rest) q9)
    (kk : ∀ (r : Int64) (u : S) (t : State) (H1 : Heap) (locs1 : List Loc), t.heap = H1 → s.vm.Alike t.vm → post r u → B u t → H.size ≤ H1.size → (∀ q : Nat, q < H.size → ¬ A1 q → H1[q]? = H[q]?) → va_S A0 H0 H1 locs1 → W p l e R s m args below meth c H1 locs1 (cells + mc) (slots + ms) Q (F0 m (pc + 3) ls (.long r :: rest))) : W p l e R s m args below meth c H locs cells slots Q (F0 m pc ls st0) := by
  intro T hT X
  rcases hr T hT X with ⟨v, st₀, t, T', L, h0, X', hL, e1, e2, ⟨⟨r, u, hv, hp, hb⟩, hF⟩, st⟩ | ⟨q, st₀, t, T', L, E, ce, h0, X', hL, e1, e2, ⟨u, hp, hb, hF⟩, hce, hcv, hcl, st⟩
  · cases hv
    obtain ⟨k1, k2, k3⟩ := vx_keep h0 e1 hS hA hf hL hF
    obtain ⟨t2, a1, b1⟩ := kk r u t T'.heap (locs ++ L) e1.symm (by rw [← e2]; exact X'.warmed.alike) hp hb k1 k2 k3 T' rfl X'
    exact ⟨t2, st t2 a1, b1⟩
  · obtain ⟨k1, k2, k3⟩ := vx_keep h0 e1 hS hAX hf hL hF
    obtain ⟨t2, a1, b1⟩ := kx E ce q u t T'.heap (locs ++ L) e1.symm (by rw [← e2]; exact X'.warmed.alike) hp hb k1 k2 k3 (by rw [e1]; exact hce) hcv hcl T' rfl X'
    exact ⟨t2, st.trans a1, b1⟩
theorem vx_callf {S SX : Type} {post : UInt32 → S → Prop} {px : SX → Prop} {B : S → State → Prop} {BX : String → SX → State → Prop} {AX : Nat → Prop} (hr : vx_Run p l e R s m args below meth c H locs cells slots mc ms (F0 m pc ls st0) rest (va_Qf post B A1 a) (vx_X px BX AX) free) (hS : va_S A0 H0 H locs) (hA : ∀ q, q < H.size → A1 q → A0 q) (hf : ∀ q, free q → A0 q) (hAX : ∀ q, q < H.size → AX q → A0 q)
    (kx : ∀ (E : String) (ce : Cell) (q9 : Addr) (u : SX) (t : State) (H1 : Heap) (locs1 : List Loc), t.heap = H1 → s.vm.Alike t.vm → px u → BX E u t → H.size ≤ H1.size → (∀ q : Nat, q < H.size → ¬ AX q → H1[q]? = H[q]?) → va_S A0 H0 H1 locs1 → H1[q9]? = some ce → ce.vm = .none → s.vm.findClass E = some ce.cls → vx_W p l e R s m args below meth c H1 locs1 (cells + mc) (slots + ms) Q (F0 m pc ls rest) q9)
    (kk : ∀ (r : UInt32) (u : S) (t : State) (H1 : Heap) (locs1 : List Loc), t.heap = H1 → s.vm.Alike t.vm → post r u → B u t → H.size ≤ H1.size → (∀ q : Nat, q < H.size → ¬ A1 q → H1[q]? = H[q]?) → va_S A0 H0 H1 locs1 → W p l e R s m args below meth c H1 locs1 (cells + mc) (slots + ms) Q (F0 m (pc + 3) ls (.float r :: rest))) : W p l e R s m args below meth c H locs cells slots Q (F0 m pc ls st0) := by
  intro T hT X
  rcases hr T hT X with ⟨v, st₀, t, T', L, h0, X', hL, e1, e2, ⟨⟨r, u, hv, hp, hb⟩, hF⟩, st⟩ | ⟨q, st₀, t, T', L, E, ce, h0, X', hL, e1, e2, ⟨u, hp, hb, hF⟩, hce, hcv, hcl, st⟩
  · cases hv
    obtain ⟨k1, k2, k3⟩ := vx_keep h0 e1 hS hA hf hL hF
    obtain ⟨t2, a1, b1⟩ := kk r u t T'.heap (locs ++ L) e1.symm (by rw [← e2]; exact X'.warmed.alike) hp hb k1 k2 k3 T' rfl X'
    exact ⟨t2, st t2 a1, b1⟩
  · obtain ⟨k1, k2, k3⟩ := vx_keep h0 e1 hS hAX hf hL hF
    obtain ⟨t2, a1, b1⟩ := kx E ce q u t T'.heap (locs ++ L) e1.symm (by rw [← e2]; exact X'.warmed.alike) hp hb k1 k2 k3 (by rw [e1]; exact hce) hcv hcl T' rfl X'
    exact ⟨t2, st.trans a1, b1⟩
theorem vx_calld {S SX : Type} {post : UInt64 → S → Prop} {px : SX → Prop} {B : S → State → Prop} {BX : String → SX → State → Prop} {AX : Nat → Prop} (hr : vx_Run p l e R s m args below meth c H locs cells slots mc ms (F0 m pc ls st0) rest (va_Qd post B A1 a) (vx_X px BX AX) free) (hS : va_S A0 H0 H locs) (hA : ∀ q, q < H.size → A1 q → A0 q) (hf : ∀ q, free q → A0 q) (hAX : ∀ q, q < H.size → AX q → A0 q)
    (kx : ∀ (E : String) (ce : Cell) (q9 : Addr) (u : SX) (t : State) (H1 : Heap) (locs1 : List Loc), t.heap = H1 → s.vm.Alike t.vm → px u → BX E u t → H.size ≤ H1.size → (∀ q : Nat, q < H.size → ¬ AX q → H1[q]? = H[q]?) → va_S A0 H0 H1 locs1 → H1[q9]? = some ce → ce.vm = .none → s.vm.findClass E = some ce.cls → vx_W p l e R s m args below meth c H1 locs1 (cells + mc) (slots + ms) Q (F0 m pc ls rest) q9)
    (kk : ∀ (r : UInt64) (u : S) (t : State) (H1 : Heap) (locs1 : List Loc), t.heap = H1 → s.vm.Alike t.vm → post r u → B u t → H.size ≤ H1.size → (∀ q : Nat, q < H.size → ¬ A1 q → H1[q]? = H[q]?) → va_S A0 H0 H1 locs1 → W p l e R s m args below meth c H1 locs1 (cells + mc) (slots + ms) Q (F0 m (pc + 3) ls (.double r :: rest))) : W p l e R s m args below meth c H locs cells slots Q (F0 m pc ls st0) := by
  intro T hT X
  rcases hr T hT X with ⟨v, st₀, t, T', L, h0, X', hL, e1, e2, ⟨⟨r, u, hv, hp, hb⟩, hF⟩, st⟩ | ⟨q, st₀, t, T', L, E, ce, h0, X', hL, e1, e2, ⟨u, hp, hb, hF⟩, hce, hcv, hcl, st⟩
  · cases hv
    obtain ⟨k1, k2, k3⟩ := vx_keep h0 e1 hS hA hf hL hF
    obtain ⟨t2, a1, b1⟩ := kk r u t T'.heap (locs ++ L) e1.symm (by rw [← e2]; exact X'.warmed.alike) hp hb k1 k2 k3 T' rfl X'
    exact ⟨t2, st t2 a1, b1⟩
  · obtain ⟨k1, k2, k3⟩ := vx_keep h0 e1 hS hAX hf hL hF
    obtain ⟨t2, a1, b1⟩ := kx E ce q u t T'.heap (locs ++ L) e1.symm (by rw [← e2]; exact X'.warmed.alike) hp hb k1 k2 k3 (by rw [e1]; exact hce) hcv hcl T' rfl X'
    exact ⟨t2, st.trans a1, b1⟩
theorem vx_callv {S SX : Type} {post : S → Prop} {px : SX → Prop} {B : S → State → Prop} {BX : String → SX → State → Prop} {AX : Nat → Prop} (hr : vx_Run p l e R s m args below meth c H locs cells slots mc ms (F0 m pc ls st0) rest (va_Qv post B A1 a) (vx_X px BX AX) free) (hS : va_S A0 H0 H locs) (hA : ∀ q, q < H.size → A1 q → A0 q) (hf : ∀ q, free q → A0 q) (hAX : ∀ q, q < H.size → AX q → A0 q)
    (kx : ∀ (E : String) (ce : Cell) (q9 : Addr) (u : SX) (t : State) (H1 : Heap) (locs1 : List Loc), t.heap = H1 → s.vm.Alike t.vm → px u → BX E u t → H.size ≤ H1.size → (∀ q : Nat, q < H.size → ¬ AX q → H1[q]? = H[q]?) → va_S A0 H0 H1 locs1 → H1[q9]? = some ce → ce.vm = .none → s.vm.findClass E = some ce.cls → vx_W p l e R s m args below meth c H1 locs1 (cells + mc) (slots + ms) Q (F0 m pc ls rest) q9)
    (kk : ∀ (u : S) (t : State) (H1 : Heap) (locs1 : List Loc), t.heap = H1 → s.vm.Alike t.vm → post u → B u t → H.size ≤ H1.size → (∀ q : Nat, q < H.size → ¬ A1 q → H1[q]? = H[q]?) → va_S A0 H0 H1 locs1 → W p l e R s m args below meth c H1 locs1 (cells + mc) (slots + ms) Q (F0 m (pc + 3) ls (rest))) : W p l e R s m args below meth c H locs cells slots Q (F0 m pc ls st0) := by
  intro T hT X
  rcases hr T hT X with ⟨v, st₀, t, T', L, h0, X', hL, e1, e2, ⟨⟨u, hv, hp, hb⟩, hF⟩, st⟩ | ⟨q, st₀, t, T', L, E, ce, h0, X', hL, e1, e2, ⟨u, hp, hb, hF⟩, hce, hcv, hcl, st⟩
  · cases hv
    obtain ⟨k1, k2, k3⟩ := vx_keep h0 e1 hS hA hf hL hF
    obtain ⟨t2, a1, b1⟩ := kk u t T'.heap (locs ++ L) e1.symm (by rw [← e2]; exact X'.warmed.alike) hp hb k1 k2 k3 T' rfl X'
    exact ⟨t2, st t2 a1, b1⟩
  · obtain ⟨k1, k2, k3⟩ := vx_keep h0 e1 hS hAX hf hL hF
    obtain ⟨t2, a1, b1⟩ := kx E ce q u t T'.heap (locs ++ L) e1.symm (by rw [← e2]; exact X'.warmed.alike) hp hb k1 k2 k3 (by rw [e1]; exact hce) hcv hcl T' rfl X'
    exact ⟨t2, st.trans a1, b1⟩
/-- caught by the row x of this method's table; the rows ahead don't take it -/
theorem vx_catch {own name : String} {E : String} {ce : Cell} {q : Addr} (hown : s.vm.findClass own = some m.cls) (pre : List ExceptionTableEntry) (x : ExceptionTableEntry) (suf : List ExceptionTableEntry) (hsplit : c.exceptionTable.toList = pre ++ x :: suf)
    (hpass : ∀ z ∈ pre, covers z pc = false ∨ (z.catchType ≠ 0 ∧ ∃ nm : String, (Cond.classLink own z.catchType nm).before args s = true ∧ va_Nc E nm s)) (hx : covers x pc = true) (h0 : x.catchType ≠ 0)
    (hlink : (Cond.classLink own x.catchType name).before args s = true) (hcast : (Cond.castable E name).before args s = true) (hcell : H[q]? = some ce) (hv : ce.vm = .none) (hcl : s.vm.findClass E = some ce.cls)
    (kk : W p l e R s m args below meth c H locs cells slots Q (F0 m x.handlerPc ls [.ref q])) : vx_W p l e R s m args below meth c H locs cells slots Q (F0 m pc ls rest) q := by
  intro T hT X
  have hpl : e.platform.magicAccessors = ({} : Platform).magicAccessors := by rw [X.admits.platform]
  obtain ⟨c3, c4, hc3, hc4, hasg⟩ := Cond.castable_spec hcast
  cases Option.some.inj (hc3.symm.trans hcl)
  obtain ⟨c5, hc5, hcl5⟩ := Cond.classLink_spec hown hlink e.platform hpl
  cases Option.some.inj (hc4.symm.trans hc5)
  obtain ⟨vm', X', st⟩ := X.thenCaughtThrough q (g := F0 m pc ls rest) rfl (Steps.refl _) (by rw [hT]; exact hcell) (by rw [hv]; rfl) (by obtain ⟨k9, h9, -⟩ := Vm.findClass_spec hcl; exact ⟨k9, h9⟩) pre x suf hsplit
    (fun z hz => by
      rcases hpass z hz with h | ⟨hz0, nm, hl1, hn1⟩
      · exact Or.inl h
      · obtain ⟨c6, hc6, hcl6⟩ := Cond.classLink_spec hown hl1 e.platform hpl
        obtain ⟨a8, b8, h1, h2, h3⟩ := hn1
        cases Option.some.inj (h1.symm.trans hcl)
        cases Option.some.inj (h2.symm.trans hc6)
        exact Or.inr ⟨hz0, _, hcl6, h3⟩) hx (Or.inr ⟨h0, c4, hcl5, hasg⟩)
  obtain ⟨t, a1, b1⟩ := kk (T.setVm vm') hT X'
  exact ⟨t, st.trans a1, b1⟩
end Rows
section Ends
variable {p : Program} {l : Launch} {e : Env} {R : Room} {s : State} {m : MethodId} {args : Array Value} {below : List Frame} {meth : Method} {c : Code} {H : Heap} {locs : List Loc} {cells slots : Nat} {Q : State → Prop}
variable {mc ms : Nat} {free : Addr → Prop} {A0 A1 : Nat → Prop} {H0 : Heap} {a : Array Value} {ls : Array Slot} {st0 rest : List Value}
variable {Qc : Array Value → State → Outcome → State → Prop} {XC : String → State → State → Prop}
/-- what a body that may throw owes at its end -/
def vx_MQ (below : List Frame) (Qc : Array Value → State → Outcome → State → Prop) (XC : String → State → State → Prop) (a : Array Value) (s : State) (mc ms : Nat) (free : Addr → Prop) : State → Prop := fun t =>
  ∃ o, t.status = .running ∧ Ended t below o ∧ vx_Q Qc XC mc ms free a s o t
theorem vx_ret {g : JFrame} {mc ms : Nat} (k : W p l e R s m args below meth c H locs cells slots (MQ below Qc args s mc ms free) g) : W p l e R s m args below meth c H locs cells slots (vx_MQ below Qc XC args s mc ms free) g := by
  intro T hT X
  obtain ⟨t, a1, o, b1, b2, b3, b4⟩ := k T hT X
  exact ⟨t, a1, o, b1, b2, Or.inl ⟨b3, b4⟩⟩
/-- not caught here: it goes on to the caller -/
theorem vx_widen {g : JFrame} {q : Addr} {k n : Nat} (h1 : cells ≤ k) (h2 : slots ≤ n) (kk : vx_W p l e R s m args below meth c H locs k n Q g q) : vx_W p l e R s m args below meth c H locs cells slots Q g q := fun T hT X => kk T hT (stand_widen X h1 h2)
theorem vx_out {pc : Nat} {E : String} {ce : Cell} {q : Addr} {mc ms : Nat} (hout : ∀ x ∈ c.exceptionTable.toList, covers x pc = false) (hlocks : meth.locks = false) (hcell : H[q]? = some ce) (hv : ce.vm = .none) (hcl : s.vm.findClass E = some ce.cls)
    (hx : ∀ t : State, t.heap = H → s.vm.Alike t.vm → XC E s t) (hf : ∀ z ∈ locs, free z.base) (hc : cells ≤ mc) (hs : slots ≤ ms) :
    vx_W p l e R s m args below meth c H locs cells slots (vx_MQ below Qc XC args s mc ms free) (F0 m pc ls rest) q := by
  intro T hT X
  obtain ⟨st1, hrun, hend, hW, hsm⟩ := X.leaveThrown q (g := F0 m pc ls rest) rfl rfl rfl hout hlocks
  have hcell9 : (T.setFrames (.throwing q :: below)).heap[q]? = some ce := by
    show T.heap[q]? = some ce
    rw [hT]; exact hcell
  exact ⟨_, st1, .threw q, hrun, hend, Or.inr ⟨q, rfl, E, ce, locs, hx _ hT hW.alike, hcell9, hv, hcl, hW, hsm.mono hc hs, hf⟩⟩
theorem vx_frame {U : State} {k n : Nat} (h : s.sameButNew ({ U with vm := s.vm } : State) locs k n) : s.heap.size ≤ U.heap.size ∧ ∀ q : Nat, q < s.heap.size → (∀ z ∈ locs, z.base ≠ q) → U.heap[q]? = s.heap[q]? := by
  obtain ⟨-, h2, -, -, -, h6⟩ := h
  refine ⟨h2, fun q hq hz => ?_⟩
  obtain ⟨c9, e1, e2, e3, e4⟩ := h6 q _ (Array.getElem?_eq_getElem hq)
  have hs : c9.slots = (s.heap[q]).slots := Array.ext_getElem? fun i => e4 i fun hm => hz _ hm rfl
  have h9 : c9 = s.heap[q] := by
    rw [hs] at e2
    exact e2
  have e5 : U.heap[q]? = some c9 := e1
  rw [e5, h9, Array.getElem?_eq_getElem hq]
/-- the words of a throw but the four that speak of the heap -/
def vx_no (w : Cond) : Bool := decide (w ≠ .isRef (.static Bundle.tN "UNASSIGNED_STACK" Bundle.steD)) && decide (w ≠ .isRef (.static Bundle.tN "SUPPRESSED_SENTINEL" Bundle.listD)) && decide (w ≠ .laysStatic Bundle.tN "UNASSIGNED_STACK" Bundle.steD) && decide (w ≠ .laysStatic Bundle.tN "SUPPRESSED_SENTINEL" Bundle.listD)
def vx_at0 (own : String) (ic : Nat) (X : String) (names : List String) : List Cond := (Bundle.ownAtoms0 own ic X names).filter vx_no
def vx_atS (own : String) (ic : Nat) (X : String) (names : List String) : List Cond := (Bundle.ownAtoms own ic X names).filter vx_no
/-- a word that the tables alone decide, or a good one -/
def vx_ot (w : Cond) : Bool := w.onTables || goodWord w
theorem vx_ot_at {args a' : Array Value} {s U : State} {w : Cond} (hW : s.WarmedH U.vm) (hvm : s.vm = U.vm) (hg : vx_ot w = true) (h : w.before args s = true) : w.before a' U = true := by
  simp only [vx_ot, Bool.or_eq_true] at hg
  rcases hg with hg | hg
  · exact va_tabs hg hvm h
  · exact word_at hW (good_of_word hg) h
/-- a list's words: the good ones out of the method's own list, the others by premises of their own -/
theorem vx_hat {args : Array Value} {s : State} {L B : List Cond} (h1 : ∀ w ∈ L.filter goodWord, w.before args s = true) (h2 : ∀ w ∈ L.filter (fun w => !goodWord w), w ∈ B) (h3 : ∀ w ∈ B, w.before args s = true) : ∀ w ∈ L, w.before args s = true := by
  intro w hw
  by_cases g : goodWord w = true
  · exact h1 w (List.mem_filter.mpr ⟨hw, g⟩)
  · refine h3 w (h2 w (List.mem_filter.mpr ⟨hw, ?_⟩))
    show (!goodWord w) = true
    cases hgw : goodWord w
    · rfl
    · exact absurd hgw g
theorem vx_c {args : Array Value} {s : State} {w : Cond} {B : List Cond} (h : w.before args s = true) (t : ∀ w ∈ B, w.before args s = true) : ∀ w' ∈ w :: B, w'.before args s = true := fun w' h' => (List.mem_cons.mp h').elim (fun e => by rw [e]; exact h) (t w')
theorem vx_n {args : Array Value} {s : State} : ∀ w ∈ ([] : List Cond), w.before args s = true := fun _ h => nomatch h
theorem vx_own {args : Array Value} {s : State} {L : List Cond} (h1 : ∀ w ∈ L.filter vx_no, w.before args s = true)
    (hU : (Cond.isRef (.static Bundle.tN "UNASSIGNED_STACK" Bundle.steD)).before args s = true) (hN : (Cond.isRef (.static Bundle.tN "SUPPRESSED_SENTINEL" Bundle.listD)).before args s = true)
    (lU : (Cond.laysStatic Bundle.tN "UNASSIGNED_STACK" Bundle.steD).before args s = true) (lN : (Cond.laysStatic Bundle.tN "SUPPRESSED_SENTINEL" Bundle.listD).before args s = true) : ∀ w ∈ L, w.before args s = true := by
  intro w hw
  by_cases e1 : w = .isRef (.static Bundle.tN "UNASSIGNED_STACK" Bundle.steD)
  · rw [e1]; exact hU
  · by_cases e2 : w = .isRef (.static Bundle.tN "SUPPRESSED_SENTINEL" Bundle.listD)
    · rw [e2]; exact hN
    · by_cases e3 : w = .laysStatic Bundle.tN "UNASSIGNED_STACK" Bundle.steD
      · rw [e3]; exact lU
      · by_cases e4 : w = .laysStatic Bundle.tN "SUPPRESSED_SENTINEL" Bundle.listD
        · rw [e4]; exact lN
        · exact h1 w (List.mem_filter.mpr ⟨hw, by unfold vx_no; rw [decide_eq_true e1, decide_eq_true e2, decide_eq_true e3, decide_eq_true e4]; rfl⟩)
/-- where a static field lies, its class's statics cell in H -/
def vx_L (C n d : String) (A : Nat → Prop) (U : State) (H : Heap) : Prop := ∃ (c : ClassId) (k : Class) (i : Nat) (f : Field) (a : Nat) (cell : Cell), U.vm.findClass C = some c ∧ U.fieldFound? C n d = some (c, k, i, f) ∧ f.isStatic = true ∧ k.statics = some a ∧ H[a]? = some cell ∧ cell.vm.isStatics = true ∧ cell.cls = c ∧ f.slot < cell.slots.size ∧ k.staticTypes[f.slot]? = some f.type ∧ ¬ A a
theorem vx_L.moved {C n d : String} {A : Nat → Prop} {u U : State} {H : Heap} (hvm : u.vm.Alike U.vm) (h : vx_L C n d A u H) : vx_L C n d A U H := by
  obtain ⟨c, k, i, f, a, cell, h1, h2, h3, h4, h5, h6, h7, h8, h9, h10⟩ := h
  obtain ⟨k', hi', he⟩ := State.fieldFound?_setVm hvm h2
  exact ⟨c, k', i, f, a, cell, by rw [hvm.findClass]; exact h1, hi', h3, by rw [he]; exact h4, h5, h6, h7, h8, by rw [he]; exact h9, h10⟩
theorem vx_L.kept {C n d : String} {A : Nat → Prop} {U : State} {H H1 : Heap} (h : vx_L C n d A U H) (hq : ∀ a : Nat, a < H.size → ¬ A a → H1[a]? = H[a]?) : vx_L C n d A U H1 := by
  obtain ⟨c, k, i, f, a, cell, h1, h2, h3, h4, h5, h6, h7, h8, h9, h10⟩ := h
  exact ⟨c, k, i, f, a, cell, h1, h2, h3, h4, by rw [hq a (Array.getElem?_eq_some_iff.mp h5).1 h10]; exact h5, h6, h7, h8, h9, h10⟩
theorem vx_L.narrow {C n d : String} {A B : Nat → Prop} {U : State} {H : Heap} (h : vx_L C n d A U H) (hAB : ∀ q, B q → A q) : vx_L C n d B U H := by
  obtain ⟨c, k, i, f, a, cell, h1, h2, h3, h4, h5, h6, h7, h8, h9, h10⟩ := h
  exact ⟨c, k, i, f, a, cell, h1, h2, h3, h4, h5, h6, h7, h8, h9, fun z => h10 (hAB _ z)⟩
theorem vx_L.word {C n d : String} {A : Nat → Prop} {s : State} {args : Array Value} (h : vx_L C n d A s s.heap) : (Cond.laysStatic C n d).before args s = true := by
  obtain ⟨c, k, i, f, a, cell, h1, h2, h3, h4, h5, h6, h7, h8, h9, -⟩ := h
  show (Cond.laysStatic C n d).holds args s none s [] = true
  exact Cond.laysStatic_of h1 h2 h3 h4 h5 h6 h7 h8 h9
/-- .. and what it holds: null or some reference -/
def vx_Zq (C n d : String) (A : Nat → Prop) (U : State) (H : Heap) : Prop := va_Zq C n d A U H ∧ vx_L C n d A U H
theorem vx_Zq.moved {C n d : String} {A : Nat → Prop} {u U : State} {H : Heap} (hvm : u.vm.Alike U.vm) (h : vx_Zq C n d A u H) : vx_Zq C n d A U H := ⟨va_Zq.moved hvm h.1, vx_L.moved hvm h.2⟩
theorem vx_Zq.kept {C n d : String} {A : Nat → Prop} {U : State} {H H1 : Heap} (h : vx_Zq C n d A U H) (hq : ∀ a : Nat, a < H.size → ¬ A a → H1[a]? = H[a]?) : vx_Zq C n d A U H1 := ⟨va_Zq.kept h.1 hq, vx_L.kept h.2 hq⟩
theorem vx_Zq.narrow {C n d : String} {A B : Nat → Prop} {U : State} {H : Heap} (h : vx_Zq C n d A U H) (hAB : ∀ q, B q → A q) : vx_Zq C n d B U H := ⟨va_Zq.narrow h.1 hAB, vx_L.narrow h.2 hAB⟩
theorem vx_Zqof {args : Array Value} {s : State} {C n d : String} {A : Nat → Prop} (hl : (Cond.laysStatic C n d).before args s = true) (hini : (Cond.initialized C).before args s = true) (h : (Cond.isRef (.static C n d)).before args s = true) (hA : ∀ a : Nat, a < s.heap.size → ¬ A a) : vx_Zq C n d A s s.heap := by
  refine ⟨va_Zqof hl hini h hA, ?_⟩
  obtain ⟨c, k, i, f, a, cell, h1, h2, h3, h4, h5, h6, h7, h8, h9⟩ := Cond.laysStatic_spec hl
  exact ⟨c, k, i, f, a, cell, h1, h2, h3, h4, h5, h6, h7, h8, h9, hA a (Array.getElem?_eq_some_iff.mp h5).1⟩
theorem vx_isRef {C n d : String} {v : Value} {A : Nat → Prop} {s : State} {args : Array Value} (h : va_Z C n d v A s s.heap) (hv : v.isRef = true) : (Cond.isRef (.static C n d)).before args s = true := by
  obtain ⟨cf, kf, fi, f, a, cell, h1, h2, h3, h4, h5, h6, h7, -⟩ := h
  have he : (Term.static C n d).eval args s none [] s = some v := by
    simp [Term.eval, State.fieldNamed?, h1, h2, h4, h5, h6, h7]
  simp only [Cond.before, Cond.holds, Cond.value, he]
  cases v <;> simp_all [Value.isRef]
theorem vx_isRefq {C n d : String} {A : Nat → Prop} {s : State} {args : Array Value} (h : va_Zq C n d A s s.heap) : (Cond.isRef (.static C n d)).before args s = true := by
  rcases h with h | ⟨t, h⟩
  · exact vx_isRef h rfl
  · exact vx_isRef h rfl
/-- the same frame, seen from here: as if the method were called anew in this heap -/
theorem vx_rebase {T : State} (X : Stand p l e R s m args below meth c T locs cells slots) {R' : Room} (hf : R'.frames ≤ R.frames) (hl : R'.locals ≤ R.locals) (hc : cells + R'.cells ≤ R.cells) (hs : slots + R'.slots ≤ R.slots) :
    Stand p l e R' ((T.setVm s.vm).setFrames (.invoking m args :: below)) m args below meth c T [] 0 0 := by
  have htop : (T.setVm s.vm).topJava?.isSome := X.here.top
  have hF : ((T.setVm s.vm).setFrames (.invoking m args :: below)).frames = .invoking m args :: below := State.frames_setFrames _ (State.cur_lt_of_top htop)
  obtain ⟨g₀, hg0⟩ := Option.isSome_iff_exists.mp htop
  obtain ⟨r, hr⟩ := State.topJava?_eq_some.mp hg0
  have hl9 : e.platform.stackLimits (T.setVm s.vm).me = e.platform.stackLimits s.me := X.limits
  have hb9 : (T.setVm s.vm).me.stackBytes = s.me.stackBytes := X.bytes
  refine ⟨X.admits, X.cas, X.clock, hF, ?_, X.hears, X.method, X.code, X.here, X.tail, X.warmed, ?_, ?_, ?_⟩
  · have h := X.room
    have hU : ((T.setVm s.vm).setFrames (.invoking m args :: below)).localsInUse = s.localsInUse := by
      rw [State.localsInUse_invoking hF (meth := meth) (c := c) X.method X.code, State.localsInUse_invoking X.frames X.method X.code]
    simp only [State.hasRoom, Bool.and_eq_true, decide_eq_true_eq] at h ⊢
    obtain ⟨⟨⟨⟨h1, h2, h3, h4, h5, h6⟩, h7⟩, h8⟩, h9⟩ := h
    rw [X.frames, List.length_cons] at h2 h3
    have q1 := X.heapSize
    have q2 := X.used
    simp only [hF, hU, List.length_cons, State.stackLimits_setFrames, State.stackBytes_setFrames, hl9, hb9]
    refine ⟨⟨⟨⟨by omega, by omega, by omega, by omega, by omega, h6⟩, ?_⟩, ?_⟩, X.book⟩
    · show T.heap.size + R'.cells ≤ e.platform.maxCells
      omega
    · show T.slotsUsed + R'.slots ≤ e.platform.maxSlots
      omega
  · rw [State.stackLimits_setFrames]; rfl
  · rw [State.stackBytes_setFrames]; rfl
  · refine ⟨?_, Nat.le_refl _, Nat.le_refl _, ?_, ?_, fun a c9 h9 => ⟨c9, h9, rfl, rfl, fun _ _ => rfl⟩⟩
    · obtain ⟨t, ht, -⟩ := State.frames_cons hr
      show T.setVm s.vm = { ((T.setVm s.vm).setFrames (.invoking m args :: below)).setFrames (T.setVm s.vm).frames with heap := T.heap, slotsUsed := T.slotsUsed }
      rw [State.setFrames_setFrames, State.setFrames_self ht]
      rfl
    · show T.slotsUsed = T.slotsUsed + ((T.heap.toList.drop T.heap.size).map (·.slots.size)).sum
      rw [List.drop_eq_nil_of_le (Nat.le_of_eq Array.length_toList)]
      rfl
    · show ((T.heap.toList.drop T.heap.size).map (·.slots.size)).sum ≤ 0
      rw [List.drop_eq_nil_of_le (Nat.le_of_eq Array.length_toList)]
      exact Nat.le_refl _
/-- 'throw new E()': new; dup; invokespecial; athrow -/
theorem vx_throw0 {cc : ByteArray} {pc : Nat} (hexec : p.tables.exec = Jvm.exec) (hb : c.code = cc) (hl : l.stackTraces = false) {own cls : String} {names : List String} {ik ic mc ms : Nat} {A : Nat → Prop}
    (hown : s.vm.findClass own = some m.cls) (hcls : Bundle.fit cls = true) (hnames : ∀ n ∈ names, Bundle.fit n = true)
    (hk : (Cond.classLink own ik cls).before args s = true) (hini : (Cond.initialized cls).before args s = true) (hat : ∀ w ∈ vx_at0 own ic cls names, w.before args s = true)
    (hgood : ∀ w ∈ Cond.classLink own ik cls :: Cond.initialized cls :: vx_at0 own ic cls names, vx_ot w = true)
    (hU : vx_Zq Bundle.tN "UNASSIGNED_STACK" Bundle.steD A s s.heap) (hN : vx_Zq Bundle.tN "SUPPRESSED_SENTINEL" Bundle.listD A s s.heap) (hS : va_S A s.heap H locs) (hsize : ls.size = c.maxLocals)
    (d0 : decode cc pc = .ok (.new ik, 3)) (d3 : decode cc (pc + 3) = .ok (.dup, 1)) (d4 : decode cc (pc + 4) = .ok (.invokespecial ic, 3)) (d7 : decode cc (pc + 7) = .ok (.athrow, 1))
    (hout : ∀ x ∈ c.exceptionTable.toList, covers x (pc + 7) = false)
    (hRframes : names.length + 3 < R.frames) (hRlocals : (rest.map fun v => v.category).sum + (13 * (names.length + 1) + 42) ≤ R.locals) (hRcells : cells + 1 ≤ R.cells) (hRslots : slots + 6 ≤ R.slots) (hlocks : meth.locks = false)
    (hx : ∀ t : State, s.vm.Alike t.vm → H.size ≤ t.heap.size → (∀ q : Nat, q < H.size → t.heap[q]? = H[q]?) → XC cls s t)
    (hf : ∀ z ∈ locs, free z.base) (hc : cells + 1 ≤ mc) (hs : slots + 6 ≤ ms) :
    W p l e R s m args below meth c H locs cells slots (vx_MQ below Qc XC args s mc ms free) (F0 m pc ls rest) := by
  intro T hT X
  have htr : e.platform.stackTraces = false := (show e.platform.stackTraces = l.stackTraces by rw [X.admits.platform]).trans hl
  have Y := vx_rebase X (R' := { frames := R.frames, locals := R.locals, cells := 1, slots := 6 }) (Nat.le_refl _) (Nat.le_refl _) hRcells hRslots
  obtain ⟨s', hA⟩ : ∃ z, z = (T.setVm s.vm).setFrames (.invoking m args :: below) := ⟨_, rfl⟩
  rw [← hA] at Y
  have hvm : s'.vm = s.vm := by rw [hA]; rfl
  have hhp : s'.heap = H := by rw [hA]; exact hT
  have hW0 : s.WarmedH s'.vm := by rw [hvm]; exact State.WarmedH.refl s
  have hat' : ∀ w ∈ vx_at0 own ic cls names, w.before args s' = true := fun w hw => vx_ot_at hW0 hvm.symm (hgood w (List.mem_cons_of_mem _ (List.mem_cons_of_mem _ hw))) (hat w hw)
  have hk' : (Cond.classLink own ik cls).before args s' = true := vx_ot_at hW0 hvm.symm (hgood _ List.mem_cons_self) hk
  have hini' : (Cond.initialized cls).before args s' = true := vx_ot_at hW0 hvm.symm (hgood _ (List.mem_cons_of_mem _ List.mem_cons_self)) hini
  have hU' : vx_Zq Bundle.tN "UNASSIGNED_STACK" Bundle.steD A s' s'.heap := by rw [hhp]; exact vx_Zq.moved hW0.alike (hU.kept hS.2.1)
  have hN' : vx_Zq Bundle.tN "SUPPRESSED_SENTINEL" Bundle.listD A s' s'.heap := by rw [hhp]; exact vx_Zq.moved hW0.alike (hN.kept hS.2.1)
  have h : ∀ w ∈ Bundle.ownAtoms0 own ic cls names, w.before args s' = true := vx_own hat' (vx_isRefq hU'.1) (vx_isRefq hN'.1) hU'.2.word hN'.2.word
  have hown' : s'.vm.findClass own = some m.cls := by rw [hvm]; exact hown
  have hins : (Cond.instantiable cls 6).before args s' = true := h _ (by simp [Bundle.ownAtoms0])
  obtain ⟨vm₁, cX, kX, hfX, hkX, -, -, X₁, st1⟩ := Y.newCold hexec (own := own) (C := cls) (index := ik) (n := 6) hown' hk' hins hini'
    (g := F0 m pc ls rest) rfl (by rw [hb]; exact d0) (Nat.le_refl _) (Nat.le_refl _)
  generalize hT1 : (T.setVm vm₁).pushCell { cls := cX, slots := kX.instanceTypes.map defaultValue, vm := .none } = T1 at X₁ st1
  have hcat : (Value.ref T.heap.size).category = 1 := rfl
  have hcellA : T1.heap[T.heap.size]? = some (freshCell cX kX) := by rw [← hT1]; exact State.heap_pushCell_size _ _
  have d3' : decode c.code (pc + 3) = .ok (.dup, 1) := by rw [hb]; exact d3
  obtain ⟨U, hsteps, hrun, hend, hW, hsame, ce, hce, hO⟩ := X₁.ctorThrow0 hexec htr (own := own) (cls := cls) (names := names) (ic := ic) hown' hcls hnames h (fun x hx => nomatch hx) hfX hkX hcellA (by rw [hhp, hT]; exact Nat.le_refl _)
    (g := { method := m, pc := pc + 4, locals := ls, stack := .ref T.heap.size :: .ref T.heap.size :: rest, locked := none }) rfl hsize rfl rfl (rest := rest) rfl
    (by rw [hb]; exact d4) (by rw [hb]; exact d7) hout hRframes (by simp only [List.map_cons, List.sum_cons, hcat]; omega) hlocks
  obtain ⟨f1, f2⟩ := vx_frame hsame
  rw [hhp] at f1 f2
  have hWs : s.WarmedH U.vm := State.WarmedH.trans hW0 hW
  have hcl : s.vm.findClass cls = some ce.cls := by
    have h9 := hO.cls
    rw [hvm] at h9
    exact h9
  have hall : s.sameButNew ({ U with vm := s.vm } : State) locs mc ms := by
    subst hA
    obtain ⟨e1, e2⟩ := hsame
    rw [State.setFrames_setFrames] at e1
    have h2 : (T.setVm s.vm).sameButNew ({ U with vm := s.vm } : State) [] (0 + 1) (0 + 6) := ⟨e1, e2⟩
    have h3 := X.same.trans h2
    rw [List.append_nil] at h3
    exact h3.mono hc hs
  refine ⟨U, ?_, .threw T.heap.size, hrun, hend, Or.inr ⟨T.heap.size, rfl, cls, ce, locs, hx U hWs.alike f1 (fun q hq => f2 q hq (fun z hz => nomatch hz)), hce, hO.vm, hcl, hWs, hall, hf⟩⟩
  refine st1 _ ?_
  show Steps p.tables e below (T1.setTop { method := m, pc := pc + 3, locals := ls, stack := .ref T.heap.size :: rest, locked := none }) _
  jvm_step X₁.here [X₁.here.top, hexec, d3', Value.category]
  exact hsteps
/-- 'throw new E("text")': new; dup; ldc; invokespecial; athrow -/
theorem vx_throwS {cc : ByteArray} {pc : Nat} (hexec : p.tables.exec = Jvm.exec) (hb : c.code = cc) (hl : l.stackTraces = false) {own cls text : String} {names : List String} {ik is ic mc ms sa : Nat} {A : Nat → Prop}
    (hown : s.vm.findClass own = some m.cls) (hcls : Bundle.fit cls = true) (hnames : ∀ n ∈ names, Bundle.fit n = true)
    (hk : (Cond.classLink own ik cls).before args s = true) (hini : (Cond.initialized cls).before args s = true) (hstr : vk_R own is text sa s) (hat : ∀ w ∈ vx_atS own ic cls names, w.before args s = true)
    (hgood : ∀ w ∈ Cond.classLink own ik cls :: Cond.initialized cls :: vx_atS own ic cls names, vx_ot w = true)
    (hU : vx_Zq Bundle.tN "UNASSIGNED_STACK" Bundle.steD A s s.heap) (hN : vx_Zq Bundle.tN "SUPPRESSED_SENTINEL" Bundle.listD A s s.heap) (hS : va_S A s.heap H locs) (hsize : ls.size = c.maxLocals)
    (d0 : decode cc pc = .ok (.new ik, 3)) (d3 : decode cc (pc + 3) = .ok (.dup, 1)) (d4 : decode cc (pc + 4) = .ok (.ldc is, 2)) (d6 : decode cc (pc + 6) = .ok (.invokespecial ic, 3)) (d9 : decode cc (pc + 9) = .ok (.athrow, 1))
    (hout : ∀ x ∈ c.exceptionTable.toList, covers x (pc + 9) = false)
    (hRframes : names.length + 3 < R.frames) (hRlocals : (rest.map fun v => v.category).sum + (13 * (names.length + 1) + 43) ≤ R.locals) (hRcells : cells + 1 ≤ R.cells) (hRslots : slots + 6 ≤ R.slots) (hlocks : meth.locks = false)
    (hx : ∀ t : State, s.vm.Alike t.vm → H.size ≤ t.heap.size → (∀ q : Nat, q < H.size → t.heap[q]? = H[q]?) → XC cls s t)
    (hf : ∀ z ∈ locs, free z.base) (hc : cells + 1 ≤ mc) (hs : slots + 6 ≤ ms) :
    W p l e R s m args below meth c H locs cells slots (vx_MQ below Qc XC args s mc ms free) (F0 m pc ls rest) := by
  intro T hT X
  have htr : e.platform.stackTraces = false := (show e.platform.stackTraces = l.stackTraces by rw [X.admits.platform]).trans hl
  have Y := vx_rebase X (R' := { frames := R.frames, locals := R.locals, cells := 1, slots := 6 }) (Nat.le_refl _) (Nat.le_refl _) hRcells hRslots
  obtain ⟨s', hA⟩ : ∃ z, z = (T.setVm s.vm).setFrames (.invoking m args :: below) := ⟨_, rfl⟩
  rw [← hA] at Y
  have hvm : s'.vm = s.vm := by rw [hA]; rfl
  have hhp : s'.heap = H := by rw [hA]; exact hT
  have hW0 : s.WarmedH s'.vm := by rw [hvm]; exact State.WarmedH.refl s
  have hat' : ∀ w ∈ vx_atS own ic cls names, w.before args s' = true := fun w hw => vx_ot_at hW0 hvm.symm (hgood w (List.mem_cons_of_mem _ (List.mem_cons_of_mem _ hw))) (hat w hw)
  have hk' : (Cond.classLink own ik cls).before args s' = true := vx_ot_at hW0 hvm.symm (hgood _ List.mem_cons_self) hk
  have hini' : (Cond.initialized cls).before args s' = true := vx_ot_at hW0 hvm.symm (hgood _ (List.mem_cons_of_mem _ List.mem_cons_self)) hini
  have hU' : vx_Zq Bundle.tN "UNASSIGNED_STACK" Bundle.steD A s' s'.heap := by rw [hhp]; exact vx_Zq.moved hW0.alike (hU.kept hS.2.1)
  have hN' : vx_Zq Bundle.tN "SUPPRESSED_SENTINEL" Bundle.listD A s' s'.heap := by rw [hhp]; exact vx_Zq.moved hW0.alike (hN.kept hS.2.1)
  have h : ∀ w ∈ Bundle.ownAtoms own ic cls names, w.before args s' = true := vx_own hat' (vx_isRefq hU'.1) (vx_isRefq hN'.1) hU'.2.word hN'.2.word
  have hown' : s'.vm.findClass own = some m.cls := by rw [hvm]; exact hown
  have hins : (Cond.instantiable cls 6).before args s' = true := h _ (by simp [Bundle.ownAtoms])
  obtain ⟨vm₁, cX, kX, hfX, hkX, -, -, X₁, st1⟩ := Y.newCold hexec (own := own) (C := cls) (index := ik) (n := 6) hown' hk' hins hini'
    (g := F0 m pc ls rest) rfl (by rw [hb]; exact d0) (Nat.le_refl _) (Nat.le_refl _)
  generalize hT1 : (T.setVm vm₁).pushCell { cls := cX, slots := kX.instanceTypes.map defaultValue, vm := .none } = T1 at X₁ st1
  have hcat : (Value.ref T.heap.size).category = 1 := rfl
  have hcellA : T1.heap[T.heap.size]? = some (freshCell cX kX) := by rw [← hT1]; exact State.heap_pushCell_size _ _
  have d3' : decode c.code (pc + 3) = .ok (.dup, 1) := by rw [hb]; exact d3
  have d4' : decode c.code (pc + 4) = .ok (.ldc is, 2) := by rw [hb]; exact d4
  have hstr' : vk_R own is text sa s' := vk_R.warm hW0 hstr
  obtain ⟨U, hsteps, hrun, hend, hW, hsame, ce, hce, hO⟩ := X₁.ctorThrowS hexec htr (own := own) (cls := cls) (names := names) (ic := ic) hown' hcls hnames h (fun x hx => nomatch hx) hfX hkX hcellA (by rw [hhp, hT]; exact Nat.le_refl _) (msg := .ref sa) rfl
    (g := { method := m, pc := pc + 6, locals := ls, stack := .ref sa :: .ref T.heap.size :: .ref T.heap.size :: rest, locked := none }) rfl hsize rfl rfl (rest := rest) rfl
    (by rw [hb]; exact d6) (by rw [hb]; exact d9) hout hRframes (by simp only [List.map_cons, List.sum_cons, hcat]; omega) hlocks
  obtain ⟨f1, f2⟩ := vx_frame hsame
  rw [hhp] at f1 f2
  have hWs : s.WarmedH U.vm := State.WarmedH.trans hW0 hW
  have hcl : s.vm.findClass cls = some ce.cls := by
    have h9 := hO.cls
    rw [hvm] at h9
    exact h9
  have hall : s.sameButNew ({ U with vm := s.vm } : State) locs mc ms := by
    subst hA
    obtain ⟨e1, e2⟩ := hsame
    rw [State.setFrames_setFrames] at e1
    have h2 : (T.setVm s.vm).sameButNew ({ U with vm := s.vm } : State) [] (0 + 1) (0 + 6) := ⟨e1, e2⟩
    have h3 := X.same.trans h2
    rw [List.append_nil] at h3
    exact h3.mono hc hs
  refine ⟨U, ?_, .threw T.heap.size, hrun, hend, Or.inr ⟨T.heap.size, rfl, cls, ce, locs, hx U hWs.alike f1 (fun q hq => f2 q hq (fun z hz => nomatch hz)), hce, hO.vm, hcl, hWs, hall, hf⟩⟩
  refine st1 _ ?_
  show Steps p.tables e below (T1.setTop { method := m, pc := pc + 3, locals := ls, stack := .ref T.heap.size :: rest, locked := none }) _
  jvm_step X₁.here [X₁.here.top, hexec, d3', Value.category]
  exact X₁.ldcString hexec (own := own) (text := text) (index := is) (a := sa) hown' hstr'.1 hstr'.2
    (g := { method := m, pc := pc + 4, locals := ls, stack := .ref T.heap.size :: .ref T.heap.size :: rest, locked := none }) rfl d4' _ hsteps
/-- 'throw new E("text")', the text by a wide index -/
theorem vx_throwSW {cc : ByteArray} {pc : Nat} (hexec : p.tables.exec = Jvm.exec) (hb : c.code = cc) (hl : l.stackTraces = false) {own cls text : String} {names : List String} {ik is ic mc ms sa : Nat} {A : Nat → Prop}
    (hown : s.vm.findClass own = some m.cls) (hcls : Bundle.fit cls = true) (hnames : ∀ n ∈ names, Bundle.fit n = true)
    (hk : (Cond.classLink own ik cls).before args s = true) (hini : (Cond.initialized cls).before args s = true) (hstr : vk_R own is text sa s) (hat : ∀ w ∈ vx_atS own ic cls names, w.before args s = true)
    (hgood : ∀ w ∈ Cond.classLink own ik cls :: Cond.initialized cls :: vx_atS own ic cls names, vx_ot w = true)
    (hU : vx_Zq Bundle.tN "UNASSIGNED_STACK" Bundle.steD A s s.heap) (hN : vx_Zq Bundle.tN "SUPPRESSED_SENTINEL" Bundle.listD A s s.heap) (hS : va_S A s.heap H locs) (hsize : ls.size = c.maxLocals)
    (d0 : decode cc pc = .ok (.new ik, 3)) (d3 : decode cc (pc + 3) = .ok (.dup, 1)) (d4 : decode cc (pc + 4) = .ok (.ldc_w is, 3)) (d7 : decode cc (pc + 7) = .ok (.invokespecial ic, 3)) (d10 : decode cc (pc + 10) = .ok (.athrow, 1))
    (hout : ∀ x ∈ c.exceptionTable.toList, covers x (pc + 10) = false)
    (hRframes : names.length + 3 < R.frames) (hRlocals : (rest.map fun v => v.category).sum + (13 * (names.length + 1) + 43) ≤ R.locals) (hRcells : cells + 1 ≤ R.cells) (hRslots : slots + 6 ≤ R.slots) (hlocks : meth.locks = false)
    (hx : ∀ t : State, s.vm.Alike t.vm → H.size ≤ t.heap.size → (∀ q : Nat, q < H.size → t.heap[q]? = H[q]?) → XC cls s t)
    (hf : ∀ z ∈ locs, free z.base) (hc : cells + 1 ≤ mc) (hs : slots + 6 ≤ ms) :
    W p l e R s m args below meth c H locs cells slots (vx_MQ below Qc XC args s mc ms free) (F0 m pc ls rest) := by
  intro T hT X
  have htr : e.platform.stackTraces = false := (show e.platform.stackTraces = l.stackTraces by rw [X.admits.platform]).trans hl
  have Y := vx_rebase X (R' := { frames := R.frames, locals := R.locals, cells := 1, slots := 6 }) (Nat.le_refl _) (Nat.le_refl _) hRcells hRslots
  obtain ⟨s', hA⟩ : ∃ z, z = (T.setVm s.vm).setFrames (.invoking m args :: below) := ⟨_, rfl⟩
  rw [← hA] at Y
  have hvm : s'.vm = s.vm := by rw [hA]; rfl
  have hhp : s'.heap = H := by rw [hA]; exact hT
  have hW0 : s.WarmedH s'.vm := by rw [hvm]; exact State.WarmedH.refl s
  have hat' : ∀ w ∈ vx_atS own ic cls names, w.before args s' = true := fun w hw => vx_ot_at hW0 hvm.symm (hgood w (List.mem_cons_of_mem _ (List.mem_cons_of_mem _ hw))) (hat w hw)
  have hk' : (Cond.classLink own ik cls).before args s' = true := vx_ot_at hW0 hvm.symm (hgood _ List.mem_cons_self) hk
  have hini' : (Cond.initialized cls).before args s' = true := vx_ot_at hW0 hvm.symm (hgood _ (List.mem_cons_of_mem _ List.mem_cons_self)) hini
  have hU' : vx_Zq Bundle.tN "UNASSIGNED_STACK" Bundle.steD A s' s'.heap := by rw [hhp]; exact vx_Zq.moved hW0.alike (hU.kept hS.2.1)
  have hN' : vx_Zq Bundle.tN "SUPPRESSED_SENTINEL" Bundle.listD A s' s'.heap := by rw [hhp]; exact vx_Zq.moved hW0.alike (hN.kept hS.2.1)
  have h : ∀ w ∈ Bundle.ownAtoms own ic cls names, w.before args s' = true := vx_own hat' (vx_isRefq hU'.1) (vx_isRefq hN'.1) hU'.2.word hN'.2.word
  have hown' : s'.vm.findClass own = some m.cls := by rw [hvm]; exact hown
  have hins : (Cond.instantiable cls 6).before args s' = true := h _ (by simp [Bundle.ownAtoms])
  obtain ⟨vm₁, cX, kX, hfX, hkX, -, -, X₁, st1⟩ := Y.newCold hexec (own := own) (C := cls) (index := ik) (n := 6) hown' hk' hins hini'
    (g := F0 m pc ls rest) rfl (by rw [hb]; exact d0) (Nat.le_refl _) (Nat.le_refl _)
  generalize hT1 : (T.setVm vm₁).pushCell { cls := cX, slots := kX.instanceTypes.map defaultValue, vm := .none } = T1 at X₁ st1
  have hcat : (Value.ref T.heap.size).category = 1 := rfl
  have hcellA : T1.heap[T.heap.size]? = some (freshCell cX kX) := by rw [← hT1]; exact State.heap_pushCell_size _ _
  have d3' : decode c.code (pc + 3) = .ok (.dup, 1) := by rw [hb]; exact d3
  have d4' : decode c.code (pc + 4) = .ok (.ldc_w is, 3) := by rw [hb]; exact d4
  have hstr' : vk_R own is text sa s' := vk_R.warm hW0 hstr
  obtain ⟨U, hsteps, hrun, hend, hW, hsame, ce, hce, hO⟩ := X₁.ctorThrowS hexec htr (own := own) (cls := cls) (names := names) (ic := ic) hown' hcls hnames h (fun x hx => nomatch hx) hfX hkX hcellA (by rw [hhp, hT]; exact Nat.le_refl _) (msg := .ref sa) rfl
    (g := { method := m, pc := pc + 7, locals := ls, stack := .ref sa :: .ref T.heap.size :: .ref T.heap.size :: rest, locked := none }) rfl hsize rfl rfl (rest := rest) rfl
    (by rw [hb]; exact d7) (by rw [hb]; exact d10) hout hRframes (by simp only [List.map_cons, List.sum_cons, hcat]; omega) hlocks
  obtain ⟨f1, f2⟩ := vx_frame hsame
  rw [hhp] at f1 f2
  have hWs : s.WarmedH U.vm := State.WarmedH.trans hW0 hW
  have hcl : s.vm.findClass cls = some ce.cls := by
    have h9 := hO.cls
    rw [hvm] at h9
    exact h9
  have hall : s.sameButNew ({ U with vm := s.vm } : State) locs mc ms := by
    subst hA
    obtain ⟨e1, e2⟩ := hsame
    rw [State.setFrames_setFrames] at e1
    have h2 : (T.setVm s.vm).sameButNew ({ U with vm := s.vm } : State) [] (0 + 1) (0 + 6) := ⟨e1, e2⟩
    have h3 := X.same.trans h2
    rw [List.append_nil] at h3
    exact h3.mono hc hs
  refine ⟨U, ?_, .threw T.heap.size, hrun, hend, Or.inr ⟨T.heap.size, rfl, cls, ce, locs, hx U hWs.alike f1 (fun q hq => f2 q hq (fun z hz => nomatch hz)), hce, hO.vm, hcl, hWs, hall, hf⟩⟩
  refine st1 _ ?_
  show Steps p.tables e below (T1.setTop { method := m, pc := pc + 3, locals := ls, stack := .ref T.heap.size :: rest, locked := none }) _
  jvm_step X₁.here [X₁.here.top, hexec, d3', Value.category]
  exact X₁.ldcStringW hexec (own := own) (text := text) (index := is) (a := sa) hown' hstr'.1 hstr'.2
    (g := { method := m, pc := pc + 4, locals := ls, stack := .ref T.heap.size :: .ref T.heap.size :: rest, locked := none }) rfl d4' _ hsteps
end Ends
section Bodies
variable {l : Launch}
theorem vx_ofW {y : MethodName} {ws ws' : List Cond} {rm : Room} {Pc : Array Value → State → Prop} {Qc : Array Value → State → Outcome → State → Prop} {XC : String → State → State → Prop} {mc ms : Nat} {free : Addr → Prop} {cc : ByteArray} {maxL : Nat} {ret : Option FieldType}
    (hy : plainName y.cls = true) (hw : ws = Cond.code y cc maxL ret :: ws')
    (body : ∀ p e s m args below meth c s₁, BodyLoose p l y (headSpec ws rm) cc maxL ret e s m args below meth c s₁ → c.maxLocals = maxL → (∀ x ∈ c.exceptionTable.toList, False) → Pc args s →
      W p l e (headSpec ws rm).room s m args below meth c s.heap [] 0 0 (vx_MQ below Qc XC args s mc ms free) (entryFrame m args maxL)) : vx_Met l y ws rm Pc Qc XC mc ms free := by
  refine MetFree.of_bodyS (code := cc) (maxLocals := maxL) (ret := ret) hy ?_ ?_
  · intro args s m h hn
    obtain ⟨meth, c, h1, h2, h3, h4, h5, h6, -, -⟩ := Cond.code_spec hn (atoms_spec (ws := ws) h _ (by rw [hw]; exact List.mem_cons_self))
    exact ⟨meth, c, h1, h2, h3, h4, h5, h6⟩
  · intro p e s m args below meth c s₁ B hml hP _
    have hh0 : s₁.heap = s.heap := by rw [B.state]; rfl
    have ht : ∀ x ∈ c.exceptionTable.toList, False := by
      obtain ⟨meth9, c9, h1, h2, -, -, -, -, h7, -⟩ := Cond.code_spec B.named (atoms_spec (ws := ws) B.pre _ (by rw [hw]; exact List.mem_cons_self))
      cases Option.some.inj (h1.symm.trans B.method)
      cases Option.some.inj (h2.symm.trans (Stand.of_body B).code)
      intro x hx
      rw [Array.isEmpty_iff.mp h7] at hx
      cases hx
    obtain ⟨t, a1, o, b1, b2, b3⟩ := body p e s m args below meth c s₁ B hml ht hP s₁ hh0 (Stand.of_body B)
    exact ⟨t, o, a1, b1, b2, b3⟩
/-- the table of a body with handlers -/
theorem vx_table {p : Program} {x y : MethodName} {S : Spec} {cc bytes : ByteArray} {maxL maxL' : Nat} {ret ret' : Option FieldType} {e : Env} {s s₁ : State} {m : MethodId} {args : Array Value} {below : List Frame} {meth : Method} {c : Code} {hh : List (Nat × Nat × Nat × Nat)}
    (B : BodyLoose p l y S cc maxL ret e s m args below meth c s₁) (h : (Cond.codeWith y bytes maxL' ret' hh).before args s = true) : c.exceptionTable.toList = tableOf hh := by
  obtain ⟨m9, meth9, c9, hn9, h1, h2, -, -, h6, -⟩ := Cond.codeWith_spec h
  cases Option.some.inj (hn9.symm.trans B.named)
  cases Option.some.inj (h1.symm.trans B.method)
  cases Option.some.inj (h2.symm.trans (Stand.of_body B).code)
  rw [← h6, table_eq]
end Bodies
end VXA
/-! ===== END ===== -/
/-! ===== BEGIN a static call of a method with an exception table ===== -/
section VXS
variable {p : Program} {l : Launch} {e : Env} {R : Room} {s : State} {m : MethodId} {args : Array Value} {below : List Frame} {meth : Method} {c : Code} {T : State} {H : Heap} {locs : List Loc} {cells slots : Nat}
abbrev vx_CSW (R : Room) (s : State) (args : Array Value) (own : String) (index : Nat) (y : MethodName) (bytes : ByteArray) (maxL : Nat) (ret : Option FieldType) (hh : List (Nat × Nat × Nat × Nat)) (ws : List Cond) (rm : Room) (mc ms n : Nat) : Prop :=
  (rm.cells = mc ∧ rm.slots = ms ∧ rm.frames + 1 ≤ R.frames ∧ 8 + (maxL + 11) + rm.locals ≤ R.locals ∧ (∀ w ∈ ws, ∀ (a' : Array Value) (U : State), s.WarmedH U.vm → w.before a' U = true) ∧ Cond.codeWith y bytes maxL ret hh ∈ ws) ∧
  (Cond.codeWith y bytes maxL ret hh).before args s = true ∧ (Cond.initialized y.cls).before args s = true ∧ (y.cls ≠ "java/lang/invoke/MethodHandle" ∧ y.cls ≠ "java/lang/invoke/VarHandle") ∧
  (∀ sig, parseMethodDescriptor y.desc = some sig → n = sig.parameters.length) ∧ (Cond.methodLink own index y).before args s = true ∧ (Cond.static y).before args s = true
theorem vx_cwSW {own : String} {index maxL mc ms : Nat} {y : MethodName} {bytes : ByteArray} {ret : Option FieldType} {hh : List (Nat × Nat × Nat × Nat)} {Ts ws ws' : List Cond} {rm : Room} (n : Nat) (ht : ∀ w ∈ Ts, w.before args s = true) (hT : GoodIn Ts (va_wsS own index y ws)) (hw : ws = Cond.codeWith y bytes maxL ret hh :: ws') (hrc : rm.cells = mc) (hrs : rm.slots = ms)
    (hd : y.cls ≠ "java/lang/invoke/MethodHandle" ∧ y.cls ≠ "java/lang/invoke/VarHandle" ∧ (parseMethodDescriptor y.desc).map (fun d => d.parameters.length) = some n) (hR : rm.frames + 1 ≤ R.frames ∧ 8 + (maxL + 11) + rm.locals ≤ R.locals) :
    vx_CSW R s args own index y bytes maxL ret hh ws rm mc ms n := by
  have ok : ∀ w ∈ va_wsS own index y ws, w.before args s = true := fun w h => ht w (hT w h).1
  have hG : GoodIn Ts ws := fun w h => hT w (by unfold va_wsS; exact List.mem_append_right _ h)
  have hc : Cond.codeWith y bytes maxL ret hh ∈ ws := by rw [hw]; exact List.mem_cons_self
  refine ⟨⟨hrc, hrs, hR.1, hR.2, pay_in ht hG, hc⟩, ht _ (hG _ hc).1, ok _ (by simp [va_wsS]), ⟨hd.1, hd.2.1⟩, fun sig h => ?_, ok _ (by simp [va_wsS]), ok _ (by simp [va_wsS])⟩
  have h2 := hd.2.2
  rw [h] at h2
  exact (Option.some.inj h2).symm
theorem vx_callSW (X : Stand p l e R s m args below meth c T locs cells slots) (hexec : p.tables.exec = Jvm.exec) {own : String} {index : Nat} {y : MethodName} {bytes : ByteArray} {maxL : Nat} {ret : Option FieldType} {hh : List (Nat × Nat × Nat × Nat)}
    (hown : s.vm.findClass own = some m.cls) (hlink : (Cond.methodLink own index y).before args s = true) (hstat : (Cond.static y).before args s = true) (hinit : (Cond.initialized y.cls).before args s = true)
    (hcode : (Cond.codeWith y bytes maxL ret hh).before args s = true) (hy : y.cls ≠ "java/lang/invoke/MethodHandle" ∧ y.cls ≠ "java/lang/invoke/VarHandle")
    {W9 : Nat} {Pre : Pt → Array Value → Prop} {Post : Pt → Array Value → Option Value → Pt → Prop} (hK : Back l R p e below s args y 3 W9 Pre Post)
    {g : JFrame} (hg : g.method = m) (hsize : g.locals.size = c.maxLocals) {argsL rest : List Value} (hlen : ∀ sig, parseMethodDescriptor y.desc = some sig → argsL.length = sig.parameters.length)
    (hstack : g.stack = argsL.reverse ++ rest) (hW : 2 * g.monitorRoom + (rest.map fun v => v.category).sum ≤ W9) (hdg : decode c.code g.pc = .ok (.invokestatic index, 3))
    (hpre : ∀ vm₁, s.WarmedH vm₁ → Pre ⟨T.setVm vm₁, locs, cells, slots⟩ argsL.toArray) :
    ∃ (v : Option Value) (vm₁ : Vm) (B : Pt), s.WarmedH vm₁ ∧ Stand p l e R s m args below meth c B.U B.locs B.cells B.slots ∧ Post ⟨T.setVm vm₁, locs, cells, slots⟩ argsL.toArray v B ∧
      ∀ target, Steps p.tables e below (B.U.setTop { g with pc := g.pc + 3, stack := v.toList ++ rest }) target → Steps p.tables e below (T.setTop g) target := by
  obtain ⟨mk, methM, cM, hnamed, hmethM, -, -, -, -, -, -, hsigM⟩ := Cond.codeWith_spec hcode
  have hstatic : methM.isStatic = true := Cond.static_spec hnamed hmethM hstat
  obtain ⟨kP, hkP, -⟩ := className_of_methodNamed hnamed
  have hinitP : kP.init = .initialized := Cond.initialized_spec (findClass_of_methodNamed hnamed) hkP hinit
  obtain ⟨vm₁, X₁, hstep₁⟩ := X.invokestatic hexec hown hlink hnamed hmethM hstatic hkP hinitP hy (g := g) hg (argsL := argsL) (rest := rest) (hlen _ hsigM) hstack hdg
  obtain ⟨v, B, X', hpost, hsteps⟩ := hK m meth c ⟨T.setVm vm₁, locs, cells, slots⟩ { g with stack := rest } (.invokestatic index) mk argsL.toArray X₁ hg hsize hdg hW (X₁.named hnamed) (hpre vm₁ X₁.warmed)
  exact ⟨v, vm₁, B, X₁.warmed, X', hpost, fun target h => hstep₁ _ fun acts => by rw [doInvoke_state]; exact hsteps.trans h⟩
theorem vx_runSW {y : MethodName} {bytes cc : ByteArray} {maxL nL mc ms n index : Nat} {ret : Option FieldType} {hh : List (Nat × Nat × Nat × Nat)} {ws : List Cond} {rm : Room} {Pc : Array Value → State → Prop} {Qc : Array Value → State → Outcome → State → Prop} {free : Addr → Prop} {Ts : List Cond} {own : String} {As rest : List Value} {g : JFrame}
    (S : CallFix p m c cc nL s args Ts own) (hM : Met l y ws rm Pc Qc mc ms free) (cw : vx_CSW R s args own index y bytes maxL ret hh ws rm mc ms n) (hp : PreS s H Pc As)
    (hg : g.method = m) (hn : As.length = n) (hsize : g.locals.size = nL) (hstack : g.stack = As.reverse ++ rest) (hW : 2 * g.monitorRoom + (rest.map fun v => v.category).sum ≤ 8) (hdg : decode cc g.pc = .ok (.invokestatic index, 3)) (hf : cells + mc ≤ R.cells ∧ slots + ms ≤ R.slots) :
    va_Run p l e R s m args below meth c H locs cells slots mc ms g rest (Qc As.toArray) (free) := by
  obtain ⟨⟨hrc, hrs, hfr, hlo, hws, hcw⟩, hcode, hini, hy, hlen, hl, hstt⟩ := cw
  have hK : Back l R p e below s args y 3 8 (PreOf R mc ms Pc) (PostOf Qc mc ms free) := va_backW (hh := hh) (bytes := bytes) (maxL := maxL) (ret := ret) hM hp.1 hrc hrs hfr hlo hws hcw (fun a' U hW => word_at hW (Or.inl (by first | rfl | simp [Cond.onTables, Cond.keeps, Cond.steady])) hini)
  obtain ⟨hx, hb, hml, ho, -⟩ := S
  intro T hT X
  obtain ⟨v, vm₁, ⟨U', l2, c2, s2⟩, hW₁, X', ⟨g', mk, t, L, e1, e2, hq, h1, hL, h2, h3⟩, st⟩ := vx_callSW X hx (hh := hh) (bytes := bytes) (maxL := maxL) (ret := ret) ho hl hstt hini hcode hy hK hg (hsize.trans hml.symm) (argsL := As) (rest := rest) (fun sig h => hn.trans (hlen sig h)) hstack hW (by rw [hb]; exact hdg)
    (fun vm₁ hW₁ => ⟨hf.1, hf.2, hp.2 (T.setVm vm₁) hT hW₁⟩)
  dsimp only [Pt.U, Pt.locs, Pt.cells, Pt.slots] at X' e1 e2 h1 h2 h3 st
  subst h1; subst h2; subst h3
  exact ⟨v, (T.setVm vm₁).calling g' mk As.toArray, t, U', L, hT, X', hL, e1, e2, hq, st⟩
/-- not caught here, past rows that name other classes: it goes on to the caller -/
theorem vx_outP {p : Program} {l : Launch} {e : Env} {R : Room} {s : State} {m : MethodId} {args : Array Value} {below : List Frame} {meth : Method} {c : Code} {H : Heap} {locs : List Loc} {cells slots : Nat} {free : Addr → Prop} {ls : Array Slot} {rest : List Value} {Qc : Array Value → State → Outcome → State → Prop} {XC : String → State → State → Prop}
    {pc : Nat} {own E : String} {ce : Cell} {q : Addr} {mc ms : Nat} (hown : s.vm.findClass own = some m.cls) (hlocks : meth.locks = false)
    (hpass : ∀ z ∈ c.exceptionTable.toList, covers z pc = false ∨ (z.catchType ≠ 0 ∧ ∃ nm : String, (Cond.classLink own z.catchType nm).before args s = true ∧ va_Nc E nm s)) (hcell : H[q]? = some ce) (hv : ce.vm = .none) (hcl : s.vm.findClass E = some ce.cls)
    (hx : ∀ t : State, t.heap = H → s.vm.Alike t.vm → XC E s t) (hf : ∀ z ∈ locs, free z.base) (hc : cells ≤ mc) (hs : slots ≤ ms) :
    vx_W p l e R s m args below meth c H locs cells slots (vx_MQ below Qc XC args s mc ms free) (F0 m pc ls rest) q := by
  intro T hT X
  have hpl : e.platform.magicAccessors = ({} : Platform).magicAccessors := by rw [X.admits.platform]
  obtain ⟨vm', hW', X', st⟩ := X.outThrough hlocks q (g := F0 m pc ls rest) rfl rfl rfl (cell := ce) (by rw [hT]; exact hcell) (by rw [hv]; rfl)
    (by obtain ⟨k9, h9, -⟩ := Vm.findClass_spec hcl; exact ⟨k9, h9⟩) (fun z hz => by
      rcases hpass z hz with h | ⟨hz0, nm, hl1, hn1⟩
      · exact Or.inl h
      · obtain ⟨c6, hc6, hcl6⟩ := Cond.classLink_spec hown hl1 e.platform hpl
        obtain ⟨a8, b8, h1, h2, h3⟩ := hn1
        cases Option.some.inj (h1.symm.trans hcl)
        cases Option.some.inj (h2.symm.trans hc6)
        exact Or.inr ⟨hz0, _, hcl6, h3⟩)
  obtain ⟨g₀, hfr⟩ := X'.frames_eq
  have hcell9 : ((T.setVm vm').setFrames (.throwing q :: below)).heap[q]? = some ce := by
    show T.heap[q]? = some ce
    rw [hT]; exact hcell
  have hend : Ended ((T.setVm vm').setFrames (.throwing q :: below)) below (.threw q) := State.frames_setFrames _ (State.cur_lt_of_frames hfr)
  refine ⟨(T.setVm vm').setFrames (.throwing q :: below), ?_, .threw q, X'.here.running, hend, Or.inr ⟨q, rfl, E, ce, locs, hx _ hT (X'.ends _).1.alike, hcell9, hv, hcl, (X'.ends _).1, (X'.ends _).2.mono hc hs, hf⟩⟩
  rw [X.pushThrowing_eq]
  exact st
/-- a thing of a world lies in the heap -/
theorem vx_lt {D : va_G} {cl : List vw_C} {ws : va_W} {H1 : Heap} (h : va_P D cl ws H1) {k : Nat} {q : Nat × va_E} (hk : ws[k]? = some q) : q.1 < H1.size := (h k q hk).lt
end VXS
/-! ===== END ===== -/
/-! ===== BEGIN methods with a table of their own: called by a name, returning or throwing ===== -/
section VXH
/-! vx_backW, vx_callVX, vx_callSX, vx_callVW, vx_runVW, vx_runVX, vx_runSX, vx_ofWH follow the same proofs as their sisters above (Free/Laws.lean, Shelf42/LK1.lean); vx_outP calls Shelf42/NT130.lean (outThrough). -/
section
variable {l : Launch} {R : Room} {p : Program} {e : Env} {below : List Frame} {s : State} {sargs : Array Value} {y : MethodName} {len W9 : Nat}
theorem vx_backW {ws : List Cond} {rm : Room} {Pc : Array Value → State → Prop} {Qc : Array Value → State → Outcome → State → Prop} {XC : String → State → State → Prop} {mc ms : Nat} {free : Addr → Prop} {bytes : ByteArray} {maxL : Nat} {ret : Option FieldType} {hh : List (Nat × Nat × Nat × Nat)}
    (hM : vx_Met l y ws rm Pc Qc XC mc ms free) (hblind : FrameBlind Pc) (hrc : rm.cells = mc) (hrs : rm.slots = ms)
    (hframes : rm.frames + 1 ≤ R.frames) (hlocals : W9 + (maxL + 11) + rm.locals ≤ R.locals)
    (hws : ∀ w ∈ ws, ∀ a' U, s.WarmedH U.vm → w.before a' U = true) (hcode : Cond.codeWith y bytes maxL ret hh ∈ ws) (hinit : ∀ a' U, s.WarmedH U.vm → (Cond.initialized y.cls).before a' U = true) :
    vx_Back l R p e below s sargs y len W9 (PreOf R mc ms Pc) (PostOf Qc mc ms free) (vx_Post XC mc ms free) := by
  intro m meth c A g ig mk a X hg hsize hdg hW hn hp
  have h1 : (headSpec ws rm).pre.before a A.U = true := atoms_intro fun w hw => hws w hw _ _ X.warmed
  have h2 : (Cond.codeWith y bytes maxL ret hh).before a A.U = true := hws _ hcode _ _ X.warmed
  have h3 : (Cond.initialized y.cls).before a A.U = true := hinit _ _ X.warmed
  have h4 : A.cells + (headSpec ws rm).room.cells ≤ R.cells := by rw [show (headSpec ws rm).room.cells = mc from hrc]; exact hp.1
  have h5 : A.slots + (headSpec ws rm).room.slots ≤ R.slots := by rw [show (headSpec ws rm).room.slots = ms from hrs]; exact hp.2.1
  have hPc : Pc a (A.U.calling g mk a) := hblind _ _ _ _ hp.2.2
  obtain ⟨U, Ls, c0, s0⟩ := A
  dsimp only [Pt.U, Pt.locs, Pt.cells, Pt.slots] at h1 h2 h3 h4 h5 X hn hPc ⊢
  obtain ⟨m9, methY, cY, hn9, hmY, hcY, -, hlY, -⟩ := Cond.codeWith_spec h2
  cases Option.some.inj (hn9.symm.trans hn)
  obtain ⟨kY, hkY, -⟩ := className_of_methodNamed hn
  have hinitY : kY.init = .initialized := Cond.initialized_spec (findClass_of_methodNamed hn) hkY h3
  have h : At U g.method c below := by rw [hg]; exact X.here
  have hlocals9 : W9 + (maxL + 11) + (headSpec ws rm).room.locals ≤ R.locals := hlocals
  have happ : (headSpec ws rm).appliesLoose y e.platform (U.calling g mk a) = true :=
    Spec.appliesLoose_calling (g := g) h hdg hn hkY hinitY
      (X.room_calling (g := g) (R' := (headSpec ws rm).room) hsize hmY hcY hframes (by rw [hlY]; omega) h4 h5) h1
  obtain ⟨mid, hmid⟩ := h.above
  have hfr : (U.setTop g).frames = (.java g :: mid) ++ below := by rw [State.frames_setTop' g h.top, hmid]; rfl
  obtain ⟨o, s₂, hsteps, -, hend, hq⟩ := Steps.callFree hM p X.admits X.cas X.clock (acts := []) hfr happ hPc trivial
  have hq' : vx_Q Qc XC mc ms free a (U.calling g mk a) o s₂ := hq
  rw [State.frames_setTop' g h.top] at hend
  obtain ⟨g₀, hg0⟩ := Option.isSome_iff_exists.mp h.top
  obtain ⟨r, hr⟩ := State.topJava?_eq_some.mp hg0
  have hr' : (({ U with heap := s₂.heap, slotsUsed := s₂.slotsUsed } : State).setVm s₂.vm).frames = .java g₀ :: r := hr
  rcases hq' with ⟨hqc, L, hfe, hL⟩ | ⟨q, rfl, E, ce, L, hx, hce, hcv, hcl, hW₂, hsm, hL⟩
  · obtain ⟨⟨v, rfl⟩, hW₂, e2, q2, q3, q4, q5, q6⟩ := id hfe
    have e3 : s₂ = ({ (U.calling g mk a).setFrames s₂.frames with heap := s₂.heap, slotsUsed := s₂.slotsUsed } : State).setVm s₂.vm := by
      have : s₂ = ({ s₂ with vm := (U.calling g mk a).vm } : State).setVm s₂.vm := rfl
      rw [e2] at this
      exact this
    obtain ⟨c₂, i₂, len₂, hc₂, hd₂, hf₂⟩ := hend
    have hW' : U.WarmedH s₂.vm := hW₂
    have hcc : c₂ = c := by
      have h1 : s₂.code? g.method = U.code? g.method := by
        rw [State.code?_eq, State.code?_eq, hW'.alike.method?]
      exact Option.some.inj (hc₂.symm.trans (h1.trans h.code))
    subst hcc
    have hlen : len₂ = len := by rw [hdg] at hd₂; cases hd₂; rfl
    subst hlen
    have hs₂ : s₂ = (({ U with heap := s₂.heap, slotsUsed := s₂.slotsUsed } : State).setVm s₂.vm).setTop { g with pc := g.pc + len₂, stack := v.toList ++ g.stack } := by
      refine e3.trans ?_
      rw [hf₂, State.calling_eq h.top, State.setFrames_setFrames, State.setTop_of_frames _ hr', hr]
      rfl
    have hsame : U.sameButNew ({ U with heap := s₂.heap, slotsUsed := s₂.slotsUsed } : State) L mc ms := by
      refine ⟨?_, q2, q3, q4, q5, q6⟩
      obtain ⟨t, ht, -⟩ := State.frames_cons hr
      show ({ U with heap := s₂.heap, slotsUsed := s₂.slotsUsed } : State) = { U.setFrames U.frames with heap := s₂.heap, slotsUsed := s₂.slotsUsed }
      rw [State.setFrames_self ht]
    subst hg
    refine Or.inl ⟨v, ⟨(({ U with heap := s₂.heap, slotsUsed := s₂.slotsUsed } : State).setVm s₂.vm), Ls ++ L, c0 + mc, s0 + ms⟩,
      ⟨X.admits, X.cas, X.clock, X.frames, X.room, X.hears, X.method, X.code, (X.here.setHeapUsed s₂.heap s₂.slotsUsed).setVm hW'.alike, X.tail, State.WarmedH.trans X.warmed hW', X.limits, X.bytes, X.same.trans (hsame.setVm s.vm)⟩,
      ⟨g, mk, s₂, L, rfl, rfl, hqc, rfl, hL, rfl, rfl⟩, ?_⟩
    show Steps p.tables e below _ ((({ U with heap := s₂.heap, slotsUsed := s₂.slotsUsed } : State).setVm s₂.vm).setTop { g with pc := g.pc + len₂, stack := v.toList ++ g.stack })
    rw [← hs₂]
    exact hsteps
  · obtain ⟨e2, q2, q3, q4, q5, q6⟩ := id hsm
    have e3 : s₂ = ({ (U.calling g mk a).setFrames s₂.frames with heap := s₂.heap, slotsUsed := s₂.slotsUsed } : State).setVm s₂.vm := by
      have : s₂ = ({ s₂ with vm := (U.calling g mk a).vm } : State).setVm s₂.vm := rfl
      rw [e2] at this
      exact this
    have hf₂ : s₂.frames = .throwing q :: .java g :: U.frames.tail := hend
    have hW' : U.WarmedH s₂.vm := hW₂
    have hs₂ : s₂ = ((({ U with heap := s₂.heap, slotsUsed := s₂.slotsUsed } : State).setVm s₂.vm).setTop g).pushFrame (.throwing q) := by
      refine e3.trans ?_
      rw [hf₂, State.calling_eq h.top, State.setFrames_setFrames, State.pushFrame, State.frames_setTop _ hr', State.setTop_of_frames _ hr', State.setFrames_setFrames, hr]
      rfl
    have hsame : U.sameButNew ({ U with heap := s₂.heap, slotsUsed := s₂.slotsUsed } : State) L mc ms := by
      refine ⟨?_, q2, q3, q4, q5, q6⟩
      obtain ⟨t, ht, -⟩ := State.frames_cons hr
      show ({ U with heap := s₂.heap, slotsUsed := s₂.slotsUsed } : State) = { U.setFrames U.frames with heap := s₂.heap, slotsUsed := s₂.slotsUsed }
      rw [State.setFrames_self ht]
    subst hg
    refine Or.inr ⟨q, ⟨(({ U with heap := s₂.heap, slotsUsed := s₂.slotsUsed } : State).setVm s₂.vm), Ls ++ L, c0 + mc, s0 + ms⟩,
      ⟨X.admits, X.cas, X.clock, X.frames, X.room, X.hears, X.method, X.code, (X.here.setHeapUsed s₂.heap s₂.slotsUsed).setVm hW'.alike, X.tail, State.WarmedH.trans X.warmed hW', X.limits, X.bytes, X.same.trans (hsame.setVm s.vm)⟩,
      ⟨g, mk, s₂, L, E, ce, rfl, rfl, hx, hce, hcv, hcl, rfl, hL, rfl, rfl⟩, ?_⟩
    show Steps p.tables e below _ (((({ U with heap := s₂.heap, slotsUsed := s₂.slotsUsed } : State).setVm s₂.vm).setTop g).pushFrame (.throwing q))
    rw [← hs₂]
    exact hsteps
end
variable {p : Program} {l : Launch} {e : Env} {R : Room} {s : State} {m : MethodId} {args : Array Value} {below : List Frame} {meth : Method} {c : Code} {T : State} {H : Heap} {locs : List Loc} {cells slots : Nat}
theorem vx_callVX (X : Stand p l e R s m args below meth c T locs cells slots) (hexec : p.tables.exec = Jvm.exec) {own C : String} {index : Nat} {y : MethodName} {bytes : ByteArray} {maxL : Nat} {ret : Option FieldType} {hh : List (Nat × Nat × Nat × Nat)}
    (hown : s.vm.findClass own = some m.cls) (hlink : (Cond.methodLink own index y).before args s = true) (hinst : (Cond.instanceMethod y).before args s = true) (hsel : (Cond.selects C y y).before args s = true)
    (hcode : (Cond.codeWith y bytes maxL ret hh).before args s = true) (hy : y.cls ≠ "java/lang/invoke/MethodHandle" ∧ y.cls ≠ "java/lang/invoke/VarHandle")
    {W9 : Nat} {Pre : Pt → Array Value → Prop} {Post : Pt → Array Value → Option Value → Pt → Prop} {PostX : Pt → Array Value → Addr → Pt → Prop} (hK : vx_Back l R p e below s args y 3 W9 Pre Post PostX)
    {b : Addr} {cellB : Cell} (hcell : T.heap[b]? = some cellB) (hobj : cellB.vm.isStatics = false) (hcls : s.vm.findClass C = some cellB.cls)
    {g : JFrame} (hg : g.method = m) (hsize : g.locals.size = c.maxLocals) {argsL rest : List Value} (hlen : ∀ sig, parseMethodDescriptor y.desc = some sig → argsL.length = sig.parameters.length)
    (hstack : g.stack = argsL.reverse ++ .ref b :: rest) (hW : 2 * g.monitorRoom + (rest.map fun v => v.category).sum ≤ W9) (hdg : decode c.code g.pc = .ok (.invokevirtual index, 3))
    (hpre : ∀ vm₁, s.WarmedH vm₁ → Pre ⟨T.setVm vm₁, locs, cells, slots⟩ (Value.ref b :: argsL).toArray) :
    (∃ (v : Option Value) (vm₁ : Vm) (B : Pt), s.WarmedH vm₁ ∧ Stand p l e R s m args below meth c B.U B.locs B.cells B.slots ∧ Post ⟨T.setVm vm₁, locs, cells, slots⟩ (Value.ref b :: argsL).toArray v B ∧
      ∀ target, Steps p.tables e below (B.U.setTop { g with pc := g.pc + 3, stack := v.toList ++ rest }) target → Steps p.tables e below (T.setTop g) target) ∨
    (∃ (q : Addr) (vm₁ : Vm) (B : Pt), s.WarmedH vm₁ ∧ Stand p l e R s m args below meth c B.U B.locs B.cells B.slots ∧ PostX ⟨T.setVm vm₁, locs, cells, slots⟩ (Value.ref b :: argsL).toArray q B ∧
      Steps p.tables e below (T.setTop g) ((B.U.setTop { g with stack := rest }).pushFrame (.throwing q))) := by
  obtain ⟨mk, methM, hnamed, hmethM, hstM, habM⟩ := Cond.instanceMethod_spec hinst
  obtain ⟨m8, methM', cM, hn8, hmethM', -, -, -, -, -, -, hsigM⟩ := Cond.codeWith_spec hcode
  cases Option.some.inj (hn8.symm.trans hnamed)
  cases hmethM.symm.trans hmethM'
  obtain ⟨c2, r2, m2, q1, q2, q3, q4, kP, hkP, hkPi⟩ := Cond.selects_spec hsel
  cases hcls.symm.trans q1
  cases (State.methodFound?_of_named hnamed hy).symm.trans q2
  cases hnamed.symm.trans q3
  have hselP : selectMethod e.platform s.vm cellB.cls mk = .method mk := by rw [Launch.admits_selectMethod X.admits]; exact q4
  obtain ⟨vm₁, X₁, hstep₁⟩ := X.invokevirtual hexec hown hlink hnamed hmethM hstM hkP hkPi hy (a := b) (cell := cellB) hcell
    (fun z h => by rw [h] at hobj; cases hobj) hselP hmethM habM hkP hkPi (g := g) hg (argsL := argsL) (rest := rest) (hlen _ hsigM) hstack hdg
  rcases hK m meth c ⟨T.setVm vm₁, locs, cells, slots⟩ { g with stack := rest } (.invokevirtual index) mk (Value.ref b :: argsL).toArray X₁ hg hsize hdg hW (X₁.named hnamed) (hpre vm₁ X₁.warmed) with ⟨v, B, X', hpost, hsteps⟩ | ⟨q, B, X', hpost, hsteps⟩
  · exact Or.inl ⟨v, vm₁, B, X₁.warmed, X', hpost, fun target h => hstep₁ _ fun acts => by rw [doInvoke_state]; exact hsteps.trans h⟩
  · exact Or.inr ⟨q, vm₁, B, X₁.warmed, X', hpost, hstep₁ _ fun acts => by rw [doInvoke_state]; exact hsteps⟩
theorem vx_callSX (X : Stand p l e R s m args below meth c T locs cells slots) (hexec : p.tables.exec = Jvm.exec) {own : String} {index : Nat} {y : MethodName} {bytes : ByteArray} {maxL : Nat} {ret : Option FieldType} {hh : List (Nat × Nat × Nat × Nat)}
    (hown : s.vm.findClass own = some m.cls) (hlink : (Cond.methodLink own index y).before args s = true) (hstat : (Cond.static y).before args s = true) (hinit : (Cond.initialized y.cls).before args s = true)
    (hcode : (Cond.codeWith y bytes maxL ret hh).before args s = true) (hy : y.cls ≠ "java/lang/invoke/MethodHandle" ∧ y.cls ≠ "java/lang/invoke/VarHandle")
    {W9 : Nat} {Pre : Pt → Array Value → Prop} {Post : Pt → Array Value → Option Value → Pt → Prop} {PostX : Pt → Array Value → Addr → Pt → Prop} (hK : vx_Back l R p e below s args y 3 W9 Pre Post PostX)
    {g : JFrame} (hg : g.method = m) (hsize : g.locals.size = c.maxLocals) {argsL rest : List Value} (hlen : ∀ sig, parseMethodDescriptor y.desc = some sig → argsL.length = sig.parameters.length)
    (hstack : g.stack = argsL.reverse ++ rest) (hW : 2 * g.monitorRoom + (rest.map fun v => v.category).sum ≤ W9) (hdg : decode c.code g.pc = .ok (.invokestatic index, 3))
    (hpre : ∀ vm₁, s.WarmedH vm₁ → Pre ⟨T.setVm vm₁, locs, cells, slots⟩ argsL.toArray) :
    (∃ (v : Option Value) (vm₁ : Vm) (B : Pt), s.WarmedH vm₁ ∧ Stand p l e R s m args below meth c B.U B.locs B.cells B.slots ∧ Post ⟨T.setVm vm₁, locs, cells, slots⟩ argsL.toArray v B ∧
      ∀ target, Steps p.tables e below (B.U.setTop { g with pc := g.pc + 3, stack := v.toList ++ rest }) target → Steps p.tables e below (T.setTop g) target) ∨
    (∃ (q : Addr) (vm₁ : Vm) (B : Pt), s.WarmedH vm₁ ∧ Stand p l e R s m args below meth c B.U B.locs B.cells B.slots ∧ PostX ⟨T.setVm vm₁, locs, cells, slots⟩ argsL.toArray q B ∧
      Steps p.tables e below (T.setTop g) ((B.U.setTop { g with stack := rest }).pushFrame (.throwing q))) := by
  obtain ⟨mk, methM, cM, hnamed, hmethM, -, -, -, -, -, -, hsigM⟩ := Cond.codeWith_spec hcode
  have hstatic : methM.isStatic = true := Cond.static_spec hnamed hmethM hstat
  obtain ⟨kP, hkP, -⟩ := className_of_methodNamed hnamed
  have hinitP : kP.init = .initialized := Cond.initialized_spec (findClass_of_methodNamed hnamed) hkP hinit
  obtain ⟨vm₁, X₁, hstep₁⟩ := X.invokestatic hexec hown hlink hnamed hmethM hstatic hkP hinitP hy (g := g) hg (argsL := argsL) (rest := rest) (hlen _ hsigM) hstack hdg
  rcases hK m meth c ⟨T.setVm vm₁, locs, cells, slots⟩ { g with stack := rest } (.invokestatic index) mk argsL.toArray X₁ hg hsize hdg hW (X₁.named hnamed) (hpre vm₁ X₁.warmed) with ⟨v, B, X', hpost, hsteps⟩ | ⟨q, B, X', hpost, hsteps⟩
  · exact Or.inl ⟨v, vm₁, B, X₁.warmed, X', hpost, fun target h => hstep₁ _ fun acts => by rw [doInvoke_state]; exact hsteps.trans h⟩
  · exact Or.inr ⟨q, vm₁, B, X₁.warmed, X', hpost, hstep₁ _ fun acts => by rw [doInvoke_state]; exact hsteps⟩
theorem vx_callVW (X : Stand p l e R s m args below meth c T locs cells slots) (hexec : p.tables.exec = Jvm.exec) {own C : String} {index : Nat} {y : MethodName} {bytes : ByteArray} {maxL : Nat} {ret : Option FieldType} {hh : List (Nat × Nat × Nat × Nat)}
    (hown : s.vm.findClass own = some m.cls) (hlink : (Cond.methodLink own index y).before args s = true) (hinst : (Cond.instanceMethod y).before args s = true) (hsel : (Cond.selects C y y).before args s = true)
    (hcode : (Cond.codeWith y bytes maxL ret hh).before args s = true) (hy : y.cls ≠ "java/lang/invoke/MethodHandle" ∧ y.cls ≠ "java/lang/invoke/VarHandle")
    {W9 : Nat} {Pre : Pt → Array Value → Prop} {Post : Pt → Array Value → Option Value → Pt → Prop} (hK : Back l R p e below s args y 3 W9 Pre Post)
    {b : Addr} {cellB : Cell} (hcell : T.heap[b]? = some cellB) (hobj : cellB.vm.isStatics = false) (hcls : s.vm.findClass C = some cellB.cls)
    {g : JFrame} (hg : g.method = m) (hsize : g.locals.size = c.maxLocals) {argsL rest : List Value} (hlen : ∀ sig, parseMethodDescriptor y.desc = some sig → argsL.length = sig.parameters.length)
    (hstack : g.stack = argsL.reverse ++ .ref b :: rest) (hW : 2 * g.monitorRoom + (rest.map fun v => v.category).sum ≤ W9) (hdg : decode c.code g.pc = .ok (.invokevirtual index, 3))
    (hpre : ∀ vm₁, s.WarmedH vm₁ → Pre ⟨T.setVm vm₁, locs, cells, slots⟩ (Value.ref b :: argsL).toArray) :
    ∃ (v : Option Value) (vm₁ : Vm) (B : Pt), s.WarmedH vm₁ ∧ Stand p l e R s m args below meth c B.U B.locs B.cells B.slots ∧ Post ⟨T.setVm vm₁, locs, cells, slots⟩ (Value.ref b :: argsL).toArray v B ∧
      ∀ target, Steps p.tables e below (B.U.setTop { g with pc := g.pc + 3, stack := v.toList ++ rest }) target → Steps p.tables e below (T.setTop g) target := by
  obtain ⟨mk, methM, hnamed, hmethM, hstM, habM⟩ := Cond.instanceMethod_spec hinst
  obtain ⟨m8, methM', cM, hn8, hmethM', -, -, -, -, -, -, hsigM⟩ := Cond.codeWith_spec hcode
  cases Option.some.inj (hn8.symm.trans hnamed)
  cases hmethM.symm.trans hmethM'
  obtain ⟨c2, r2, m2, q1, q2, q3, q4, kP, hkP, hkPi⟩ := Cond.selects_spec hsel
  cases hcls.symm.trans q1
  cases (State.methodFound?_of_named hnamed hy).symm.trans q2
  cases hnamed.symm.trans q3
  have hselP : selectMethod e.platform s.vm cellB.cls mk = .method mk := by rw [Launch.admits_selectMethod X.admits]; exact q4
  obtain ⟨vm₁, X₁, hstep₁⟩ := X.invokevirtual hexec hown hlink hnamed hmethM hstM hkP hkPi hy (a := b) (cell := cellB) hcell
    (fun z h => by rw [h] at hobj; cases hobj) hselP hmethM habM hkP hkPi (g := g) hg (argsL := argsL) (rest := rest) (hlen _ hsigM) hstack hdg
  obtain ⟨v, B, X', hpost, hsteps⟩ := hK m meth c ⟨T.setVm vm₁, locs, cells, slots⟩ { g with stack := rest } (.invokevirtual index) mk (Value.ref b :: argsL).toArray X₁ hg hsize hdg hW (X₁.named hnamed) (hpre vm₁ X₁.warmed)
  exact ⟨v, vm₁, B, X₁.warmed, X', hpost, fun target h => hstep₁ _ fun acts => by rw [doInvoke_state]; exact hsteps.trans h⟩
abbrev vx_CVW (R : Room) (s : State) (args : Array Value) (own C : String) (index : Nat) (y : MethodName) (bytes : ByteArray) (maxL : Nat) (ret : Option FieldType) (hh : List (Nat × Nat × Nat × Nat)) (ws : List Cond) (rm : Room) (mc ms n : Nat) : Prop :=
  (rm.cells = mc ∧ rm.slots = ms ∧ rm.frames + 1 ≤ R.frames ∧ 8 + (maxL + 11) + rm.locals ≤ R.locals ∧ (∀ w ∈ ws, ∀ (a' : Array Value) (U : State), s.WarmedH U.vm → w.before a' U = true) ∧ Cond.codeWith y bytes maxL ret hh ∈ ws) ∧
  (Cond.codeWith y bytes maxL ret hh).before args s = true ∧ (Cond.initialized y.cls).before args s = true ∧ (y.cls ≠ "java/lang/invoke/MethodHandle" ∧ y.cls ≠ "java/lang/invoke/VarHandle") ∧
  (∀ sig, parseMethodDescriptor y.desc = some sig → n = sig.parameters.length) ∧ (Cond.methodLink own index y).before args s = true ∧ (Cond.instanceMethod y).before args s = true ∧ (Cond.selects C y y).before args s = true
theorem vx_cwVW {own C : String} {index maxL mc ms : Nat} {y : MethodName} {bytes : ByteArray} {ret : Option FieldType} {hh : List (Nat × Nat × Nat × Nat)} {Ts ws ws' : List Cond} {rm : Room} (n : Nat) (ht : ∀ w ∈ Ts, w.before args s = true) (hT : GoodIn Ts (wsV own index C y ws)) (hw : ws = Cond.codeWith y bytes maxL ret hh :: ws') (hrc : rm.cells = mc) (hrs : rm.slots = ms)
    (hd : y.cls = C ∧ y.cls ≠ "java/lang/invoke/MethodHandle" ∧ y.cls ≠ "java/lang/invoke/VarHandle" ∧ (parseMethodDescriptor y.desc).map (fun d => d.parameters.length) = some n) (hR : rm.frames + 1 ≤ R.frames ∧ 8 + (maxL + 11) + rm.locals ≤ R.locals) :
    vx_CVW R s args own C index y bytes maxL ret hh ws rm mc ms n := by
  obtain ⟨hC, hd⟩ := hd
  subst hC
  have ok : ∀ w ∈ wsV own index y.cls y ws, w.before args s = true := fun w h => ht w (hT w h).1
  have hG : GoodIn Ts ws := fun w h => hT w (by unfold wsV; exact List.mem_append_right _ h)
  have hc : Cond.codeWith y bytes maxL ret hh ∈ ws := by rw [hw]; exact List.mem_cons_self
  refine ⟨⟨hrc, hrs, hR.1, hR.2, pay_in ht hG, hc⟩, ht _ (hG _ hc).1, ok _ (by simp [wsV]), ⟨hd.1, hd.2.1⟩, fun sig h => ?_, ok _ (by simp [wsV]), ok _ (by simp [wsV]), ok _ (by simp [wsV])⟩
  have h2 := hd.2.2
  rw [h] at h2
  exact (Option.some.inj h2).symm
theorem vx_runVW {y : MethodName} {bytes cc : ByteArray} {maxL nL mc ms n index : Nat} {ret : Option FieldType} {hh : List (Nat × Nat × Nat × Nat)} {ws : List Cond} {rm : Room} {Pc : Array Value → State → Prop} {Qc : Array Value → State → Outcome → State → Prop} {free : Addr → Prop} {Ts : List Cond} {own C : String} {b : Addr} {As rest : List Value} {g : JFrame}
    (S : CallFix p m c cc nL s args Ts own) (hM : Met l y ws rm Pc Qc mc ms free) (cw : vx_CVW R s args own C index y bytes maxL ret hh ws rm mc ms n) (hp : PreV s H C b Pc As)
    (hg : g.method = m) (hn : As.length = n) (hsize : g.locals.size = nL) (hstack : g.stack = As.reverse ++ .ref b :: rest) (hW : 2 * g.monitorRoom + (rest.map fun v => v.category).sum ≤ 8) (hdg : decode cc g.pc = .ok (.invokevirtual index, 3)) (hf : cells + mc ≤ R.cells ∧ slots + ms ≤ R.slots) :
    va_Run p l e R s m args below meth c H locs cells slots mc ms g rest (Qc (Value.ref b :: As).toArray) free := by
  obtain ⟨⟨hrc, hrs, hfr, hlo, hws, hcw⟩, hcode, hini, hy, hlen, hl, hin, hse⟩ := cw
  have hK : Back l R p e below s args y 3 8 (PreOf R mc ms Pc) (PostOf Qc mc ms free) := va_backW (hh := hh) (bytes := bytes) (maxL := maxL) (ret := ret) hM hp.1 hrc hrs hfr hlo hws hcw (fun a' U hW => word_at hW (Or.inl (by first | rfl | simp [Cond.onTables, Cond.keeps, Cond.steady])) hini)
  obtain ⟨hx, hb, hml, ho, -⟩ := S
  obtain ⟨-, ⟨cellB, hcB, hoB, hclB⟩, hPc⟩ := hp
  intro T hT X
  obtain ⟨v, vm₁, ⟨U', l2, c2, s2⟩, hW₁, X', ⟨g', mk, t, L, e1, e2, hq, h1, hL, h2, h3⟩, st⟩ := vx_callVW X hx (C := C) (hh := hh) (bytes := bytes) (maxL := maxL) (ret := ret) ho hl hin hse hcode hy hK (by rw [hT]; exact hcB) hoB hclB hg (hsize.trans hml.symm) (argsL := As) (rest := rest) (fun sig h => hn.trans (hlen sig h)) hstack hW (by rw [hb]; exact hdg)
    (fun vm₁ hW₁ => ⟨hf.1, hf.2, hPc (T.setVm vm₁) hT hW₁⟩)
  dsimp only [Pt.U, Pt.locs, Pt.cells, Pt.slots] at X' e1 e2 h1 h2 h3 st
  subst h1; subst h2; subst h3
  exact ⟨v, (T.setVm vm₁).calling g' mk (Value.ref b :: As).toArray, t, U', L, hT, X', hL, e1, e2, hq, st⟩
section
variable {y : MethodName} {bytes cc : ByteArray} {maxL nL mc ms n index : Nat} {ret : Option FieldType} {ws : List Cond} {rm : Room} {Pc : Array Value → State → Prop} {Qc : Array Value → State → Outcome → State → Prop} {XC : String → State → State → Prop} {free : Addr → Prop} {Ts : List Cond} {own C : String} {b : Addr} {As rest : List Value} {g : JFrame}
theorem vx_runVX {hh : List (Nat × Nat × Nat × Nat)} (S : CallFix p m c cc nL s args Ts own) (hM : vx_Met l y ws rm Pc Qc XC mc ms free) (cw : vx_CVW R s args own C index y bytes maxL ret hh ws rm mc ms n) (hp : PreV s H C b Pc As)
    (hg : g.method = m) (hn : As.length = n) (hsize : g.locals.size = nL) (hstack : g.stack = As.reverse ++ .ref b :: rest) (hW : 2 * g.monitorRoom + (rest.map fun v => v.category).sum ≤ 8) (hdg : decode cc g.pc = .ok (.invokevirtual index, 3)) (hf : cells + mc ≤ R.cells ∧ slots + ms ≤ R.slots) :
    vx_Run p l e R s m args below meth c H locs cells slots mc ms g rest (Qc (Value.ref b :: As).toArray) XC free := by
  obtain ⟨⟨hrc, hrs, hfr, hlo, hws, hcw⟩, hcode, hini, hy, hlen, hl, hin, hse⟩ := cw
  have hK : vx_Back l R p e below s args y 3 8 (PreOf R mc ms Pc) (PostOf Qc mc ms free) (vx_Post XC mc ms free) := vx_backW (hh := hh) (bytes := bytes) (maxL := maxL) (ret := ret) hM hp.1 hrc hrs hfr hlo hws hcw (fun a' U hW => word_at hW (Or.inl (by first | rfl | simp [Cond.onTables, Cond.keeps, Cond.steady])) hini)
  obtain ⟨hx, hb, hml, ho, -⟩ := S
  obtain ⟨-, ⟨cellB, hcB, hoB, hclB⟩, hPc⟩ := hp
  intro T hT X
  rcases vx_callVX X hx (C := C) (hh := hh) (bytes := bytes) (maxL := maxL) (ret := ret) ho hl hin hse hcode hy hK (by rw [hT]; exact hcB) hoB hclB hg (hsize.trans hml.symm) (argsL := As) (rest := rest) (fun sig h => hn.trans (hlen sig h)) hstack hW (by rw [hb]; exact hdg)
    (fun vm₁ hW₁ => ⟨hf.1, hf.2, hPc (T.setVm vm₁) hT hW₁⟩) with ⟨v, vm₁, ⟨U', l2, c2, s2⟩, hW₁, X', ⟨g', mk, t, L, e1, e2, hq, h1, hL, h2, h3⟩, st⟩ | ⟨q, vm₁, ⟨U', l2, c2, s2⟩, hW₁, X', ⟨g', mk, t, L, E, ce, e1, e2, hq, hce, hcv, hcl, h1, hL, h2, h3⟩, st⟩
  · dsimp only [Pt.U, Pt.locs, Pt.cells, Pt.slots] at X' e1 e2 h1 h2 h3 st
    subst h1; subst h2; subst h3
    exact Or.inl ⟨v, (T.setVm vm₁).calling g' mk (Value.ref b :: As).toArray, t, U', L, hT, X', hL, e1, e2, hq, st⟩
  · dsimp only [Pt.U, Pt.locs, Pt.cells, Pt.slots] at X' e1 e2 h1 h2 h3 st hcl
    subst h1; subst h2; subst h3
    exact Or.inr ⟨q, (T.setVm vm₁).calling g' mk (Value.ref b :: As).toArray, t, U', L, E, ce, hT, X', hL, e1, e2, hq, hce, hcv, vx_cls hW₁ hcl, st⟩
theorem vx_runSX {hh : List (Nat × Nat × Nat × Nat)} (S : CallFix p m c cc nL s args Ts own) (hM : vx_Met l y ws rm Pc Qc XC mc ms free) (cw : vx_CSW R s args own index y bytes maxL ret hh ws rm mc ms n) (hp : PreS s H Pc As)
    (hg : g.method = m) (hn : As.length = n) (hsize : g.locals.size = nL) (hstack : g.stack = As.reverse ++ rest) (hW : 2 * g.monitorRoom + (rest.map fun v => v.category).sum ≤ 8) (hdg : decode cc g.pc = .ok (.invokestatic index, 3)) (hf : cells + mc ≤ R.cells ∧ slots + ms ≤ R.slots) :
    vx_Run p l e R s m args below meth c H locs cells slots mc ms g rest (Qc As.toArray) XC free := by
  obtain ⟨⟨hrc, hrs, hfr, hlo, hws, hcw⟩, hcode, hini, hy, hlen, hl, hstt⟩ := cw
  have hK : vx_Back l R p e below s args y 3 8 (PreOf R mc ms Pc) (PostOf Qc mc ms free) (vx_Post XC mc ms free) := vx_backW (hh := hh) (bytes := bytes) (maxL := maxL) (ret := ret) hM hp.1 hrc hrs hfr hlo hws hcw (fun a' U hW => word_at hW (Or.inl (by first | rfl | simp [Cond.onTables, Cond.keeps, Cond.steady])) hini)
  obtain ⟨hx, hb, hml, ho, -⟩ := S
  intro T hT X
  rcases vx_callSX X hx (hh := hh) (bytes := bytes) (maxL := maxL) (ret := ret) ho hl hstt hini hcode hy hK hg (hsize.trans hml.symm) (argsL := As) (rest := rest) (fun sig h => hn.trans (hlen sig h)) hstack hW (by rw [hb]; exact hdg)
    (fun vm₁ hW₁ => ⟨hf.1, hf.2, hp.2 (T.setVm vm₁) hT hW₁⟩) with ⟨v, vm₁, ⟨U', l2, c2, s2⟩, hW₁, X', ⟨g', mk, t, L, e1, e2, hq, h1, hL, h2, h3⟩, st⟩ | ⟨q, vm₁, ⟨U', l2, c2, s2⟩, hW₁, X', ⟨g', mk, t, L, E, ce, e1, e2, hq, hce, hcv, hcl, h1, hL, h2, h3⟩, st⟩
  · dsimp only [Pt.U, Pt.locs, Pt.cells, Pt.slots] at X' e1 e2 h1 h2 h3 st
    subst h1; subst h2; subst h3
    exact Or.inl ⟨v, (T.setVm vm₁).calling g' mk As.toArray, t, U', L, hT, X', hL, e1, e2, hq, st⟩
  · dsimp only [Pt.U, Pt.locs, Pt.cells, Pt.slots] at X' e1 e2 h1 h2 h3 st hcl
    subst h1; subst h2; subst h3
    exact Or.inr ⟨q, (T.setVm vm₁).calling g' mk As.toArray, t, U', L, E, ce, hT, X', hL, e1, e2, hq, hce, hcv, vx_cls hW₁ hcl, st⟩
end
end VXH
theorem vx_ofWH {l : Launch} {y : MethodName} {ws ws' : List Cond} {rm : Room} {Pc : Array Value → State → Prop} {Qc : Array Value → State → Outcome → State → Prop} {XC : String → State → State → Prop} {mc ms : Nat} {free : Addr → Prop} {cc : ByteArray} {maxL : Nat} {ret : Option FieldType} {hh : List (Nat × Nat × Nat × Nat)}
    (hy : plainName y.cls = true) (hw : ws = Cond.codeWith y cc maxL ret hh :: ws')
    (body : ∀ p e s m args below meth c s₁, BodyLoose p l y (headSpec ws rm) cc maxL ret e s m args below meth c s₁ → c.maxLocals = maxL → Pc args s →
      W p l e (headSpec ws rm).room s m args below meth c s.heap [] 0 0 (vx_MQ below Qc XC args s mc ms free) (entryFrame m args maxL)) : vx_Met l y ws rm Pc Qc XC mc ms free := by
  refine MetFree.of_bodyS (code := cc) (maxLocals := maxL) (ret := ret) hy ?_ ?_
  · intro args s m h hn
    obtain ⟨m9, meth, c, hn9, h1, h2, h3, h4, -, h5, h6, -⟩ := Cond.codeWith_spec (atoms_spec (ws := ws) h _ (by rw [hw]; exact List.mem_cons_self))
    cases hn.symm.trans hn9
    exact ⟨meth, c, h1, h2, h3, h4, h5, h6⟩
  · intro p e s m args below meth c s₁ B hml hP _
    have hh0 : s₁.heap = s.heap := by rw [B.state]; rfl
    obtain ⟨t, a1, o, b1, b2, b3⟩ := body p e s m args below meth c s₁ B hml hP s₁ hh0 (Stand.of_body B)
    exact ⟨t, o, a1, b1, b2, b3⟩
/-! ===== END ===== -/
end
section
/-- the words of the tables that stay good -/
def wsAll : List Cond := lw_tbl.filter goodWord
theorem wsq {w : Cond} (h : w ∈ tables_1 ∧ goodWord w = true) : w ∈ wsAll := List.mem_filter.mpr ⟨List.mem_append_right _ h.1, h.2⟩
theorem wsp {w : Cond} (h : w ∈ k2_sels lw_privs ∧ goodWord w = true) : w ∈ wsAll := List.mem_filter.mpr ⟨List.mem_append_left _ h.1, h.2⟩
theorem wsg {w : Cond} (h : w ∈ wsAll) : w ∈ wsAll ∧ ((w.onTables && w.keeps) = true ∨ ∃ ty, w = .arrayClass ty) := ⟨h, good_of_word (List.mem_filter.mp h).2⟩
theorem gwN {w : Cond} (h : w ∈ wsAll) : GoodIn wsAll (w :: wsAll) := fun _ hx => (List.mem_cons.mp hx).elim (fun e => by rw [e]; exact wsg h) wsg
theorem gwV {own C : String} {idx : Nat} {y : MethodName} {w : Cond} (h1 : Cond.methodLink own idx y ∈ wsAll) (h2 : Cond.instanceMethod y ∈ wsAll) (h3 : Cond.selects C y y ∈ wsAll) (h4 : Cond.initialized C ∈ wsAll) (h : w ∈ wsAll) : GoodIn wsAll (wsV own idx C y (w :: wsAll)) := by
  intro x hx
  unfold wsV at hx
  rcases List.mem_append.mp hx with hx | hx
  · simp only [List.mem_cons, List.not_mem_nil, or_false] at hx
    rcases hx with rfl | rfl | rfl | rfl
    · exact wsg h1
    · exact wsg h2
    · exact wsg h3
    · exact wsg h4
  · exact gwN h x hx
theorem gwS {own : String} {idx : Nat} {y : MethodName} {w : Cond} (h1 : Cond.methodLink own idx y ∈ wsAll) (h2 : Cond.static y ∈ wsAll) (h4 : Cond.initialized own ∈ wsAll) (h : w ∈ wsAll) : GoodIn wsAll (wsS own idx y (w :: wsAll)) := by
  intro x hx
  unfold wsS at hx
  rcases List.mem_append.mp hx with hx | hx
  · simp only [List.mem_cons, List.not_mem_nil, or_false] at hx
    rcases hx with rfl | rfl | rfl
    · exact wsg h1
    · exact wsg h2
    · exact wsg h4
  · exact gwN h x hx
theorem gwSW {own : String} {idx : Nat} {y : MethodName} {w : Cond} (h1 : Cond.methodLink own idx y ∈ wsAll) (h2 : Cond.static y ∈ wsAll) (h4 : Cond.initialized y.cls ∈ wsAll) (h : w ∈ wsAll) : GoodIn wsAll (va_wsS own idx y (w :: wsAll)) := by
  intro x hx
  unfold va_wsS at hx
  rcases List.mem_append.mp hx with hx | hx
  · simp only [List.mem_cons, List.not_mem_nil, or_false] at hx
    rcases hx with rfl | rfl | rfl
    · exact wsg h1
    · exact wsg h2
    · exact wsg h4
  · exact gwN h x hx
def RX0 : String := "DayCutPlans$Search"
def TX0 : u_T := fun k => match k with
  | 0 => ("DayCutPlans$Search", "yard", "LDayCutPlans$Yard;", true)
  | 1 => ("DayCutPlans$Search", "counts", "[I", true)
  | 2 => ("DayCutPlans$Search", "logsFree", "[I", true)
  | 3 => ("DayCutPlans$Search", "madeSoFar", "[I", true)
  | 4 => ("DayCutPlans$Search", "minutesFree", "I", false)
  | 5 => ("DayCutPlans$Search", "centsSoFar", "I", false)
  | 6 => ("DayCutPlans$Search", "least", "[I", true)
  | 7 => ("DayCutPlans$Search", "most", "[I", true)
  | 8 => ("DayCutPlans$Search", "worth", "[I", true)
  | 9 => ("DayCutPlans$Search", "stepsAllowed", "I", false)
  | 10 => ("DayCutPlans$Search", "steps", "I", false)
  | 11 => ("DayCutPlans$Search", "spent", "Z", false)
  | 12 => ("DayCutPlans$Search", "found", "Z", false)
  | 13 => ("DayCutPlans$Search", "bestGain", "I", false)
  | _ => ("DayCutPlans$Search", "bestCounts", "[I", true)
def tyX0 : Nat → FieldType := fun k => match k with
  | 0 => .object "DayCutPlans$Yard"
  | 1 => .array .int
  | 2 => .array .int
  | 3 => .array .int
  | 4 => .int
  | 5 => .int
  | 6 => .array .int
  | 7 => .array .int
  | 8 => .array .int
  | 9 => .int
  | 10 => .int
  | 11 => .boolean
  | 12 => .boolean
  | 13 => .int
  | _ => .array .int
theorem nmX0 : ∀ a, a < 15 → ∀ b, b < 15 → a ≠ b → (TX0 a).2.1 ≠ (TX0 b).2.1 := by decide +kernel
theorem tyX0_ok : ∀ k, k < 15 → parseFieldDescriptor (TX0 k).2.2.1 = some (tyX0 k) := by decide +kernel
theorem inwX0 : ∀ w ∈ u_ws RX0 TX0 15, w ∈ wsAll := fun w h => wsq (show w ∈ tables_1 ∧ goodWord w = true by revert w; decide +kernel)
def RX1 : String := "DayCutPlans$Yard"
def TX1 : u_T := fun k => match k with
  | 0 => ("DayCutPlans$Yard", "logsLeft", "[I", true)
  | 1 => ("DayCutPlans$Yard", "centsALog", "[I", true)
  | 2 => ("DayCutPlans$Yard", "classOf", "[I", true)
  | 3 => ("DayCutPlans$Yard", "minutesALog", "[I", true)
  | 4 => ("DayCutPlans$Yard", "boardsALog", "[[I", true)
  | 5 => ("DayCutPlans$Yard", "least", "[I", true)
  | 6 => ("DayCutPlans$Yard", "most", "[I", true)
  | 7 => ("DayCutPlans$Yard", "worth", "[I", true)
  | 8 => ("DayCutPlans$Yard", "stock", "[I", true)
  | 9 => ("DayCutPlans$Yard", "patterns", "I", false)
  | 10 => ("DayCutPlans$Yard", "minutesADay", "I", false)
  | _ => ("DayCutPlans$Yard", "change", "I", false)
def tyX1 : Nat → FieldType := fun k => match k with
  | 0 => .array .int
  | 1 => .array .int
  | 2 => .array .int
  | 3 => .array .int
  | 4 => .array (.array .int)
  | 5 => .array .int
  | 6 => .array .int
  | 7 => .array .int
  | 8 => .array .int
  | 9 => .int
  | 10 => .int
  | _ => .int
theorem nmX1 : ∀ a, a < 12 → ∀ b, b < 12 → a ≠ b → (TX1 a).2.1 ≠ (TX1 b).2.1 := by decide +kernel
theorem tyX1_ok : ∀ k, k < 12 → parseFieldDescriptor (TX1 k).2.2.1 = some (tyX1 k) := by decide +kernel
theorem inwX1 : ∀ w ∈ u_ws RX1 TX1 12, w ∈ wsAll := fun w h => wsq (show w ∈ tables_1 ∧ goodWord w = true by revert w; decide +kernel)
def RX2 : String := "DayCutPlans"
def TX2 : u_T := fun k => match k with
  | 0 => ("DayCutPlans", "yard", "LDayCutPlans$Yard;", true)
  | 1 => ("DayCutPlans", "latest", "LDayCutPlans$Search;", true)
  | 2 => ("DayCutPlans", "trial", "LDayCutPlans$Search;", true)
  | 3 => ("DayCutPlans", "searchedSinceTold", "Z", false)
  | 4 => ("DayCutPlans", "days", "I", false)
  | _ => ("DayCutPlans", "earned", "I", false)
def tyX2 : Nat → FieldType := fun k => match k with
  | 0 => .object "DayCutPlans$Yard"
  | 1 => .object "DayCutPlans$Search"
  | 2 => .object "DayCutPlans$Search"
  | 3 => .boolean
  | 4 => .int
  | _ => .int
theorem nmX2 : ∀ a, a < 6 → ∀ b, b < 6 → a ≠ b → (TX2 a).2.1 ≠ (TX2 b).2.1 := by decide +kernel
theorem tyX2_ok : ∀ k, k < 6 → parseFieldDescriptor (TX2 k).2.2.1 = some (tyX2 k) := by decide +kernel
theorem inwX2 : ∀ w ∈ u_ws RX2 TX2 6, w ∈ wsAll := fun w h => wsq (show w ∈ tables_1 ∧ goodWord w = true by revert w; decide +kernel)
def RX3 : String := "DayCutPlansModel"
def TX3 : u_T := fun k => match k with
  | 0 => ("DayCutPlansModel", "code", "I", false)
  | 1 => ("DayCutPlansModel", "logs", "[I", true)
  | 2 => ("DayCutPlansModel", "cents", "[I", true)
  | 3 => ("DayCutPlansModel", "patterns", "I", false)
  | 4 => ("DayCutPlansModel", "classOf", "[I", true)
  | 5 => ("DayCutPlansModel", "minutes", "[I", true)
  | 6 => ("DayCutPlansModel", "gives", "[I", true)
  | 7 => ("DayCutPlansModel", "least", "[I", true)
  | 8 => ("DayCutPlansModel", "most", "[I", true)
  | 9 => ("DayCutPlansModel", "worth", "[I", true)
  | 10 => ("DayCutPlansModel", "stock", "[I", true)
  | 11 => ("DayCutPlansModel", "hours", "I", false)
  | 12 => ("DayCutPlansModel", "change", "I", false)
  | 13 => ("DayCutPlansModel", "days", "I", false)
  | 14 => ("DayCutPlansModel", "earned", "I", false)
  | 15 => ("DayCutPlansModel", "isSearched", "Z", false)
  | 16 => ("DayCutPlansModel", "isBest", "Z", false)
  | 17 => ("DayCutPlansModel", "isSpent", "Z", false)
  | 18 => ("DayCutPlansModel", "steps", "I", false)
  | 19 => ("DayCutPlansModel", "plan", "[I", true)
  | 20 => ("DayCutPlansModel", "gain", "I", false)
  | 21 => ("DayCutPlansModel", "count", "[I", true)
  | 22 => ("DayCutPlansModel", "found", "[I", true)
  | 23 => ("DayCutPlansModel", "hasFound", "Z", false)
  | 24 => ("DayCutPlansModel", "wasSpent", "Z", false)
  | 25 => ("DayCutPlansModel", "taken", "I", false)
  | _ => ("DayCutPlansModel", "foundGain", "I", false)
def tyX3 : Nat → FieldType := fun k => match k with
  | 0 => .int
  | 1 => .array .int
  | 2 => .array .int
  | 3 => .int
  | 4 => .array .int
  | 5 => .array .int
  | 6 => .array .int
  | 7 => .array .int
  | 8 => .array .int
  | 9 => .array .int
  | 10 => .array .int
  | 11 => .int
  | 12 => .int
  | 13 => .int
  | 14 => .int
  | 15 => .boolean
  | 16 => .boolean
  | 17 => .boolean
  | 18 => .int
  | 19 => .array .int
  | 20 => .int
  | 21 => .array .int
  | 22 => .array .int
  | 23 => .boolean
  | 24 => .boolean
  | 25 => .int
  | _ => .int
theorem nmX3 : ∀ a, a < 27 → ∀ b, b < 27 → a ≠ b → (TX3 a).2.1 ≠ (TX3 b).2.1 := by decide +kernel
theorem tyX3_ok : ∀ k, k < 27 → parseFieldDescriptor (TX3 k).2.2.1 = some (tyX3 k) := by decide +kernel
theorem inwX3 : ∀ w ∈ u_ws RX3 TX3 27, w ∈ wsAll := fun w h => wsq (show w ∈ tables_1 ∧ goodWord w = true by revert w; decide +kernel)
def RL : String := "DayCutPlansLaw"
abbrev vwCl : List vw_C := [(RX0, TX0, 15), (RX1, TX1, 12), (RX2, TX2, 6), (RX3, TX3, 27)]
abbrev cX2_needIndex : ByteArray := prog_1_method_17_code
def yX2_needIndex : MethodName := ⟨RX2, "needIndex", "(II)V"⟩
abbrev wsX2_needIndex : List Cond := .code yX2_needIndex cX2_needIndex 2 none :: wsAll
abbrev cX2_needRange : ByteArray := prog_1_method_18_code
def yX2_needRange : MethodName := ⟨RX2, "needRange", "(III)V"⟩
abbrev wsX2_needRange : List Cond := .code yX2_needRange cX2_needRange 3 none :: wsAll
abbrev cX2_needBest : ByteArray := prog_1_method_19_code
def yX2_needBest : MethodName := ⟨RX2, "needBest", "(LDayCutPlans$Search;)V"⟩
abbrev wsX2_needBest : List Cond := .code yX2_needBest cX2_needBest 1 none :: wsAll
abbrev cX0_startWithEmptyPlan : ByteArray := prog_2_method_3_code
def yX0_startWithEmptyPlan : MethodName := ⟨RX0, "startWithEmptyPlan", "()V"⟩
abbrev wsX0_startWithEmptyPlan : List Cond := .code yX0_startWithEmptyPlan cX0_startWithEmptyPlan 2 none :: wsAll
abbrev cX0_takeOrders : ByteArray := prog_2_method_4_code
def yX0_takeOrders : MethodName := ⟨RX0, "takeOrders", "(I)V"⟩
abbrev wsX0_takeOrders : List Cond := .code yX0_takeOrders cX0_takeOrders 4 none :: wsAll
abbrev cX0_minutesOfNextLog : ByteArray := prog_2_method_8_code
def yX0_minutesOfNextLog : MethodName := ⟨RX0, "minutesOfNextLog", "(I)I"⟩
abbrev wsX0_minutesOfNextLog : List Cond := .code yX0_minutesOfNextLog cX0_minutesOfNextLog 3 (some .int) :: wsAll
abbrev cX0_oneLogMoreFits : ByteArray := prog_2_method_7_code
def yX0_oneLogMoreFits : MethodName := ⟨RX0, "oneLogMoreFits", "(I)Z"⟩
abbrev wsX0_oneLogMoreFits : List Cond := .code yX0_oneLogMoreFits cX0_oneLogMoreFits 2 (some .boolean) :: wsAll
abbrev cX0_addLog : ByteArray := prog_2_method_9_code
def yX0_addLog : MethodName := ⟨RX0, "addLog", "(I)V"⟩
abbrev wsX0_addLog : List Cond := .code yX0_addLog cX0_addLog 4 none :: wsAll
abbrev cX0_takeLogsBack : ByteArray := prog_2_method_10_code
def yX0_takeLogsBack : MethodName := ⟨RX0, "takeLogsBack", "(I)V"⟩
abbrev wsX0_takeLogsBack : List Cond := .code yX0_takeLogsBack cX0_takeLogsBack 5 none :: wsAll
abbrev cX0_fillsOrders : ByteArray := prog_2_method_12_code
def yX0_fillsOrders : MethodName := ⟨RX0, "fillsOrders", "()Z"⟩
abbrev wsX0_fillsOrders : List Cond := .code yX0_fillsOrders cX0_fillsOrders 2 (some .boolean) :: wsAll
abbrev cX0_gainOfPlan : ByteArray := prog_2_method_13_code
def yX0_gainOfPlan : MethodName := ⟨RX0, "gainOfPlan", "()I"⟩
abbrev wsX0_gainOfPlan : List Cond := .code yX0_gainOfPlan cX0_gainOfPlan 3 (some .int) :: wsAll
abbrev cX0_lookAtPlan : ByteArray := prog_2_method_11_code
def yX0_lookAtPlan : MethodName := ⟨RX0, "lookAtPlan", "()V"⟩
abbrev wsX0_lookAtPlan : List Cond := .code yX0_lookAtPlan cX0_lookAtPlan 2 none :: wsAll
abbrev cX0_tellPatternsFrom : ByteArray := prog_2_method_5_code
def yX0_tellPatternsFrom : MethodName := ⟨RX0, "tellPatternsFrom", "(I)V"⟩
abbrev wsX0_tellPatternsFrom : List Cond := .code yX0_tellPatternsFrom cX0_tellPatternsFrom 3 none :: wsAll
abbrev cX0_takeStep : ByteArray := prog_2_method_6_code
def yX0_takeStep : MethodName := ⟨RX0, "takeStep", "(I)V"⟩
abbrev wsX0_takeStep : List Cond := .code yX0_takeStep cX0_takeStep 2 none :: wsAll
abbrev cX0_goThroughPlans : ByteArray := prog_2_method_2_code
def yX0_goThroughPlans : MethodName := ⟨RX0, "goThroughPlans", "(II)V"⟩
abbrev wsX0_goThroughPlans : List Cond := .code yX0_goThroughPlans cX0_goThroughPlans 3 none :: wsAll
abbrev cX1_boundOfGain : ByteArray := prog_3_method_2_code
def yX1_boundOfGain : MethodName := ⟨RX1, "boundOfGain", "()I"⟩
abbrev wsX1_boundOfGain : List Cond := .code yX1_boundOfGain cX1_boundOfGain 3 (some .int) :: wsAll
abbrev cX1_patternsUsedIn : ByteArray := prog_3_method_4_code
def yX1_patternsUsedIn : MethodName := ⟨RX1, "patternsUsedIn", "([I)I"⟩
abbrev wsX1_patternsUsedIn : List Cond := .code yX1_patternsUsedIn cX1_patternsUsedIn 4 (some .int) :: wsAll
abbrev cX1_minutesOf : ByteArray := prog_3_method_3_code
def yX1_minutesOf : MethodName := ⟨RX1, "minutesOf", "([I)I"⟩
abbrev wsX1_minutesOf : List Cond := .code yX1_minutesOf cX1_minutesOf 4 (some .int) :: wsAll
abbrev cX1_madeBy : ByteArray := prog_3_method_5_code
def yX1_madeBy : MethodName := ⟨RX1, "madeBy", "([II)I"⟩
abbrev wsX1_madeBy : List Cond := .code yX1_madeBy cX1_madeBy 5 (some .int) :: wsAll
abbrev cX1_doPlan : ByteArray := prog_3_method_6_code
def yX1_doPlan : MethodName := ⟨RX1, "doPlan", "([I)V"⟩
abbrev wsX1_doPlan : List Cond := .code yX1_doPlan cX1_doPlan 4 none :: wsAll
abbrev cX2_forgetSearch : ByteArray := prog_1_method_16_code
def yX2_forgetSearch : MethodName := ⟨RX2, "forgetSearch", "()V"⟩
abbrev wsX2_forgetSearch : List Cond := .code yX2_forgetSearch cX2_forgetSearch 1 none :: wsAll
abbrev cX2_logs : ByteArray := prog_1_method_2_code
def yX2_logs : MethodName := ⟨RX2, "logs", "(III)V"⟩
abbrev wsX2_logs : List Cond := .code yX2_logs cX2_logs 4 none :: wsAll
abbrev cX2_order : ByteArray := prog_1_method_5_code
def yX2_order : MethodName := ⟨RX2, "order", "(IIII)V"⟩
abbrev wsX2_order : List Cond := .code yX2_order cX2_order 5 none :: wsAll
abbrev cX2_hours : ByteArray := prog_1_method_6_code
def yX2_hours : MethodName := ⟨RX2, "hours", "(II)V"⟩
abbrev wsX2_hours : List Cond := .code yX2_hours cX2_hours 3 none :: wsAll
abbrev cX2_gives : ByteArray := prog_1_method_4_code
def yX2_gives : MethodName := ⟨RX2, "gives", "(III)V"⟩
abbrev wsX2_gives : List Cond := .code yX2_gives cX2_gives 4 none :: wsAll
abbrev cX2_pattern : ByteArray := prog_1_method_3_code
def yX2_pattern : MethodName := ⟨RX2, "pattern", "(II)I"⟩
abbrev wsX2_pattern : List Cond := .code yX2_pattern cX2_pattern 4 (some .int) :: wsAll
abbrev cX2_run : ByteArray := prog_1_method_7_code
def yX2_run : MethodName := ⟨RX2, "run", "(I)I"⟩
abbrev wsX2_run : List Cond := .code yX2_run cX2_run 2 (some .int) :: wsAll
abbrev cX2_search : ByteArray := prog_1_method_8_code
def yX2_search : MethodName := ⟨RX2, "search", "(I)I"⟩
abbrev wsX2_search : List Cond := .code yX2_search cX2_search 2 (some .int) :: wsAll
abbrev cX2_used : ByteArray := prog_1_method_9_code
def yX2_used : MethodName := ⟨RX2, "used", "(I)I"⟩
abbrev wsX2_used : List Cond := .code yX2_used cX2_used 2 (some .int) :: wsAll
abbrev cX2_best : ByteArray := prog_1_method_10_code
def yX2_best : MethodName := ⟨RX2, "best", "(I)I"⟩
abbrev wsX2_best : List Cond := .code yX2_best cX2_best 2 (some .int) :: wsAll
abbrev cX2_made : ByteArray := prog_1_method_11_code
def yX2_made : MethodName := ⟨RX2, "made", "(I)I"⟩
abbrev wsX2_made : List Cond := .code yX2_made cX2_made 2 (some .int) :: wsAll
abbrev cX2_saw : ByteArray := prog_1_method_12_code
def yX2_saw : MethodName := ⟨RX2, "saw", "()I"⟩
abbrev wsX2_saw : List Cond := .code yX2_saw cX2_saw 2 (some .int) :: wsAll
abbrev cX2_mill : ByteArray := prog_1_method_13_code
def yX2_mill : MethodName := ⟨RX2, "mill", "(I)I"⟩
abbrev wsX2_mill : List Cond := .code yX2_mill cX2_mill 2 (some .int) :: wsAll
abbrev cX2_gainOfTrial : ByteArray := prog_1_method_15_code
def yX2_gainOfTrial : MethodName := ⟨RX2, "gainOfTrial", "(II)I"⟩
abbrev wsX2_gainOfTrial : List Cond := .code yX2_gainOfTrial cX2_gainOfTrial 3 (some .int) :: wsAll
abbrev cX2_cost : ByteArray := prog_1_method_14_code
def yX2_cost : MethodName := ⟨RX2, "cost", "(II)I"⟩
abbrev wsX2_cost : List Cond := .code yX2_cost cX2_cost 5 (some .int) :: wsAll
abbrev cX3_isIn : ByteArray := prog_5_method_3_code
def yX3_isIn : MethodName := ⟨RX3, "isIn", "(III)Z"⟩
abbrev wsX3_isIn : List Cond := .code yX3_isIn cX3_isIn 3 (some .boolean) :: wsAll
abbrev cX3_thrown : ByteArray := prog_5_method_2_code
def yX3_thrown : MethodName := ⟨RX3, "thrown", "()I"⟩
abbrev wsX3_thrown : List Cond := .code yX3_thrown cX3_thrown 1 (some .int) :: wsAll
abbrev cX3_forget : ByteArray := prog_5_method_4_code
def yX3_forget : MethodName := ⟨RX3, "forget", "()V"⟩
abbrev wsX3_forget : List Cond := .code yX3_forget cX3_forget 1 none :: wsAll
abbrev cX3_logs : ByteArray := prog_5_method_5_code
def yX3_logs : MethodName := ⟨RX3, "logs", "(III)V"⟩
abbrev wsX3_logs : List Cond := .code yX3_logs cX3_logs 4 none :: wsAll
abbrev cX3_order : ByteArray := prog_5_method_9_code
def yX3_order : MethodName := ⟨RX3, "order", "(IIII)V"⟩
abbrev wsX3_order : List Cond := .code yX3_order cX3_order 5 none :: wsAll
abbrev cX3_hours : ByteArray := prog_5_method_10_code
def yX3_hours : MethodName := ⟨RX3, "hours", "(II)V"⟩
abbrev wsX3_hours : List Cond := .code yX3_hours cX3_hours 3 none :: wsAll
abbrev cX3_isPattern : ByteArray := prog_5_method_7_code
def yX3_isPattern : MethodName := ⟨RX3, "isPattern", "(I)Z"⟩
abbrev wsX3_isPattern : List Cond := .code yX3_isPattern cX3_isPattern 2 (some .boolean) :: wsAll
abbrev cX3_gives : ByteArray := prog_5_method_8_code
def yX3_gives : MethodName := ⟨RX3, "gives", "(III)V"⟩
abbrev wsX3_gives : List Cond := .code yX3_gives cX3_gives 4 none :: wsAll
abbrev cX3_pattern : ByteArray := prog_5_method_6_code
def yX3_pattern : MethodName := ⟨RX3, "pattern", "(II)I"⟩
abbrev wsX3_pattern : List Cond := .code yX3_pattern cX3_pattern 3 (some .int) :: wsAll
abbrev cX1_init : ByteArray := prog_3_method_1_code
def yX1_init : MethodName := ⟨RX1, "<init>", "()V"⟩
abbrev wsX1_init : List Cond := .code yX1_init cX1_init 1 none :: wsAll
abbrev cX0_init : ByteArray := prog_2_method_1_code
def yX0_init : MethodName := ⟨RX0, "<init>", "(LDayCutPlans$Yard;)V"⟩
abbrev wsX0_init : List Cond := .code yX0_init cX0_init 2 none :: wsAll
abbrev cX3_init : ByteArray := prog_5_method_1_code
def yX3_init : MethodName := ⟨RX3, "<init>", "()V"⟩
abbrev wsX3_init : List Cond := .code yX3_init cX3_init 1 none :: wsAll
abbrev cX2_init : ByteArray := prog_1_method_1_code
def yX2_init : MethodName := ⟨RX2, "<init>", "()V"⟩
abbrev wsX2_init : List Cond := .code yX2_init cX2_init 1 none :: wsAll
abbrev cL_law : ByteArray := code
def yL_law : MethodName := ⟨RL, "law", "([I)Z"⟩
end
section
theorem dX2_needIndex_0 : decode cX2_needIndex 0 = .ok (.iload_n 0, 1) := by decide +kernel
theorem dX2_needIndex_1 : decode cX2_needIndex 1 = .ok (.ifCond .lt 8, 3) := by decide +kernel
theorem dX2_needIndex_4 : decode cX2_needIndex 4 = .ok (.iload_n 0, 1) := by decide +kernel
theorem dX2_needIndex_5 : decode cX2_needIndex 5 = .ok (.iload_n 1, 1) := by decide +kernel
theorem dX2_needIndex_6 : decode cX2_needIndex 6 = .ok (.if_icmp .lt 13, 3) := by decide +kernel
theorem dX2_needIndex_9 : decode cX2_needIndex 9 = .ok (.new 143, 3) := by decide +kernel
theorem dX2_needIndex_12 : decode cX2_needIndex 12 = .ok (.dup, 1) := by decide +kernel
theorem dX2_needIndex_13 : decode cX2_needIndex 13 = .ok (.ldc 145, 2) := by decide +kernel
theorem dX2_needIndex_15 : decode cX2_needIndex 15 = .ok (.invokespecial 147, 3) := by decide +kernel
theorem dX2_needIndex_18 : decode cX2_needIndex 18 = .ok (.athrow, 1) := by decide +kernel
theorem dX2_needIndex_19 : decode cX2_needIndex 19 = .ok (.return_, 1) := by decide +kernel
theorem dX2_needRange_0 : decode cX2_needRange 0 = .ok (.iload_n 0, 1) := by decide +kernel
theorem dX2_needRange_1 : decode cX2_needRange 1 = .ok (.iload_n 1, 1) := by decide +kernel
theorem dX2_needRange_2 : decode cX2_needRange 2 = .ok (.if_icmp .lt 8, 3) := by decide +kernel
theorem dX2_needRange_5 : decode cX2_needRange 5 = .ok (.iload_n 0, 1) := by decide +kernel
theorem dX2_needRange_6 : decode cX2_needRange 6 = .ok (.iload_n 2, 1) := by decide +kernel
theorem dX2_needRange_7 : decode cX2_needRange 7 = .ok (.if_icmp .le 13, 3) := by decide +kernel
theorem dX2_needRange_10 : decode cX2_needRange 10 = .ok (.new 148, 3) := by decide +kernel
theorem dX2_needRange_13 : decode cX2_needRange 13 = .ok (.dup, 1) := by decide +kernel
theorem dX2_needRange_14 : decode cX2_needRange 14 = .ok (.ldc 150, 2) := by decide +kernel
theorem dX2_needRange_16 : decode cX2_needRange 16 = .ok (.invokespecial 152, 3) := by decide +kernel
theorem dX2_needRange_19 : decode cX2_needRange 19 = .ok (.athrow, 1) := by decide +kernel
theorem dX2_needRange_20 : decode cX2_needRange 20 = .ok (.return_, 1) := by decide +kernel
theorem dX2_needBest_0 : decode cX2_needBest 0 = .ok (.aload_n 0, 1) := by decide +kernel
theorem dX2_needBest_1 : decode cX2_needBest 1 = .ok (.getfield 93, 3) := by decide +kernel
theorem dX2_needBest_4 : decode cX2_needBest 4 = .ok (.ifCond .ne 13, 3) := by decide +kernel
theorem dX2_needBest_7 : decode cX2_needBest 7 = .ok (.new 51, 3) := by decide +kernel
theorem dX2_needBest_10 : decode cX2_needBest 10 = .ok (.dup, 1) := by decide +kernel
theorem dX2_needBest_11 : decode cX2_needBest 11 = .ok (.ldc 153, 2) := by decide +kernel
theorem dX2_needBest_13 : decode cX2_needBest 13 = .ok (.invokespecial 55, 3) := by decide +kernel
theorem dX2_needBest_16 : decode cX2_needBest 16 = .ok (.athrow, 1) := by decide +kernel
theorem dX2_needBest_17 : decode cX2_needBest 17 = .ok (.return_, 1) := by decide +kernel
theorem dX0_startWithEmptyPlan_0 : decode cX0_startWithEmptyPlan 0 = .ok (.iconst 0, 1) := by decide +kernel
theorem dX0_startWithEmptyPlan_1 : decode cX0_startWithEmptyPlan 1 = .ok (.istore_n 1, 1) := by decide +kernel
theorem dX0_startWithEmptyPlan_2 : decode cX0_startWithEmptyPlan 2 = .ok (.iload_n 1, 1) := by decide +kernel
theorem dX0_startWithEmptyPlan_3 : decode cX0_startWithEmptyPlan 3 = .ok (.bipush 6, 2) := by decide +kernel
theorem dX0_startWithEmptyPlan_5 : decode cX0_startWithEmptyPlan 5 = .ok (.if_icmp .ge 16, 3) := by decide +kernel
theorem dX0_startWithEmptyPlan_8 : decode cX0_startWithEmptyPlan 8 = .ok (.aload_n 0, 1) := by decide +kernel
theorem dX0_startWithEmptyPlan_9 : decode cX0_startWithEmptyPlan 9 = .ok (.getfield 9, 3) := by decide +kernel
theorem dX0_startWithEmptyPlan_12 : decode cX0_startWithEmptyPlan 12 = .ok (.iload_n 1, 1) := by decide +kernel
theorem dX0_startWithEmptyPlan_13 : decode cX0_startWithEmptyPlan 13 = .ok (.iconst 0, 1) := by decide +kernel
theorem dX0_startWithEmptyPlan_14 : decode cX0_startWithEmptyPlan 14 = .ok (.iastore, 1) := by decide +kernel
theorem dX0_startWithEmptyPlan_15 : decode cX0_startWithEmptyPlan 15 = .ok (.iinc 1 1, 3) := by decide +kernel
theorem dX0_startWithEmptyPlan_18 : decode cX0_startWithEmptyPlan 18 = .ok (.goto (-16), 3) := by decide +kernel
theorem dX0_startWithEmptyPlan_21 : decode cX0_startWithEmptyPlan 21 = .ok (.iconst 0, 1) := by decide +kernel
theorem dX0_startWithEmptyPlan_22 : decode cX0_startWithEmptyPlan 22 = .ok (.istore_n 1, 1) := by decide +kernel
theorem dX0_startWithEmptyPlan_23 : decode cX0_startWithEmptyPlan 23 = .ok (.iload_n 1, 1) := by decide +kernel
theorem dX0_startWithEmptyPlan_24 : decode cX0_startWithEmptyPlan 24 = .ok (.iconst 4, 1) := by decide +kernel
theorem dX0_startWithEmptyPlan_25 : decode cX0_startWithEmptyPlan 25 = .ok (.if_icmp .ge 24, 3) := by decide +kernel
theorem dX0_startWithEmptyPlan_28 : decode cX0_startWithEmptyPlan 28 = .ok (.aload_n 0, 1) := by decide +kernel
theorem dX0_startWithEmptyPlan_29 : decode cX0_startWithEmptyPlan 29 = .ok (.getfield 15, 3) := by decide +kernel
theorem dX0_startWithEmptyPlan_32 : decode cX0_startWithEmptyPlan 32 = .ok (.iload_n 1, 1) := by decide +kernel
theorem dX0_startWithEmptyPlan_33 : decode cX0_startWithEmptyPlan 33 = .ok (.aload_n 0, 1) := by decide +kernel
theorem dX0_startWithEmptyPlan_34 : decode cX0_startWithEmptyPlan 34 = .ok (.getfield 33, 3) := by decide +kernel
theorem dX0_startWithEmptyPlan_37 : decode cX0_startWithEmptyPlan 37 = .ok (.getfield 61, 3) := by decide +kernel
theorem dX0_startWithEmptyPlan_40 : decode cX0_startWithEmptyPlan 40 = .ok (.iload_n 1, 1) := by decide +kernel
theorem dX0_startWithEmptyPlan_41 : decode cX0_startWithEmptyPlan 41 = .ok (.iaload, 1) := by decide +kernel
theorem dX0_startWithEmptyPlan_42 : decode cX0_startWithEmptyPlan 42 = .ok (.iastore, 1) := by decide +kernel
theorem dX0_startWithEmptyPlan_43 : decode cX0_startWithEmptyPlan 43 = .ok (.iinc 1 1, 3) := by decide +kernel
theorem dX0_startWithEmptyPlan_46 : decode cX0_startWithEmptyPlan 46 = .ok (.goto (-23), 3) := by decide +kernel
theorem dX0_startWithEmptyPlan_49 : decode cX0_startWithEmptyPlan 49 = .ok (.iconst 0, 1) := by decide +kernel
theorem dX0_startWithEmptyPlan_50 : decode cX0_startWithEmptyPlan 50 = .ok (.istore_n 1, 1) := by decide +kernel
theorem dX0_startWithEmptyPlan_51 : decode cX0_startWithEmptyPlan 51 = .ok (.iload_n 1, 1) := by decide +kernel
theorem dX0_startWithEmptyPlan_52 : decode cX0_startWithEmptyPlan 52 = .ok (.iconst 4, 1) := by decide +kernel
theorem dX0_startWithEmptyPlan_53 : decode cX0_startWithEmptyPlan 53 = .ok (.if_icmp .ge 24, 3) := by decide +kernel
theorem dX0_startWithEmptyPlan_56 : decode cX0_startWithEmptyPlan 56 = .ok (.aload_n 0, 1) := by decide +kernel
theorem dX0_startWithEmptyPlan_57 : decode cX0_startWithEmptyPlan 57 = .ok (.getfield 18, 3) := by decide +kernel
theorem dX0_startWithEmptyPlan_60 : decode cX0_startWithEmptyPlan 60 = .ok (.iload_n 1, 1) := by decide +kernel
theorem dX0_startWithEmptyPlan_61 : decode cX0_startWithEmptyPlan 61 = .ok (.aload_n 0, 1) := by decide +kernel
theorem dX0_startWithEmptyPlan_62 : decode cX0_startWithEmptyPlan 62 = .ok (.getfield 33, 3) := by decide +kernel
theorem dX0_startWithEmptyPlan_65 : decode cX0_startWithEmptyPlan 65 = .ok (.getfield 66, 3) := by decide +kernel
theorem dX0_startWithEmptyPlan_68 : decode cX0_startWithEmptyPlan 68 = .ok (.iload_n 1, 1) := by decide +kernel
theorem dX0_startWithEmptyPlan_69 : decode cX0_startWithEmptyPlan 69 = .ok (.iaload, 1) := by decide +kernel
theorem dX0_startWithEmptyPlan_70 : decode cX0_startWithEmptyPlan 70 = .ok (.iastore, 1) := by decide +kernel
theorem dX0_startWithEmptyPlan_71 : decode cX0_startWithEmptyPlan 71 = .ok (.iinc 1 1, 3) := by decide +kernel
theorem dX0_startWithEmptyPlan_74 : decode cX0_startWithEmptyPlan 74 = .ok (.goto (-23), 3) := by decide +kernel
theorem dX0_startWithEmptyPlan_77 : decode cX0_startWithEmptyPlan 77 = .ok (.aload_n 0, 1) := by decide +kernel
theorem dX0_startWithEmptyPlan_78 : decode cX0_startWithEmptyPlan 78 = .ok (.aload_n 0, 1) := by decide +kernel
theorem dX0_startWithEmptyPlan_79 : decode cX0_startWithEmptyPlan 79 = .ok (.getfield 33, 3) := by decide +kernel
theorem dX0_startWithEmptyPlan_82 : decode cX0_startWithEmptyPlan 82 = .ok (.getfield 69, 3) := by decide +kernel
theorem dX0_startWithEmptyPlan_85 : decode cX0_startWithEmptyPlan 85 = .ok (.putfield 72, 3) := by decide +kernel
theorem dX0_startWithEmptyPlan_88 : decode cX0_startWithEmptyPlan 88 = .ok (.aload_n 0, 1) := by decide +kernel
theorem dX0_startWithEmptyPlan_89 : decode cX0_startWithEmptyPlan 89 = .ok (.iconst 0, 1) := by decide +kernel
theorem dX0_startWithEmptyPlan_90 : decode cX0_startWithEmptyPlan 90 = .ok (.putfield 75, 3) := by decide +kernel
theorem dX0_startWithEmptyPlan_93 : decode cX0_startWithEmptyPlan 93 = .ok (.return_, 1) := by decide +kernel
theorem dX0_takeOrders_0 : decode cX0_takeOrders 0 = .ok (.iconst 0, 1) := by decide +kernel
theorem dX0_takeOrders_1 : decode cX0_takeOrders 1 = .ok (.istore_n 2, 1) := by decide +kernel
theorem dX0_takeOrders_2 : decode cX0_takeOrders 2 = .ok (.iload_n 2, 1) := by decide +kernel
theorem dX0_takeOrders_3 : decode cX0_takeOrders 3 = .ok (.iconst 4, 1) := by decide +kernel
theorem dX0_takeOrders_4 : decode cX0_takeOrders 4 = .ok (.if_icmp .ge 89, 3) := by decide +kernel
theorem dX0_takeOrders_7 : decode cX0_takeOrders 7 = .ok (.iload_n 2, 1) := by decide +kernel
theorem dX0_takeOrders_8 : decode cX0_takeOrders 8 = .ok (.iload_n 1, 1) := by decide +kernel
theorem dX0_takeOrders_9 : decode cX0_takeOrders 9 = .ok (.if_icmp .eq 7, 3) := by decide +kernel
theorem dX0_takeOrders_12 : decode cX0_takeOrders 12 = .ok (.iconst 1, 1) := by decide +kernel
theorem dX0_takeOrders_13 : decode cX0_takeOrders 13 = .ok (.goto 4, 3) := by decide +kernel
theorem dX0_takeOrders_16 : decode cX0_takeOrders 16 = .ok (.iconst 0, 1) := by decide +kernel
theorem dX0_takeOrders_17 : decode cX0_takeOrders 17 = .ok (.istore_n 3, 1) := by decide +kernel
theorem dX0_takeOrders_18 : decode cX0_takeOrders 18 = .ok (.aload_n 0, 1) := by decide +kernel
theorem dX0_takeOrders_19 : decode cX0_takeOrders 19 = .ok (.getfield 21, 3) := by decide +kernel
theorem dX0_takeOrders_22 : decode cX0_takeOrders 22 = .ok (.iload_n 2, 1) := by decide +kernel
theorem dX0_takeOrders_23 : decode cX0_takeOrders 23 = .ok (.iload_n 3, 1) := by decide +kernel
theorem dX0_takeOrders_24 : decode cX0_takeOrders 24 = .ok (.ifCond .eq 15, 3) := by decide +kernel
theorem dX0_takeOrders_27 : decode cX0_takeOrders 27 = .ok (.aload_n 0, 1) := by decide +kernel
theorem dX0_takeOrders_28 : decode cX0_takeOrders 28 = .ok (.getfield 33, 3) := by decide +kernel
theorem dX0_takeOrders_31 : decode cX0_takeOrders 31 = .ok (.getfield 78, 3) := by decide +kernel
theorem dX0_takeOrders_34 : decode cX0_takeOrders 34 = .ok (.iload_n 2, 1) := by decide +kernel
theorem dX0_takeOrders_35 : decode cX0_takeOrders 35 = .ok (.iaload, 1) := by decide +kernel
theorem dX0_takeOrders_36 : decode cX0_takeOrders 36 = .ok (.goto 4, 3) := by decide +kernel
theorem dX0_takeOrders_39 : decode cX0_takeOrders 39 = .ok (.iconst 0, 1) := by decide +kernel
theorem dX0_takeOrders_40 : decode cX0_takeOrders 40 = .ok (.iastore, 1) := by decide +kernel
theorem dX0_takeOrders_41 : decode cX0_takeOrders 41 = .ok (.aload_n 0, 1) := by decide +kernel
theorem dX0_takeOrders_42 : decode cX0_takeOrders 42 = .ok (.getfield 24, 3) := by decide +kernel
theorem dX0_takeOrders_45 : decode cX0_takeOrders 45 = .ok (.iload_n 2, 1) := by decide +kernel
theorem dX0_takeOrders_46 : decode cX0_takeOrders 46 = .ok (.iload_n 3, 1) := by decide +kernel
theorem dX0_takeOrders_47 : decode cX0_takeOrders 47 = .ok (.ifCond .eq 15, 3) := by decide +kernel
theorem dX0_takeOrders_50 : decode cX0_takeOrders 50 = .ok (.aload_n 0, 1) := by decide +kernel
theorem dX0_takeOrders_51 : decode cX0_takeOrders 51 = .ok (.getfield 33, 3) := by decide +kernel
theorem dX0_takeOrders_54 : decode cX0_takeOrders 54 = .ok (.getfield 79, 3) := by decide +kernel
theorem dX0_takeOrders_57 : decode cX0_takeOrders 57 = .ok (.iload_n 2, 1) := by decide +kernel
theorem dX0_takeOrders_58 : decode cX0_takeOrders 58 = .ok (.iaload, 1) := by decide +kernel
theorem dX0_takeOrders_59 : decode cX0_takeOrders 59 = .ok (.goto 4, 3) := by decide +kernel
theorem dX0_takeOrders_62 : decode cX0_takeOrders 62 = .ok (.iconst 0, 1) := by decide +kernel
theorem dX0_takeOrders_63 : decode cX0_takeOrders 63 = .ok (.iastore, 1) := by decide +kernel
theorem dX0_takeOrders_64 : decode cX0_takeOrders 64 = .ok (.aload_n 0, 1) := by decide +kernel
theorem dX0_takeOrders_65 : decode cX0_takeOrders 65 = .ok (.getfield 27, 3) := by decide +kernel
theorem dX0_takeOrders_68 : decode cX0_takeOrders 68 = .ok (.iload_n 2, 1) := by decide +kernel
theorem dX0_takeOrders_69 : decode cX0_takeOrders 69 = .ok (.iload_n 3, 1) := by decide +kernel
theorem dX0_takeOrders_70 : decode cX0_takeOrders 70 = .ok (.ifCond .eq 15, 3) := by decide +kernel
theorem dX0_takeOrders_73 : decode cX0_takeOrders 73 = .ok (.aload_n 0, 1) := by decide +kernel
theorem dX0_takeOrders_74 : decode cX0_takeOrders 74 = .ok (.getfield 33, 3) := by decide +kernel
theorem dX0_takeOrders_77 : decode cX0_takeOrders 77 = .ok (.getfield 80, 3) := by decide +kernel
theorem dX0_takeOrders_80 : decode cX0_takeOrders 80 = .ok (.iload_n 2, 1) := by decide +kernel
theorem dX0_takeOrders_81 : decode cX0_takeOrders 81 = .ok (.iaload, 1) := by decide +kernel
theorem dX0_takeOrders_82 : decode cX0_takeOrders 82 = .ok (.goto 4, 3) := by decide +kernel
theorem dX0_takeOrders_85 : decode cX0_takeOrders 85 = .ok (.iconst 0, 1) := by decide +kernel
theorem dX0_takeOrders_86 : decode cX0_takeOrders 86 = .ok (.iastore, 1) := by decide +kernel
theorem dX0_takeOrders_87 : decode cX0_takeOrders 87 = .ok (.iinc 2 1, 3) := by decide +kernel
theorem dX0_takeOrders_90 : decode cX0_takeOrders 90 = .ok (.goto (-88), 3) := by decide +kernel
theorem dX0_takeOrders_93 : decode cX0_takeOrders 93 = .ok (.return_, 1) := by decide +kernel
theorem dX0_minutesOfNextLog_0 : decode cX0_minutesOfNextLog 0 = .ok (.aload_n 0, 1) := by decide +kernel
theorem dX0_minutesOfNextLog_1 : decode cX0_minutesOfNextLog 1 = .ok (.getfield 33, 3) := by decide +kernel
theorem dX0_minutesOfNextLog_4 : decode cX0_minutesOfNextLog 4 = .ok (.getfield 107, 3) := by decide +kernel
theorem dX0_minutesOfNextLog_7 : decode cX0_minutesOfNextLog 7 = .ok (.iload_n 1, 1) := by decide +kernel
theorem dX0_minutesOfNextLog_8 : decode cX0_minutesOfNextLog 8 = .ok (.iaload, 1) := by decide +kernel
theorem dX0_minutesOfNextLog_9 : decode cX0_minutesOfNextLog 9 = .ok (.istore_n 2, 1) := by decide +kernel
theorem dX0_minutesOfNextLog_10 : decode cX0_minutesOfNextLog 10 = .ok (.aload_n 0, 1) := by decide +kernel
theorem dX0_minutesOfNextLog_11 : decode cX0_minutesOfNextLog 11 = .ok (.getfield 9, 3) := by decide +kernel
theorem dX0_minutesOfNextLog_14 : decode cX0_minutesOfNextLog 14 = .ok (.iload_n 1, 1) := by decide +kernel
theorem dX0_minutesOfNextLog_15 : decode cX0_minutesOfNextLog 15 = .ok (.iaload, 1) := by decide +kernel
theorem dX0_minutesOfNextLog_16 : decode cX0_minutesOfNextLog 16 = .ok (.ifCond .ne 15, 3) := by decide +kernel
theorem dX0_minutesOfNextLog_19 : decode cX0_minutesOfNextLog 19 = .ok (.iload_n 2, 1) := by decide +kernel
theorem dX0_minutesOfNextLog_20 : decode cX0_minutesOfNextLog 20 = .ok (.aload_n 0, 1) := by decide +kernel
theorem dX0_minutesOfNextLog_21 : decode cX0_minutesOfNextLog 21 = .ok (.getfield 33, 3) := by decide +kernel
theorem dX0_minutesOfNextLog_24 : decode cX0_minutesOfNextLog 24 = .ok (.getfield 110, 3) := by decide +kernel
theorem dX0_minutesOfNextLog_27 : decode cX0_minutesOfNextLog 27 = .ok (.iadd, 1) := by decide +kernel
theorem dX0_minutesOfNextLog_28 : decode cX0_minutesOfNextLog 28 = .ok (.goto 4, 3) := by decide +kernel
theorem dX0_minutesOfNextLog_31 : decode cX0_minutesOfNextLog 31 = .ok (.iload_n 2, 1) := by decide +kernel
theorem dX0_minutesOfNextLog_32 : decode cX0_minutesOfNextLog 32 = .ok (.ireturn, 1) := by decide +kernel
theorem dX0_oneLogMoreFits_0 : decode cX0_oneLogMoreFits 0 = .ok (.aload_n 0, 1) := by decide +kernel
theorem dX0_oneLogMoreFits_1 : decode cX0_oneLogMoreFits 1 = .ok (.getfield 15, 3) := by decide +kernel
theorem dX0_oneLogMoreFits_4 : decode cX0_oneLogMoreFits 4 = .ok (.aload_n 0, 1) := by decide +kernel
theorem dX0_oneLogMoreFits_5 : decode cX0_oneLogMoreFits 5 = .ok (.getfield 33, 3) := by decide +kernel
theorem dX0_oneLogMoreFits_8 : decode cX0_oneLogMoreFits 8 = .ok (.getfield 100, 3) := by decide +kernel
theorem dX0_oneLogMoreFits_11 : decode cX0_oneLogMoreFits 11 = .ok (.iload_n 1, 1) := by decide +kernel
theorem dX0_oneLogMoreFits_12 : decode cX0_oneLogMoreFits 12 = .ok (.iaload, 1) := by decide +kernel
theorem dX0_oneLogMoreFits_13 : decode cX0_oneLogMoreFits 13 = .ok (.iaload, 1) := by decide +kernel
theorem dX0_oneLogMoreFits_14 : decode cX0_oneLogMoreFits 14 = .ok (.ifCond .le 19, 3) := by decide +kernel
theorem dX0_oneLogMoreFits_17 : decode cX0_oneLogMoreFits 17 = .ok (.aload_n 0, 1) := by decide +kernel
theorem dX0_oneLogMoreFits_18 : decode cX0_oneLogMoreFits 18 = .ok (.iload_n 1, 1) := by decide +kernel
theorem dX0_oneLogMoreFits_19 : decode cX0_oneLogMoreFits 19 = .ok (.invokevirtual 103, 3) := by decide +kernel
theorem dX0_oneLogMoreFits_22 : decode cX0_oneLogMoreFits 22 = .ok (.aload_n 0, 1) := by decide +kernel
theorem dX0_oneLogMoreFits_23 : decode cX0_oneLogMoreFits 23 = .ok (.getfield 72, 3) := by decide +kernel
theorem dX0_oneLogMoreFits_26 : decode cX0_oneLogMoreFits 26 = .ok (.if_icmp .gt 7, 3) := by decide +kernel
theorem dX0_oneLogMoreFits_29 : decode cX0_oneLogMoreFits 29 = .ok (.iconst 1, 1) := by decide +kernel
theorem dX0_oneLogMoreFits_30 : decode cX0_oneLogMoreFits 30 = .ok (.goto 4, 3) := by decide +kernel
theorem dX0_oneLogMoreFits_33 : decode cX0_oneLogMoreFits 33 = .ok (.iconst 0, 1) := by decide +kernel
theorem dX0_oneLogMoreFits_34 : decode cX0_oneLogMoreFits 34 = .ok (.ireturn, 1) := by decide +kernel
theorem dX0_addLog_0 : decode cX0_addLog 0 = .ok (.aload_n 0, 1) := by decide +kernel
theorem dX0_addLog_1 : decode cX0_addLog 1 = .ok (.getfield 33, 3) := by decide +kernel
theorem dX0_addLog_4 : decode cX0_addLog 4 = .ok (.getfield 100, 3) := by decide +kernel
theorem dX0_addLog_7 : decode cX0_addLog 7 = .ok (.iload_n 1, 1) := by decide +kernel
theorem dX0_addLog_8 : decode cX0_addLog 8 = .ok (.iaload, 1) := by decide +kernel
theorem dX0_addLog_9 : decode cX0_addLog 9 = .ok (.istore_n 2, 1) := by decide +kernel
theorem dX0_addLog_10 : decode cX0_addLog 10 = .ok (.aload_n 0, 1) := by decide +kernel
theorem dX0_addLog_11 : decode cX0_addLog 11 = .ok (.dup, 1) := by decide +kernel
theorem dX0_addLog_12 : decode cX0_addLog 12 = .ok (.getfield 72, 3) := by decide +kernel
theorem dX0_addLog_15 : decode cX0_addLog 15 = .ok (.aload_n 0, 1) := by decide +kernel
theorem dX0_addLog_16 : decode cX0_addLog 16 = .ok (.iload_n 1, 1) := by decide +kernel
theorem dX0_addLog_17 : decode cX0_addLog 17 = .ok (.invokevirtual 103, 3) := by decide +kernel
theorem dX0_addLog_20 : decode cX0_addLog 20 = .ok (.isub, 1) := by decide +kernel
theorem dX0_addLog_21 : decode cX0_addLog 21 = .ok (.putfield 72, 3) := by decide +kernel
theorem dX0_addLog_24 : decode cX0_addLog 24 = .ok (.aload_n 0, 1) := by decide +kernel
theorem dX0_addLog_25 : decode cX0_addLog 25 = .ok (.getfield 15, 3) := by decide +kernel
theorem dX0_addLog_28 : decode cX0_addLog 28 = .ok (.iload_n 2, 1) := by decide +kernel
theorem dX0_addLog_29 : decode cX0_addLog 29 = .ok (.dup2, 1) := by decide +kernel
theorem dX0_addLog_30 : decode cX0_addLog 30 = .ok (.iaload, 1) := by decide +kernel
theorem dX0_addLog_31 : decode cX0_addLog 31 = .ok (.iconst 1, 1) := by decide +kernel
theorem dX0_addLog_32 : decode cX0_addLog 32 = .ok (.isub, 1) := by decide +kernel
theorem dX0_addLog_33 : decode cX0_addLog 33 = .ok (.iastore, 1) := by decide +kernel
theorem dX0_addLog_34 : decode cX0_addLog 34 = .ok (.aload_n 0, 1) := by decide +kernel
theorem dX0_addLog_35 : decode cX0_addLog 35 = .ok (.dup, 1) := by decide +kernel
theorem dX0_addLog_36 : decode cX0_addLog 36 = .ok (.getfield 75, 3) := by decide +kernel
theorem dX0_addLog_39 : decode cX0_addLog 39 = .ok (.aload_n 0, 1) := by decide +kernel
theorem dX0_addLog_40 : decode cX0_addLog 40 = .ok (.getfield 33, 3) := by decide +kernel
theorem dX0_addLog_43 : decode cX0_addLog 43 = .ok (.getfield 113, 3) := by decide +kernel
theorem dX0_addLog_46 : decode cX0_addLog 46 = .ok (.iload_n 2, 1) := by decide +kernel
theorem dX0_addLog_47 : decode cX0_addLog 47 = .ok (.iaload, 1) := by decide +kernel
theorem dX0_addLog_48 : decode cX0_addLog 48 = .ok (.iadd, 1) := by decide +kernel
theorem dX0_addLog_49 : decode cX0_addLog 49 = .ok (.putfield 75, 3) := by decide +kernel
theorem dX0_addLog_52 : decode cX0_addLog 52 = .ok (.aload_n 0, 1) := by decide +kernel
theorem dX0_addLog_53 : decode cX0_addLog 53 = .ok (.getfield 9, 3) := by decide +kernel
theorem dX0_addLog_56 : decode cX0_addLog 56 = .ok (.iload_n 1, 1) := by decide +kernel
theorem dX0_addLog_57 : decode cX0_addLog 57 = .ok (.dup2, 1) := by decide +kernel
theorem dX0_addLog_58 : decode cX0_addLog 58 = .ok (.iaload, 1) := by decide +kernel
theorem dX0_addLog_59 : decode cX0_addLog 59 = .ok (.iconst 1, 1) := by decide +kernel
theorem dX0_addLog_60 : decode cX0_addLog 60 = .ok (.iadd, 1) := by decide +kernel
theorem dX0_addLog_61 : decode cX0_addLog 61 = .ok (.iastore, 1) := by decide +kernel
theorem dX0_addLog_62 : decode cX0_addLog 62 = .ok (.iconst 0, 1) := by decide +kernel
theorem dX0_addLog_63 : decode cX0_addLog 63 = .ok (.istore_n 3, 1) := by decide +kernel
theorem dX0_addLog_64 : decode cX0_addLog 64 = .ok (.iload_n 3, 1) := by decide +kernel
theorem dX0_addLog_65 : decode cX0_addLog 65 = .ok (.iconst 4, 1) := by decide +kernel
theorem dX0_addLog_66 : decode cX0_addLog 66 = .ok (.if_icmp .ge 29, 3) := by decide +kernel
theorem dX0_addLog_69 : decode cX0_addLog 69 = .ok (.aload_n 0, 1) := by decide +kernel
theorem dX0_addLog_70 : decode cX0_addLog 70 = .ok (.getfield 18, 3) := by decide +kernel
theorem dX0_addLog_73 : decode cX0_addLog 73 = .ok (.iload_n 3, 1) := by decide +kernel
theorem dX0_addLog_74 : decode cX0_addLog 74 = .ok (.dup2, 1) := by decide +kernel
theorem dX0_addLog_75 : decode cX0_addLog 75 = .ok (.iaload, 1) := by decide +kernel
theorem dX0_addLog_76 : decode cX0_addLog 76 = .ok (.aload_n 0, 1) := by decide +kernel
theorem dX0_addLog_77 : decode cX0_addLog 77 = .ok (.getfield 33, 3) := by decide +kernel
theorem dX0_addLog_80 : decode cX0_addLog 80 = .ok (.getfield 116, 3) := by decide +kernel
theorem dX0_addLog_83 : decode cX0_addLog 83 = .ok (.iload_n 1, 1) := by decide +kernel
theorem dX0_addLog_84 : decode cX0_addLog 84 = .ok (.aaload, 1) := by decide +kernel
theorem dX0_addLog_85 : decode cX0_addLog 85 = .ok (.iload_n 3, 1) := by decide +kernel
theorem dX0_addLog_86 : decode cX0_addLog 86 = .ok (.iaload, 1) := by decide +kernel
theorem dX0_addLog_87 : decode cX0_addLog 87 = .ok (.iadd, 1) := by decide +kernel
theorem dX0_addLog_88 : decode cX0_addLog 88 = .ok (.iastore, 1) := by decide +kernel
theorem dX0_addLog_89 : decode cX0_addLog 89 = .ok (.iinc 3 1, 3) := by decide +kernel
theorem dX0_addLog_92 : decode cX0_addLog 92 = .ok (.goto (-28), 3) := by decide +kernel
theorem dX0_addLog_95 : decode cX0_addLog 95 = .ok (.return_, 1) := by decide +kernel
theorem dX0_takeLogsBack_0 : decode cX0_takeLogsBack 0 = .ok (.aload_n 0, 1) := by decide +kernel
theorem dX0_takeLogsBack_1 : decode cX0_takeLogsBack 1 = .ok (.getfield 9, 3) := by decide +kernel
theorem dX0_takeLogsBack_4 : decode cX0_takeLogsBack 4 = .ok (.iload_n 1, 1) := by decide +kernel
theorem dX0_takeLogsBack_5 : decode cX0_takeLogsBack 5 = .ok (.iaload, 1) := by decide +kernel
theorem dX0_takeLogsBack_6 : decode cX0_takeLogsBack 6 = .ok (.istore_n 2, 1) := by decide +kernel
theorem dX0_takeLogsBack_7 : decode cX0_takeLogsBack 7 = .ok (.iload_n 2, 1) := by decide +kernel
theorem dX0_takeLogsBack_8 : decode cX0_takeLogsBack 8 = .ok (.ifCond .ne 4, 3) := by decide +kernel
theorem dX0_takeLogsBack_11 : decode cX0_takeLogsBack 11 = .ok (.return_, 1) := by decide +kernel
theorem dX0_takeLogsBack_12 : decode cX0_takeLogsBack 12 = .ok (.aload_n 0, 1) := by decide +kernel
theorem dX0_takeLogsBack_13 : decode cX0_takeLogsBack 13 = .ok (.getfield 33, 3) := by decide +kernel
theorem dX0_takeLogsBack_16 : decode cX0_takeLogsBack 16 = .ok (.getfield 100, 3) := by decide +kernel
theorem dX0_takeLogsBack_19 : decode cX0_takeLogsBack 19 = .ok (.iload_n 1, 1) := by decide +kernel
theorem dX0_takeLogsBack_20 : decode cX0_takeLogsBack 20 = .ok (.iaload, 1) := by decide +kernel
theorem dX0_takeLogsBack_21 : decode cX0_takeLogsBack 21 = .ok (.istore_n 3, 1) := by decide +kernel
theorem dX0_takeLogsBack_22 : decode cX0_takeLogsBack 22 = .ok (.aload_n 0, 1) := by decide +kernel
theorem dX0_takeLogsBack_23 : decode cX0_takeLogsBack 23 = .ok (.dup, 1) := by decide +kernel
theorem dX0_takeLogsBack_24 : decode cX0_takeLogsBack 24 = .ok (.getfield 72, 3) := by decide +kernel
theorem dX0_takeLogsBack_27 : decode cX0_takeLogsBack 27 = .ok (.iload_n 2, 1) := by decide +kernel
theorem dX0_takeLogsBack_28 : decode cX0_takeLogsBack 28 = .ok (.aload_n 0, 1) := by decide +kernel
theorem dX0_takeLogsBack_29 : decode cX0_takeLogsBack 29 = .ok (.getfield 33, 3) := by decide +kernel
theorem dX0_takeLogsBack_32 : decode cX0_takeLogsBack 32 = .ok (.getfield 107, 3) := by decide +kernel
theorem dX0_takeLogsBack_35 : decode cX0_takeLogsBack 35 = .ok (.iload_n 1, 1) := by decide +kernel
theorem dX0_takeLogsBack_36 : decode cX0_takeLogsBack 36 = .ok (.iaload, 1) := by decide +kernel
theorem dX0_takeLogsBack_37 : decode cX0_takeLogsBack 37 = .ok (.imul, 1) := by decide +kernel
theorem dX0_takeLogsBack_38 : decode cX0_takeLogsBack 38 = .ok (.aload_n 0, 1) := by decide +kernel
theorem dX0_takeLogsBack_39 : decode cX0_takeLogsBack 39 = .ok (.getfield 33, 3) := by decide +kernel
theorem dX0_takeLogsBack_42 : decode cX0_takeLogsBack 42 = .ok (.getfield 110, 3) := by decide +kernel
theorem dX0_takeLogsBack_45 : decode cX0_takeLogsBack 45 = .ok (.iadd, 1) := by decide +kernel
theorem dX0_takeLogsBack_46 : decode cX0_takeLogsBack 46 = .ok (.iadd, 1) := by decide +kernel
theorem dX0_takeLogsBack_47 : decode cX0_takeLogsBack 47 = .ok (.putfield 72, 3) := by decide +kernel
theorem dX0_takeLogsBack_50 : decode cX0_takeLogsBack 50 = .ok (.aload_n 0, 1) := by decide +kernel
theorem dX0_takeLogsBack_51 : decode cX0_takeLogsBack 51 = .ok (.getfield 15, 3) := by decide +kernel
theorem dX0_takeLogsBack_54 : decode cX0_takeLogsBack 54 = .ok (.iload_n 3, 1) := by decide +kernel
theorem dX0_takeLogsBack_55 : decode cX0_takeLogsBack 55 = .ok (.dup2, 1) := by decide +kernel
theorem dX0_takeLogsBack_56 : decode cX0_takeLogsBack 56 = .ok (.iaload, 1) := by decide +kernel
theorem dX0_takeLogsBack_57 : decode cX0_takeLogsBack 57 = .ok (.iload_n 2, 1) := by decide +kernel
theorem dX0_takeLogsBack_58 : decode cX0_takeLogsBack 58 = .ok (.iadd, 1) := by decide +kernel
theorem dX0_takeLogsBack_59 : decode cX0_takeLogsBack 59 = .ok (.iastore, 1) := by decide +kernel
theorem dX0_takeLogsBack_60 : decode cX0_takeLogsBack 60 = .ok (.aload_n 0, 1) := by decide +kernel
theorem dX0_takeLogsBack_61 : decode cX0_takeLogsBack 61 = .ok (.dup, 1) := by decide +kernel
theorem dX0_takeLogsBack_62 : decode cX0_takeLogsBack 62 = .ok (.getfield 75, 3) := by decide +kernel
theorem dX0_takeLogsBack_65 : decode cX0_takeLogsBack 65 = .ok (.iload_n 2, 1) := by decide +kernel
theorem dX0_takeLogsBack_66 : decode cX0_takeLogsBack 66 = .ok (.aload_n 0, 1) := by decide +kernel
theorem dX0_takeLogsBack_67 : decode cX0_takeLogsBack 67 = .ok (.getfield 33, 3) := by decide +kernel
theorem dX0_takeLogsBack_70 : decode cX0_takeLogsBack 70 = .ok (.getfield 113, 3) := by decide +kernel
theorem dX0_takeLogsBack_73 : decode cX0_takeLogsBack 73 = .ok (.iload_n 3, 1) := by decide +kernel
theorem dX0_takeLogsBack_74 : decode cX0_takeLogsBack 74 = .ok (.iaload, 1) := by decide +kernel
theorem dX0_takeLogsBack_75 : decode cX0_takeLogsBack 75 = .ok (.imul, 1) := by decide +kernel
theorem dX0_takeLogsBack_76 : decode cX0_takeLogsBack 76 = .ok (.isub, 1) := by decide +kernel
theorem dX0_takeLogsBack_77 : decode cX0_takeLogsBack 77 = .ok (.putfield 75, 3) := by decide +kernel
theorem dX0_takeLogsBack_80 : decode cX0_takeLogsBack 80 = .ok (.aload_n 0, 1) := by decide +kernel
theorem dX0_takeLogsBack_81 : decode cX0_takeLogsBack 81 = .ok (.getfield 9, 3) := by decide +kernel
theorem dX0_takeLogsBack_84 : decode cX0_takeLogsBack 84 = .ok (.iload_n 1, 1) := by decide +kernel
theorem dX0_takeLogsBack_85 : decode cX0_takeLogsBack 85 = .ok (.iconst 0, 1) := by decide +kernel
theorem dX0_takeLogsBack_86 : decode cX0_takeLogsBack 86 = .ok (.iastore, 1) := by decide +kernel
theorem dX0_takeLogsBack_87 : decode cX0_takeLogsBack 87 = .ok (.iconst 0, 1) := by decide +kernel
theorem dX0_takeLogsBack_88 : decode cX0_takeLogsBack 88 = .ok (.istore 4, 2) := by decide +kernel
theorem dX0_takeLogsBack_90 : decode cX0_takeLogsBack 90 = .ok (.iload 4, 2) := by decide +kernel
theorem dX0_takeLogsBack_92 : decode cX0_takeLogsBack 92 = .ok (.iconst 4, 1) := by decide +kernel
theorem dX0_takeLogsBack_93 : decode cX0_takeLogsBack 93 = .ok (.if_icmp .ge 33, 3) := by decide +kernel
theorem dX0_takeLogsBack_96 : decode cX0_takeLogsBack 96 = .ok (.aload_n 0, 1) := by decide +kernel
theorem dX0_takeLogsBack_97 : decode cX0_takeLogsBack 97 = .ok (.getfield 18, 3) := by decide +kernel
theorem dX0_takeLogsBack_100 : decode cX0_takeLogsBack 100 = .ok (.iload 4, 2) := by decide +kernel
theorem dX0_takeLogsBack_102 : decode cX0_takeLogsBack 102 = .ok (.dup2, 1) := by decide +kernel
theorem dX0_takeLogsBack_103 : decode cX0_takeLogsBack 103 = .ok (.iaload, 1) := by decide +kernel
theorem dX0_takeLogsBack_104 : decode cX0_takeLogsBack 104 = .ok (.iload_n 2, 1) := by decide +kernel
theorem dX0_takeLogsBack_105 : decode cX0_takeLogsBack 105 = .ok (.aload_n 0, 1) := by decide +kernel
theorem dX0_takeLogsBack_106 : decode cX0_takeLogsBack 106 = .ok (.getfield 33, 3) := by decide +kernel
theorem dX0_takeLogsBack_109 : decode cX0_takeLogsBack 109 = .ok (.getfield 116, 3) := by decide +kernel
theorem dX0_takeLogsBack_112 : decode cX0_takeLogsBack 112 = .ok (.iload_n 1, 1) := by decide +kernel
theorem dX0_takeLogsBack_113 : decode cX0_takeLogsBack 113 = .ok (.aaload, 1) := by decide +kernel
theorem dX0_takeLogsBack_114 : decode cX0_takeLogsBack 114 = .ok (.iload 4, 2) := by decide +kernel
theorem dX0_takeLogsBack_116 : decode cX0_takeLogsBack 116 = .ok (.iaload, 1) := by decide +kernel
theorem dX0_takeLogsBack_117 : decode cX0_takeLogsBack 117 = .ok (.imul, 1) := by decide +kernel
theorem dX0_takeLogsBack_118 : decode cX0_takeLogsBack 118 = .ok (.isub, 1) := by decide +kernel
theorem dX0_takeLogsBack_119 : decode cX0_takeLogsBack 119 = .ok (.iastore, 1) := by decide +kernel
theorem dX0_takeLogsBack_120 : decode cX0_takeLogsBack 120 = .ok (.iinc 4 1, 3) := by decide +kernel
theorem dX0_takeLogsBack_123 : decode cX0_takeLogsBack 123 = .ok (.goto (-33), 3) := by decide +kernel
theorem dX0_takeLogsBack_126 : decode cX0_takeLogsBack 126 = .ok (.return_, 1) := by decide +kernel
theorem dX0_fillsOrders_0 : decode cX0_fillsOrders 0 = .ok (.iconst 0, 1) := by decide +kernel
theorem dX0_fillsOrders_1 : decode cX0_fillsOrders 1 = .ok (.istore_n 1, 1) := by decide +kernel
theorem dX0_fillsOrders_2 : decode cX0_fillsOrders 2 = .ok (.iload_n 1, 1) := by decide +kernel
theorem dX0_fillsOrders_3 : decode cX0_fillsOrders 3 = .ok (.iconst 4, 1) := by decide +kernel
theorem dX0_fillsOrders_4 : decode cX0_fillsOrders 4 = .ok (.if_icmp .ge 26, 3) := by decide +kernel
theorem dX0_fillsOrders_7 : decode cX0_fillsOrders 7 = .ok (.aload_n 0, 1) := by decide +kernel
theorem dX0_fillsOrders_8 : decode cX0_fillsOrders 8 = .ok (.getfield 18, 3) := by decide +kernel
theorem dX0_fillsOrders_11 : decode cX0_fillsOrders 11 = .ok (.iload_n 1, 1) := by decide +kernel
theorem dX0_fillsOrders_12 : decode cX0_fillsOrders 12 = .ok (.iaload, 1) := by decide +kernel
theorem dX0_fillsOrders_13 : decode cX0_fillsOrders 13 = .ok (.aload_n 0, 1) := by decide +kernel
theorem dX0_fillsOrders_14 : decode cX0_fillsOrders 14 = .ok (.getfield 21, 3) := by decide +kernel
theorem dX0_fillsOrders_17 : decode cX0_fillsOrders 17 = .ok (.iload_n 1, 1) := by decide +kernel
theorem dX0_fillsOrders_18 : decode cX0_fillsOrders 18 = .ok (.iaload, 1) := by decide +kernel
theorem dX0_fillsOrders_19 : decode cX0_fillsOrders 19 = .ok (.if_icmp .ge 5, 3) := by decide +kernel
theorem dX0_fillsOrders_22 : decode cX0_fillsOrders 22 = .ok (.iconst 0, 1) := by decide +kernel
theorem dX0_fillsOrders_23 : decode cX0_fillsOrders 23 = .ok (.ireturn, 1) := by decide +kernel
theorem dX0_fillsOrders_24 : decode cX0_fillsOrders 24 = .ok (.iinc 1 1, 3) := by decide +kernel
theorem dX0_fillsOrders_27 : decode cX0_fillsOrders 27 = .ok (.goto (-25), 3) := by decide +kernel
theorem dX0_fillsOrders_30 : decode cX0_fillsOrders 30 = .ok (.iconst 1, 1) := by decide +kernel
theorem dX0_fillsOrders_31 : decode cX0_fillsOrders 31 = .ok (.ireturn, 1) := by decide +kernel
theorem dX0_gainOfPlan_0 : decode cX0_gainOfPlan 0 = .ok (.aload_n 0, 1) := by decide +kernel
theorem dX0_gainOfPlan_1 : decode cX0_gainOfPlan 1 = .ok (.getfield 75, 3) := by decide +kernel
theorem dX0_gainOfPlan_4 : decode cX0_gainOfPlan 4 = .ok (.ineg, 1) := by decide +kernel
theorem dX0_gainOfPlan_5 : decode cX0_gainOfPlan 5 = .ok (.istore_n 1, 1) := by decide +kernel
theorem dX0_gainOfPlan_6 : decode cX0_gainOfPlan 6 = .ok (.iconst 0, 1) := by decide +kernel
theorem dX0_gainOfPlan_7 : decode cX0_gainOfPlan 7 = .ok (.istore_n 2, 1) := by decide +kernel
theorem dX0_gainOfPlan_8 : decode cX0_gainOfPlan 8 = .ok (.iload_n 2, 1) := by decide +kernel
theorem dX0_gainOfPlan_9 : decode cX0_gainOfPlan 9 = .ok (.iconst 4, 1) := by decide +kernel
theorem dX0_gainOfPlan_10 : decode cX0_gainOfPlan 10 = .ok (.if_icmp .ge 34, 3) := by decide +kernel
theorem dX0_gainOfPlan_13 : decode cX0_gainOfPlan 13 = .ok (.iload_n 1, 1) := by decide +kernel
theorem dX0_gainOfPlan_14 : decode cX0_gainOfPlan 14 = .ok (.aload_n 0, 1) := by decide +kernel
theorem dX0_gainOfPlan_15 : decode cX0_gainOfPlan 15 = .ok (.getfield 27, 3) := by decide +kernel
theorem dX0_gainOfPlan_18 : decode cX0_gainOfPlan 18 = .ok (.iload_n 2, 1) := by decide +kernel
theorem dX0_gainOfPlan_19 : decode cX0_gainOfPlan 19 = .ok (.iaload, 1) := by decide +kernel
theorem dX0_gainOfPlan_20 : decode cX0_gainOfPlan 20 = .ok (.aload_n 0, 1) := by decide +kernel
theorem dX0_gainOfPlan_21 : decode cX0_gainOfPlan 21 = .ok (.getfield 18, 3) := by decide +kernel
theorem dX0_gainOfPlan_24 : decode cX0_gainOfPlan 24 = .ok (.iload_n 2, 1) := by decide +kernel
theorem dX0_gainOfPlan_25 : decode cX0_gainOfPlan 25 = .ok (.iaload, 1) := by decide +kernel
theorem dX0_gainOfPlan_26 : decode cX0_gainOfPlan 26 = .ok (.aload_n 0, 1) := by decide +kernel
theorem dX0_gainOfPlan_27 : decode cX0_gainOfPlan 27 = .ok (.getfield 24, 3) := by decide +kernel
theorem dX0_gainOfPlan_30 : decode cX0_gainOfPlan 30 = .ok (.iload_n 2, 1) := by decide +kernel
theorem dX0_gainOfPlan_31 : decode cX0_gainOfPlan 31 = .ok (.iaload, 1) := by decide +kernel
theorem dX0_gainOfPlan_32 : decode cX0_gainOfPlan 32 = .ok (.invokestatic 137, 3) := by decide +kernel
theorem dX0_gainOfPlan_35 : decode cX0_gainOfPlan 35 = .ok (.imul, 1) := by decide +kernel
theorem dX0_gainOfPlan_36 : decode cX0_gainOfPlan 36 = .ok (.iadd, 1) := by decide +kernel
theorem dX0_gainOfPlan_37 : decode cX0_gainOfPlan 37 = .ok (.istore_n 1, 1) := by decide +kernel
theorem dX0_gainOfPlan_38 : decode cX0_gainOfPlan 38 = .ok (.iinc 2 1, 3) := by decide +kernel
theorem dX0_gainOfPlan_41 : decode cX0_gainOfPlan 41 = .ok (.goto (-33), 3) := by decide +kernel
theorem dX0_gainOfPlan_44 : decode cX0_gainOfPlan 44 = .ok (.iload_n 1, 1) := by decide +kernel
theorem dX0_gainOfPlan_45 : decode cX0_gainOfPlan 45 = .ok (.ireturn, 1) := by decide +kernel
theorem dX0_lookAtPlan_0 : decode cX0_lookAtPlan 0 = .ok (.aload_n 0, 1) := by decide +kernel
theorem dX0_lookAtPlan_1 : decode cX0_lookAtPlan 1 = .ok (.invokevirtual 120, 3) := by decide +kernel
theorem dX0_lookAtPlan_4 : decode cX0_lookAtPlan 4 = .ok (.ifCond .ne 4, 3) := by decide +kernel
theorem dX0_lookAtPlan_7 : decode cX0_lookAtPlan 7 = .ok (.return_, 1) := by decide +kernel
theorem dX0_lookAtPlan_8 : decode cX0_lookAtPlan 8 = .ok (.aload_n 0, 1) := by decide +kernel
theorem dX0_lookAtPlan_9 : decode cX0_lookAtPlan 9 = .ok (.invokevirtual 124, 3) := by decide +kernel
theorem dX0_lookAtPlan_12 : decode cX0_lookAtPlan 12 = .ok (.istore_n 1, 1) := by decide +kernel
theorem dX0_lookAtPlan_13 : decode cX0_lookAtPlan 13 = .ok (.aload_n 0, 1) := by decide +kernel
theorem dX0_lookAtPlan_14 : decode cX0_lookAtPlan 14 = .ok (.getfield 55, 3) := by decide +kernel
theorem dX0_lookAtPlan_17 : decode cX0_lookAtPlan 17 = .ok (.ifCond .eq 11, 3) := by decide +kernel
theorem dX0_lookAtPlan_20 : decode cX0_lookAtPlan 20 = .ok (.iload_n 1, 1) := by decide +kernel
theorem dX0_lookAtPlan_21 : decode cX0_lookAtPlan 21 = .ok (.aload_n 0, 1) := by decide +kernel
theorem dX0_lookAtPlan_22 : decode cX0_lookAtPlan 22 = .ok (.getfield 128, 3) := by decide +kernel
theorem dX0_lookAtPlan_25 : decode cX0_lookAtPlan 25 = .ok (.if_icmp .le 28, 3) := by decide +kernel
theorem dX0_lookAtPlan_28 : decode cX0_lookAtPlan 28 = .ok (.aload_n 0, 1) := by decide +kernel
theorem dX0_lookAtPlan_29 : decode cX0_lookAtPlan 29 = .ok (.iconst 1, 1) := by decide +kernel
theorem dX0_lookAtPlan_30 : decode cX0_lookAtPlan 30 = .ok (.putfield 55, 3) := by decide +kernel
theorem dX0_lookAtPlan_33 : decode cX0_lookAtPlan 33 = .ok (.aload_n 0, 1) := by decide +kernel
theorem dX0_lookAtPlan_34 : decode cX0_lookAtPlan 34 = .ok (.iload_n 1, 1) := by decide +kernel
theorem dX0_lookAtPlan_35 : decode cX0_lookAtPlan 35 = .ok (.putfield 128, 3) := by decide +kernel
theorem dX0_lookAtPlan_38 : decode cX0_lookAtPlan 38 = .ok (.aload_n 0, 1) := by decide +kernel
theorem dX0_lookAtPlan_39 : decode cX0_lookAtPlan 39 = .ok (.getfield 9, 3) := by decide +kernel
theorem dX0_lookAtPlan_42 : decode cX0_lookAtPlan 42 = .ok (.iconst 0, 1) := by decide +kernel
theorem dX0_lookAtPlan_43 : decode cX0_lookAtPlan 43 = .ok (.aload_n 0, 1) := by decide +kernel
theorem dX0_lookAtPlan_44 : decode cX0_lookAtPlan 44 = .ok (.getfield 30, 3) := by decide +kernel
theorem dX0_lookAtPlan_47 : decode cX0_lookAtPlan 47 = .ok (.iconst 0, 1) := by decide +kernel
theorem dX0_lookAtPlan_48 : decode cX0_lookAtPlan 48 = .ok (.bipush 6, 2) := by decide +kernel
theorem dX0_lookAtPlan_50 : decode cX0_lookAtPlan 50 = .ok (.invokestatic 131, 3) := by decide +kernel
theorem dX0_lookAtPlan_53 : decode cX0_lookAtPlan 53 = .ok (.return_, 1) := by decide +kernel
theorem dX0_tellPatternsFrom_0 : decode cX0_tellPatternsFrom 0 = .ok (.iload_n 1, 1) := by decide +kernel
theorem dX0_tellPatternsFrom_1 : decode cX0_tellPatternsFrom 1 = .ok (.aload_n 0, 1) := by decide +kernel
theorem dX0_tellPatternsFrom_2 : decode cX0_tellPatternsFrom 2 = .ok (.getfield 33, 3) := by decide +kernel
theorem dX0_tellPatternsFrom_5 : decode cX0_tellPatternsFrom 5 = .ok (.getfield 81, 3) := by decide +kernel
theorem dX0_tellPatternsFrom_8 : decode cX0_tellPatternsFrom 8 = .ok (.if_icmp .ge 9, 3) := by decide +kernel
theorem dX0_tellPatternsFrom_11 : decode cX0_tellPatternsFrom 11 = .ok (.iload_n 1, 1) := by decide +kernel
theorem dX0_tellPatternsFrom_12 : decode cX0_tellPatternsFrom 12 = .ok (.bipush 6, 2) := by decide +kernel
theorem dX0_tellPatternsFrom_14 : decode cX0_tellPatternsFrom 14 = .ok (.if_icmp .lt 8, 3) := by decide +kernel
theorem dX0_tellPatternsFrom_17 : decode cX0_tellPatternsFrom 17 = .ok (.aload_n 0, 1) := by decide +kernel
theorem dX0_tellPatternsFrom_18 : decode cX0_tellPatternsFrom 18 = .ok (.invokevirtual 84, 3) := by decide +kernel
theorem dX0_tellPatternsFrom_21 : decode cX0_tellPatternsFrom 21 = .ok (.return_, 1) := by decide +kernel
theorem dX0_tellPatternsFrom_22 : decode cX0_tellPatternsFrom 22 = .ok (.aload_n 0, 1) := by decide +kernel
theorem dX0_tellPatternsFrom_23 : decode cX0_tellPatternsFrom 23 = .ok (.iload_n 1, 1) := by decide +kernel
theorem dX0_tellPatternsFrom_24 : decode cX0_tellPatternsFrom 24 = .ok (.invokevirtual 87, 3) := by decide +kernel
theorem dX0_tellPatternsFrom_27 : decode cX0_tellPatternsFrom 27 = .ok (.iconst 1, 1) := by decide +kernel
theorem dX0_tellPatternsFrom_28 : decode cX0_tellPatternsFrom 28 = .ok (.istore_n 2, 1) := by decide +kernel
theorem dX0_tellPatternsFrom_29 : decode cX0_tellPatternsFrom 29 = .ok (.iload_n 2, 1) := by decide +kernel
theorem dX0_tellPatternsFrom_30 : decode cX0_tellPatternsFrom 30 = .ok (.bipush 12, 2) := by decide +kernel
theorem dX0_tellPatternsFrom_32 : decode cX0_tellPatternsFrom 32 = .ok (.if_icmp .gt 37, 3) := by decide +kernel
theorem dX0_tellPatternsFrom_35 : decode cX0_tellPatternsFrom 35 = .ok (.aload_n 0, 1) := by decide +kernel
theorem dX0_tellPatternsFrom_36 : decode cX0_tellPatternsFrom 36 = .ok (.getfield 51, 3) := by decide +kernel
theorem dX0_tellPatternsFrom_39 : decode cX0_tellPatternsFrom 39 = .ok (.ifCond .ne 30, 3) := by decide +kernel
theorem dX0_tellPatternsFrom_42 : decode cX0_tellPatternsFrom 42 = .ok (.aload_n 0, 1) := by decide +kernel
theorem dX0_tellPatternsFrom_43 : decode cX0_tellPatternsFrom 43 = .ok (.iload_n 1, 1) := by decide +kernel
theorem dX0_tellPatternsFrom_44 : decode cX0_tellPatternsFrom 44 = .ok (.invokevirtual 90, 3) := by decide +kernel
theorem dX0_tellPatternsFrom_47 : decode cX0_tellPatternsFrom 47 = .ok (.ifCond .ne 6, 3) := by decide +kernel
theorem dX0_tellPatternsFrom_50 : decode cX0_tellPatternsFrom 50 = .ok (.goto 19, 3) := by decide +kernel
theorem dX0_tellPatternsFrom_53 : decode cX0_tellPatternsFrom 53 = .ok (.aload_n 0, 1) := by decide +kernel
theorem dX0_tellPatternsFrom_54 : decode cX0_tellPatternsFrom 54 = .ok (.iload_n 1, 1) := by decide +kernel
theorem dX0_tellPatternsFrom_55 : decode cX0_tellPatternsFrom 55 = .ok (.invokevirtual 94, 3) := by decide +kernel
theorem dX0_tellPatternsFrom_58 : decode cX0_tellPatternsFrom 58 = .ok (.aload_n 0, 1) := by decide +kernel
theorem dX0_tellPatternsFrom_59 : decode cX0_tellPatternsFrom 59 = .ok (.iload_n 1, 1) := by decide +kernel
theorem dX0_tellPatternsFrom_60 : decode cX0_tellPatternsFrom 60 = .ok (.invokevirtual 87, 3) := by decide +kernel
theorem dX0_tellPatternsFrom_63 : decode cX0_tellPatternsFrom 63 = .ok (.iinc 2 1, 3) := by decide +kernel
theorem dX0_tellPatternsFrom_66 : decode cX0_tellPatternsFrom 66 = .ok (.goto (-37), 3) := by decide +kernel
theorem dX0_tellPatternsFrom_69 : decode cX0_tellPatternsFrom 69 = .ok (.aload_n 0, 1) := by decide +kernel
theorem dX0_tellPatternsFrom_70 : decode cX0_tellPatternsFrom 70 = .ok (.iload_n 1, 1) := by decide +kernel
theorem dX0_tellPatternsFrom_71 : decode cX0_tellPatternsFrom 71 = .ok (.invokevirtual 97, 3) := by decide +kernel
theorem dX0_tellPatternsFrom_74 : decode cX0_tellPatternsFrom 74 = .ok (.return_, 1) := by decide +kernel
theorem dX0_takeStep_0 : decode cX0_takeStep 0 = .ok (.aload_n 0, 1) := by decide +kernel
theorem dX0_takeStep_1 : decode cX0_takeStep 1 = .ok (.getfield 48, 3) := by decide +kernel
theorem dX0_takeStep_4 : decode cX0_takeStep 4 = .ok (.aload_n 0, 1) := by decide +kernel
theorem dX0_takeStep_5 : decode cX0_takeStep 5 = .ok (.getfield 44, 3) := by decide +kernel
theorem dX0_takeStep_8 : decode cX0_takeStep 8 = .ok (.if_icmp .lt 9, 3) := by decide +kernel
theorem dX0_takeStep_11 : decode cX0_takeStep 11 = .ok (.aload_n 0, 1) := by decide +kernel
theorem dX0_takeStep_12 : decode cX0_takeStep 12 = .ok (.iconst 1, 1) := by decide +kernel
theorem dX0_takeStep_13 : decode cX0_takeStep 13 = .ok (.putfield 51, 3) := by decide +kernel
theorem dX0_takeStep_16 : decode cX0_takeStep 16 = .ok (.return_, 1) := by decide +kernel
theorem dX0_takeStep_17 : decode cX0_takeStep 17 = .ok (.aload_n 0, 1) := by decide +kernel
theorem dX0_takeStep_18 : decode cX0_takeStep 18 = .ok (.dup, 1) := by decide +kernel
theorem dX0_takeStep_19 : decode cX0_takeStep 19 = .ok (.getfield 48, 3) := by decide +kernel
theorem dX0_takeStep_22 : decode cX0_takeStep 22 = .ok (.iconst 1, 1) := by decide +kernel
theorem dX0_takeStep_23 : decode cX0_takeStep 23 = .ok (.iadd, 1) := by decide +kernel
theorem dX0_takeStep_24 : decode cX0_takeStep 24 = .ok (.putfield 48, 3) := by decide +kernel
theorem dX0_takeStep_27 : decode cX0_takeStep 27 = .ok (.aload_n 0, 1) := by decide +kernel
theorem dX0_takeStep_28 : decode cX0_takeStep 28 = .ok (.iload_n 1, 1) := by decide +kernel
theorem dX0_takeStep_29 : decode cX0_takeStep 29 = .ok (.iconst 1, 1) := by decide +kernel
theorem dX0_takeStep_30 : decode cX0_takeStep 30 = .ok (.iadd, 1) := by decide +kernel
theorem dX0_takeStep_31 : decode cX0_takeStep 31 = .ok (.invokevirtual 58, 3) := by decide +kernel
theorem dX0_takeStep_34 : decode cX0_takeStep 34 = .ok (.return_, 1) := by decide +kernel
theorem dX0_goThroughPlans_0 : decode cX0_goThroughPlans 0 = .ok (.aload_n 0, 1) := by decide +kernel
theorem dX0_goThroughPlans_1 : decode cX0_goThroughPlans 1 = .ok (.invokevirtual 37, 3) := by decide +kernel
theorem dX0_goThroughPlans_4 : decode cX0_goThroughPlans 4 = .ok (.aload_n 0, 1) := by decide +kernel
theorem dX0_goThroughPlans_5 : decode cX0_goThroughPlans 5 = .ok (.iload_n 2, 1) := by decide +kernel
theorem dX0_goThroughPlans_6 : decode cX0_goThroughPlans 6 = .ok (.invokevirtual 40, 3) := by decide +kernel
theorem dX0_goThroughPlans_9 : decode cX0_goThroughPlans 9 = .ok (.aload_n 0, 1) := by decide +kernel
theorem dX0_goThroughPlans_10 : decode cX0_goThroughPlans 10 = .ok (.iload_n 1, 1) := by decide +kernel
theorem dX0_goThroughPlans_11 : decode cX0_goThroughPlans 11 = .ok (.putfield 44, 3) := by decide +kernel
theorem dX0_goThroughPlans_14 : decode cX0_goThroughPlans 14 = .ok (.aload_n 0, 1) := by decide +kernel
theorem dX0_goThroughPlans_15 : decode cX0_goThroughPlans 15 = .ok (.iconst 0, 1) := by decide +kernel
theorem dX0_goThroughPlans_16 : decode cX0_goThroughPlans 16 = .ok (.putfield 48, 3) := by decide +kernel
theorem dX0_goThroughPlans_19 : decode cX0_goThroughPlans 19 = .ok (.aload_n 0, 1) := by decide +kernel
theorem dX0_goThroughPlans_20 : decode cX0_goThroughPlans 20 = .ok (.iconst 0, 1) := by decide +kernel
theorem dX0_goThroughPlans_21 : decode cX0_goThroughPlans 21 = .ok (.putfield 51, 3) := by decide +kernel
theorem dX0_goThroughPlans_24 : decode cX0_goThroughPlans 24 = .ok (.aload_n 0, 1) := by decide +kernel
theorem dX0_goThroughPlans_25 : decode cX0_goThroughPlans 25 = .ok (.iconst 0, 1) := by decide +kernel
theorem dX0_goThroughPlans_26 : decode cX0_goThroughPlans 26 = .ok (.putfield 55, 3) := by decide +kernel
theorem dX0_goThroughPlans_29 : decode cX0_goThroughPlans 29 = .ok (.aload_n 0, 1) := by decide +kernel
theorem dX0_goThroughPlans_30 : decode cX0_goThroughPlans 30 = .ok (.iconst 0, 1) := by decide +kernel
theorem dX0_goThroughPlans_31 : decode cX0_goThroughPlans 31 = .ok (.invokevirtual 58, 3) := by decide +kernel
theorem dX0_goThroughPlans_34 : decode cX0_goThroughPlans 34 = .ok (.return_, 1) := by decide +kernel
theorem dX1_boundOfGain_0 : decode cX1_boundOfGain 0 = .ok (.iconst 0, 1) := by decide +kernel
theorem dX1_boundOfGain_1 : decode cX1_boundOfGain 1 = .ok (.istore_n 1, 1) := by decide +kernel
theorem dX1_boundOfGain_2 : decode cX1_boundOfGain 2 = .ok (.iconst 0, 1) := by decide +kernel
theorem dX1_boundOfGain_3 : decode cX1_boundOfGain 3 = .ok (.istore_n 2, 1) := by decide +kernel
theorem dX1_boundOfGain_4 : decode cX1_boundOfGain 4 = .ok (.iload_n 2, 1) := by decide +kernel
theorem dX1_boundOfGain_5 : decode cX1_boundOfGain 5 = .ok (.iconst 4, 1) := by decide +kernel
theorem dX1_boundOfGain_6 : decode cX1_boundOfGain 6 = .ok (.if_icmp .ge 25, 3) := by decide +kernel
theorem dX1_boundOfGain_9 : decode cX1_boundOfGain 9 = .ok (.iload_n 1, 1) := by decide +kernel
theorem dX1_boundOfGain_10 : decode cX1_boundOfGain 10 = .ok (.aload_n 0, 1) := by decide +kernel
theorem dX1_boundOfGain_11 : decode cX1_boundOfGain 11 = .ok (.getfield 35, 3) := by decide +kernel
theorem dX1_boundOfGain_14 : decode cX1_boundOfGain 14 = .ok (.iload_n 2, 1) := by decide +kernel
theorem dX1_boundOfGain_15 : decode cX1_boundOfGain 15 = .ok (.iaload, 1) := by decide +kernel
theorem dX1_boundOfGain_16 : decode cX1_boundOfGain 16 = .ok (.aload_n 0, 1) := by decide +kernel
theorem dX1_boundOfGain_17 : decode cX1_boundOfGain 17 = .ok (.getfield 32, 3) := by decide +kernel
theorem dX1_boundOfGain_20 : decode cX1_boundOfGain 20 = .ok (.iload_n 2, 1) := by decide +kernel
theorem dX1_boundOfGain_21 : decode cX1_boundOfGain 21 = .ok (.iaload, 1) := by decide +kernel
theorem dX1_boundOfGain_22 : decode cX1_boundOfGain 22 = .ok (.imul, 1) := by decide +kernel
theorem dX1_boundOfGain_23 : decode cX1_boundOfGain 23 = .ok (.iadd, 1) := by decide +kernel
theorem dX1_boundOfGain_24 : decode cX1_boundOfGain 24 = .ok (.istore_n 1, 1) := by decide +kernel
theorem dX1_boundOfGain_25 : decode cX1_boundOfGain 25 = .ok (.iinc 2 1, 3) := by decide +kernel
theorem dX1_boundOfGain_28 : decode cX1_boundOfGain 28 = .ok (.goto (-24), 3) := by decide +kernel
theorem dX1_boundOfGain_31 : decode cX1_boundOfGain 31 = .ok (.iload_n 1, 1) := by decide +kernel
theorem dX1_boundOfGain_32 : decode cX1_boundOfGain 32 = .ok (.ireturn, 1) := by decide +kernel
theorem dX1_patternsUsedIn_0 : decode cX1_patternsUsedIn 0 = .ok (.iconst 0, 1) := by decide +kernel
theorem dX1_patternsUsedIn_1 : decode cX1_patternsUsedIn 1 = .ok (.istore_n 2, 1) := by decide +kernel
theorem dX1_patternsUsedIn_2 : decode cX1_patternsUsedIn 2 = .ok (.iconst 0, 1) := by decide +kernel
theorem dX1_patternsUsedIn_3 : decode cX1_patternsUsedIn 3 = .ok (.istore_n 3, 1) := by decide +kernel
theorem dX1_patternsUsedIn_4 : decode cX1_patternsUsedIn 4 = .ok (.iload_n 3, 1) := by decide +kernel
theorem dX1_patternsUsedIn_5 : decode cX1_patternsUsedIn 5 = .ok (.aload_n 0, 1) := by decide +kernel
theorem dX1_patternsUsedIn_6 : decode cX1_patternsUsedIn 6 = .ok (.getfield 45, 3) := by decide +kernel
theorem dX1_patternsUsedIn_9 : decode cX1_patternsUsedIn 9 = .ok (.if_icmp .ge 18, 3) := by decide +kernel
theorem dX1_patternsUsedIn_12 : decode cX1_patternsUsedIn 12 = .ok (.aload_n 1, 1) := by decide +kernel
theorem dX1_patternsUsedIn_13 : decode cX1_patternsUsedIn 13 = .ok (.iload_n 3, 1) := by decide +kernel
theorem dX1_patternsUsedIn_14 : decode cX1_patternsUsedIn 14 = .ok (.iaload, 1) := by decide +kernel
theorem dX1_patternsUsedIn_15 : decode cX1_patternsUsedIn 15 = .ok (.ifCond .le 6, 3) := by decide +kernel
theorem dX1_patternsUsedIn_18 : decode cX1_patternsUsedIn 18 = .ok (.iinc 2 1, 3) := by decide +kernel
theorem dX1_patternsUsedIn_21 : decode cX1_patternsUsedIn 21 = .ok (.iinc 3 1, 3) := by decide +kernel
theorem dX1_patternsUsedIn_24 : decode cX1_patternsUsedIn 24 = .ok (.goto (-20), 3) := by decide +kernel
theorem dX1_patternsUsedIn_27 : decode cX1_patternsUsedIn 27 = .ok (.iload_n 2, 1) := by decide +kernel
theorem dX1_patternsUsedIn_28 : decode cX1_patternsUsedIn 28 = .ok (.ireturn, 1) := by decide +kernel
theorem dX1_minutesOf_0 : decode cX1_minutesOf 0 = .ok (.iconst 0, 1) := by decide +kernel
theorem dX1_minutesOf_1 : decode cX1_minutesOf 1 = .ok (.istore_n 2, 1) := by decide +kernel
theorem dX1_minutesOf_2 : decode cX1_minutesOf 2 = .ok (.iconst 0, 1) := by decide +kernel
theorem dX1_minutesOf_3 : decode cX1_minutesOf 3 = .ok (.istore_n 3, 1) := by decide +kernel
theorem dX1_minutesOf_4 : decode cX1_minutesOf 4 = .ok (.iload_n 3, 1) := by decide +kernel
theorem dX1_minutesOf_5 : decode cX1_minutesOf 5 = .ok (.aload_n 0, 1) := by decide +kernel
theorem dX1_minutesOf_6 : decode cX1_minutesOf 6 = .ok (.getfield 45, 3) := by decide +kernel
theorem dX1_minutesOf_9 : decode cX1_minutesOf 9 = .ok (.if_icmp .ge 22, 3) := by decide +kernel
theorem dX1_minutesOf_12 : decode cX1_minutesOf 12 = .ok (.iload_n 2, 1) := by decide +kernel
theorem dX1_minutesOf_13 : decode cX1_minutesOf 13 = .ok (.aload_n 1, 1) := by decide +kernel
theorem dX1_minutesOf_14 : decode cX1_minutesOf 14 = .ok (.iload_n 3, 1) := by decide +kernel
theorem dX1_minutesOf_15 : decode cX1_minutesOf 15 = .ok (.iaload, 1) := by decide +kernel
theorem dX1_minutesOf_16 : decode cX1_minutesOf 16 = .ok (.aload_n 0, 1) := by decide +kernel
theorem dX1_minutesOf_17 : decode cX1_minutesOf 17 = .ok (.getfield 21, 3) := by decide +kernel
theorem dX1_minutesOf_20 : decode cX1_minutesOf 20 = .ok (.iload_n 3, 1) := by decide +kernel
theorem dX1_minutesOf_21 : decode cX1_minutesOf 21 = .ok (.iaload, 1) := by decide +kernel
theorem dX1_minutesOf_22 : decode cX1_minutesOf 22 = .ok (.imul, 1) := by decide +kernel
theorem dX1_minutesOf_23 : decode cX1_minutesOf 23 = .ok (.iadd, 1) := by decide +kernel
theorem dX1_minutesOf_24 : decode cX1_minutesOf 24 = .ok (.istore_n 2, 1) := by decide +kernel
theorem dX1_minutesOf_25 : decode cX1_minutesOf 25 = .ok (.iinc 3 1, 3) := by decide +kernel
theorem dX1_minutesOf_28 : decode cX1_minutesOf 28 = .ok (.goto (-24), 3) := by decide +kernel
theorem dX1_minutesOf_31 : decode cX1_minutesOf 31 = .ok (.iload_n 2, 1) := by decide +kernel
theorem dX1_minutesOf_32 : decode cX1_minutesOf 32 = .ok (.aload_n 0, 1) := by decide +kernel
theorem dX1_minutesOf_33 : decode cX1_minutesOf 33 = .ok (.aload_n 1, 1) := by decide +kernel
theorem dX1_minutesOf_34 : decode cX1_minutesOf 34 = .ok (.invokevirtual 48, 3) := by decide +kernel
theorem dX1_minutesOf_37 : decode cX1_minutesOf 37 = .ok (.aload_n 0, 1) := by decide +kernel
theorem dX1_minutesOf_38 : decode cX1_minutesOf 38 = .ok (.getfield 52, 3) := by decide +kernel
theorem dX1_minutesOf_41 : decode cX1_minutesOf 41 = .ok (.imul, 1) := by decide +kernel
theorem dX1_minutesOf_42 : decode cX1_minutesOf 42 = .ok (.iadd, 1) := by decide +kernel
theorem dX1_minutesOf_43 : decode cX1_minutesOf 43 = .ok (.ireturn, 1) := by decide +kernel
theorem dX1_madeBy_0 : decode cX1_madeBy 0 = .ok (.aload_n 0, 1) := by decide +kernel
theorem dX1_madeBy_1 : decode cX1_madeBy 1 = .ok (.getfield 38, 3) := by decide +kernel
theorem dX1_madeBy_4 : decode cX1_madeBy 4 = .ok (.iload_n 2, 1) := by decide +kernel
theorem dX1_madeBy_5 : decode cX1_madeBy 5 = .ok (.iaload, 1) := by decide +kernel
theorem dX1_madeBy_6 : decode cX1_madeBy 6 = .ok (.istore_n 3, 1) := by decide +kernel
theorem dX1_madeBy_7 : decode cX1_madeBy 7 = .ok (.iconst 0, 1) := by decide +kernel
theorem dX1_madeBy_8 : decode cX1_madeBy 8 = .ok (.istore 4, 2) := by decide +kernel
theorem dX1_madeBy_10 : decode cX1_madeBy 10 = .ok (.iload 4, 2) := by decide +kernel
theorem dX1_madeBy_12 : decode cX1_madeBy 12 = .ok (.aload_n 0, 1) := by decide +kernel
theorem dX1_madeBy_13 : decode cX1_madeBy 13 = .ok (.getfield 45, 3) := by decide +kernel
theorem dX1_madeBy_16 : decode cX1_madeBy 16 = .ok (.if_icmp .ge 26, 3) := by decide +kernel
theorem dX1_madeBy_19 : decode cX1_madeBy 19 = .ok (.iload_n 3, 1) := by decide +kernel
theorem dX1_madeBy_20 : decode cX1_madeBy 20 = .ok (.aload_n 1, 1) := by decide +kernel
theorem dX1_madeBy_21 : decode cX1_madeBy 21 = .ok (.iload 4, 2) := by decide +kernel
theorem dX1_madeBy_23 : decode cX1_madeBy 23 = .ok (.iaload, 1) := by decide +kernel
theorem dX1_madeBy_24 : decode cX1_madeBy 24 = .ok (.aload_n 0, 1) := by decide +kernel
theorem dX1_madeBy_25 : decode cX1_madeBy 25 = .ok (.getfield 26, 3) := by decide +kernel
theorem dX1_madeBy_28 : decode cX1_madeBy 28 = .ok (.iload 4, 2) := by decide +kernel
theorem dX1_madeBy_30 : decode cX1_madeBy 30 = .ok (.aaload, 1) := by decide +kernel
theorem dX1_madeBy_31 : decode cX1_madeBy 31 = .ok (.iload_n 2, 1) := by decide +kernel
theorem dX1_madeBy_32 : decode cX1_madeBy 32 = .ok (.iaload, 1) := by decide +kernel
theorem dX1_madeBy_33 : decode cX1_madeBy 33 = .ok (.imul, 1) := by decide +kernel
theorem dX1_madeBy_34 : decode cX1_madeBy 34 = .ok (.iadd, 1) := by decide +kernel
theorem dX1_madeBy_35 : decode cX1_madeBy 35 = .ok (.istore_n 3, 1) := by decide +kernel
theorem dX1_madeBy_36 : decode cX1_madeBy 36 = .ok (.iinc 4 1, 3) := by decide +kernel
theorem dX1_madeBy_39 : decode cX1_madeBy 39 = .ok (.goto (-29), 3) := by decide +kernel
theorem dX1_madeBy_42 : decode cX1_madeBy 42 = .ok (.iload_n 3, 1) := by decide +kernel
theorem dX1_madeBy_43 : decode cX1_madeBy 43 = .ok (.ireturn, 1) := by decide +kernel
theorem dX1_doPlan_0 : decode cX1_doPlan 0 = .ok (.iconst 0, 1) := by decide +kernel
theorem dX1_doPlan_1 : decode cX1_doPlan 1 = .ok (.istore_n 2, 1) := by decide +kernel
theorem dX1_doPlan_2 : decode cX1_doPlan 2 = .ok (.iload_n 2, 1) := by decide +kernel
theorem dX1_doPlan_3 : decode cX1_doPlan 3 = .ok (.iconst 4, 1) := by decide +kernel
theorem dX1_doPlan_4 : decode cX1_doPlan 4 = .ok (.if_icmp .ge 34, 3) := by decide +kernel
theorem dX1_doPlan_7 : decode cX1_doPlan 7 = .ok (.aload_n 0, 1) := by decide +kernel
theorem dX1_doPlan_8 : decode cX1_doPlan 8 = .ok (.aload_n 1, 1) := by decide +kernel
theorem dX1_doPlan_9 : decode cX1_doPlan 9 = .ok (.iload_n 2, 1) := by decide +kernel
theorem dX1_doPlan_10 : decode cX1_doPlan 10 = .ok (.invokevirtual 55, 3) := by decide +kernel
theorem dX1_doPlan_13 : decode cX1_doPlan 13 = .ok (.istore_n 3, 1) := by decide +kernel
theorem dX1_doPlan_14 : decode cX1_doPlan 14 = .ok (.aload_n 0, 1) := by decide +kernel
theorem dX1_doPlan_15 : decode cX1_doPlan 15 = .ok (.getfield 38, 3) := by decide +kernel
theorem dX1_doPlan_18 : decode cX1_doPlan 18 = .ok (.iload_n 2, 1) := by decide +kernel
theorem dX1_doPlan_19 : decode cX1_doPlan 19 = .ok (.iload_n 3, 1) := by decide +kernel
theorem dX1_doPlan_20 : decode cX1_doPlan 20 = .ok (.iload_n 3, 1) := by decide +kernel
theorem dX1_doPlan_21 : decode cX1_doPlan 21 = .ok (.aload_n 0, 1) := by decide +kernel
theorem dX1_doPlan_22 : decode cX1_doPlan 22 = .ok (.getfield 32, 3) := by decide +kernel
theorem dX1_doPlan_25 : decode cX1_doPlan 25 = .ok (.iload_n 2, 1) := by decide +kernel
theorem dX1_doPlan_26 : decode cX1_doPlan 26 = .ok (.iaload, 1) := by decide +kernel
theorem dX1_doPlan_27 : decode cX1_doPlan 27 = .ok (.invokestatic 59, 3) := by decide +kernel
theorem dX1_doPlan_30 : decode cX1_doPlan 30 = .ok (.isub, 1) := by decide +kernel
theorem dX1_doPlan_31 : decode cX1_doPlan 31 = .ok (.iastore, 1) := by decide +kernel
theorem dX1_doPlan_32 : decode cX1_doPlan 32 = .ok (.iinc 2 1, 3) := by decide +kernel
theorem dX1_doPlan_35 : decode cX1_doPlan 35 = .ok (.goto (-33), 3) := by decide +kernel
theorem dX1_doPlan_38 : decode cX1_doPlan 38 = .ok (.iconst 0, 1) := by decide +kernel
theorem dX1_doPlan_39 : decode cX1_doPlan 39 = .ok (.istore_n 2, 1) := by decide +kernel
theorem dX1_doPlan_40 : decode cX1_doPlan 40 = .ok (.iload_n 2, 1) := by decide +kernel
theorem dX1_doPlan_41 : decode cX1_doPlan 41 = .ok (.aload_n 0, 1) := by decide +kernel
theorem dX1_doPlan_42 : decode cX1_doPlan 42 = .ok (.getfield 45, 3) := by decide +kernel
theorem dX1_doPlan_45 : decode cX1_doPlan 45 = .ok (.if_icmp .ge 26, 3) := by decide +kernel
theorem dX1_doPlan_48 : decode cX1_doPlan 48 = .ok (.aload_n 0, 1) := by decide +kernel
theorem dX1_doPlan_49 : decode cX1_doPlan 49 = .ok (.getfield 9, 3) := by decide +kernel
theorem dX1_doPlan_52 : decode cX1_doPlan 52 = .ok (.aload_n 0, 1) := by decide +kernel
theorem dX1_doPlan_53 : decode cX1_doPlan 53 = .ok (.getfield 18, 3) := by decide +kernel
theorem dX1_doPlan_56 : decode cX1_doPlan 56 = .ok (.iload_n 2, 1) := by decide +kernel
theorem dX1_doPlan_57 : decode cX1_doPlan 57 = .ok (.iaload, 1) := by decide +kernel
theorem dX1_doPlan_58 : decode cX1_doPlan 58 = .ok (.dup2, 1) := by decide +kernel
theorem dX1_doPlan_59 : decode cX1_doPlan 59 = .ok (.iaload, 1) := by decide +kernel
theorem dX1_doPlan_60 : decode cX1_doPlan 60 = .ok (.aload_n 1, 1) := by decide +kernel
theorem dX1_doPlan_61 : decode cX1_doPlan 61 = .ok (.iload_n 2, 1) := by decide +kernel
theorem dX1_doPlan_62 : decode cX1_doPlan 62 = .ok (.iaload, 1) := by decide +kernel
theorem dX1_doPlan_63 : decode cX1_doPlan 63 = .ok (.isub, 1) := by decide +kernel
theorem dX1_doPlan_64 : decode cX1_doPlan 64 = .ok (.iastore, 1) := by decide +kernel
theorem dX1_doPlan_65 : decode cX1_doPlan 65 = .ok (.iinc 2 1, 3) := by decide +kernel
theorem dX1_doPlan_68 : decode cX1_doPlan 68 = .ok (.goto (-28), 3) := by decide +kernel
theorem dX1_doPlan_71 : decode cX1_doPlan 71 = .ok (.return_, 1) := by decide +kernel
theorem dX2_forgetSearch_0 : decode cX2_forgetSearch 0 = .ok (.aload_n 0, 1) := by decide +kernel
theorem dX2_forgetSearch_1 : decode cX2_forgetSearch 1 = .ok (.iconst 0, 1) := by decide +kernel
theorem dX2_forgetSearch_2 : decode cX2_forgetSearch 2 = .ok (.putfield 86, 3) := by decide +kernel
theorem dX2_forgetSearch_5 : decode cX2_forgetSearch 5 = .ok (.aload_n 0, 1) := by decide +kernel
theorem dX2_forgetSearch_6 : decode cX2_forgetSearch 6 = .ok (.getfield 21, 3) := by decide +kernel
theorem dX2_forgetSearch_9 : decode cX2_forgetSearch 9 = .ok (.iconst 0, 1) := by decide +kernel
theorem dX2_forgetSearch_10 : decode cX2_forgetSearch 10 = .ok (.putfield 93, 3) := by decide +kernel
theorem dX2_forgetSearch_13 : decode cX2_forgetSearch 13 = .ok (.return_, 1) := by decide +kernel
theorem dX2_logs_0 : decode cX2_logs 0 = .ok (.iload_n 1, 1) := by decide +kernel
theorem dX2_logs_1 : decode cX2_logs 1 = .ok (.iconst 4, 1) := by decide +kernel
theorem dX2_logs_2 : decode cX2_logs 2 = .ok (.invokestatic 28, 3) := by decide +kernel
theorem dX2_logs_5 : decode cX2_logs 5 = .ok (.iload_n 2, 1) := by decide +kernel
theorem dX2_logs_6 : decode cX2_logs 6 = .ok (.iconst 0, 1) := by decide +kernel
theorem dX2_logs_7 : decode cX2_logs 7 = .ok (.sipush 1000, 3) := by decide +kernel
theorem dX2_logs_10 : decode cX2_logs 10 = .ok (.invokestatic 32, 3) := by decide +kernel
theorem dX2_logs_13 : decode cX2_logs 13 = .ok (.iload_n 3, 1) := by decide +kernel
theorem dX2_logs_14 : decode cX2_logs 14 = .ok (.iconst 0, 1) := by decide +kernel
theorem dX2_logs_15 : decode cX2_logs 15 = .ok (.ldc 36, 2) := by decide +kernel
theorem dX2_logs_17 : decode cX2_logs 17 = .ok (.invokestatic 32, 3) := by decide +kernel
theorem dX2_logs_20 : decode cX2_logs 20 = .ok (.aload_n 0, 1) := by decide +kernel
theorem dX2_logs_21 : decode cX2_logs 21 = .ok (.getfield 10, 3) := by decide +kernel
theorem dX2_logs_24 : decode cX2_logs 24 = .ok (.getfield 37, 3) := by decide +kernel
theorem dX2_logs_27 : decode cX2_logs 27 = .ok (.iload_n 1, 1) := by decide +kernel
theorem dX2_logs_28 : decode cX2_logs 28 = .ok (.iload_n 2, 1) := by decide +kernel
theorem dX2_logs_29 : decode cX2_logs 29 = .ok (.iastore, 1) := by decide +kernel
theorem dX2_logs_30 : decode cX2_logs 30 = .ok (.aload_n 0, 1) := by decide +kernel
theorem dX2_logs_31 : decode cX2_logs 31 = .ok (.getfield 10, 3) := by decide +kernel
theorem dX2_logs_34 : decode cX2_logs 34 = .ok (.getfield 41, 3) := by decide +kernel
theorem dX2_logs_37 : decode cX2_logs 37 = .ok (.iload_n 1, 1) := by decide +kernel
theorem dX2_logs_38 : decode cX2_logs 38 = .ok (.iload_n 3, 1) := by decide +kernel
theorem dX2_logs_39 : decode cX2_logs 39 = .ok (.iastore, 1) := by decide +kernel
theorem dX2_logs_40 : decode cX2_logs 40 = .ok (.aload_n 0, 1) := by decide +kernel
theorem dX2_logs_41 : decode cX2_logs 41 = .ok (.invokevirtual 44, 3) := by decide +kernel
theorem dX2_logs_44 : decode cX2_logs 44 = .ok (.return_, 1) := by decide +kernel
theorem dX2_order_0 : decode cX2_order 0 = .ok (.iload_n 1, 1) := by decide +kernel
theorem dX2_order_1 : decode cX2_order 1 = .ok (.iconst 4, 1) := by decide +kernel
theorem dX2_order_2 : decode cX2_order 2 = .ok (.invokestatic 28, 3) := by decide +kernel
theorem dX2_order_5 : decode cX2_order 5 = .ok (.iload_n 2, 1) := by decide +kernel
theorem dX2_order_6 : decode cX2_order 6 = .ok (.iconst 0, 1) := by decide +kernel
theorem dX2_order_7 : decode cX2_order 7 = .ok (.sipush 1000, 3) := by decide +kernel
theorem dX2_order_10 : decode cX2_order 10 = .ok (.invokestatic 32, 3) := by decide +kernel
theorem dX2_order_13 : decode cX2_order 13 = .ok (.iload_n 3, 1) := by decide +kernel
theorem dX2_order_14 : decode cX2_order 14 = .ok (.iload_n 2, 1) := by decide +kernel
theorem dX2_order_15 : decode cX2_order 15 = .ok (.sipush 1000, 3) := by decide +kernel
theorem dX2_order_18 : decode cX2_order 18 = .ok (.invokestatic 32, 3) := by decide +kernel
theorem dX2_order_21 : decode cX2_order 21 = .ok (.iload 4, 2) := by decide +kernel
theorem dX2_order_23 : decode cX2_order 23 = .ok (.iconst 0, 1) := by decide +kernel
theorem dX2_order_24 : decode cX2_order 24 = .ok (.sipush 1000, 3) := by decide +kernel
theorem dX2_order_27 : decode cX2_order 27 = .ok (.invokestatic 32, 3) := by decide +kernel
theorem dX2_order_30 : decode cX2_order 30 = .ok (.aload_n 0, 1) := by decide +kernel
theorem dX2_order_31 : decode cX2_order 31 = .ok (.getfield 10, 3) := by decide +kernel
theorem dX2_order_34 : decode cX2_order 34 = .ok (.getfield 68, 3) := by decide +kernel
theorem dX2_order_37 : decode cX2_order 37 = .ok (.iload_n 1, 1) := by decide +kernel
theorem dX2_order_38 : decode cX2_order 38 = .ok (.iload_n 2, 1) := by decide +kernel
theorem dX2_order_39 : decode cX2_order 39 = .ok (.iastore, 1) := by decide +kernel
theorem dX2_order_40 : decode cX2_order 40 = .ok (.aload_n 0, 1) := by decide +kernel
theorem dX2_order_41 : decode cX2_order 41 = .ok (.getfield 10, 3) := by decide +kernel
theorem dX2_order_44 : decode cX2_order 44 = .ok (.getfield 71, 3) := by decide +kernel
theorem dX2_order_47 : decode cX2_order 47 = .ok (.iload_n 1, 1) := by decide +kernel
theorem dX2_order_48 : decode cX2_order 48 = .ok (.iload_n 3, 1) := by decide +kernel
theorem dX2_order_49 : decode cX2_order 49 = .ok (.iastore, 1) := by decide +kernel
theorem dX2_order_50 : decode cX2_order 50 = .ok (.aload_n 0, 1) := by decide +kernel
theorem dX2_order_51 : decode cX2_order 51 = .ok (.getfield 10, 3) := by decide +kernel
theorem dX2_order_54 : decode cX2_order 54 = .ok (.getfield 74, 3) := by decide +kernel
theorem dX2_order_57 : decode cX2_order 57 = .ok (.iload_n 1, 1) := by decide +kernel
theorem dX2_order_58 : decode cX2_order 58 = .ok (.iload 4, 2) := by decide +kernel
theorem dX2_order_60 : decode cX2_order 60 = .ok (.iastore, 1) := by decide +kernel
theorem dX2_order_61 : decode cX2_order 61 = .ok (.aload_n 0, 1) := by decide +kernel
theorem dX2_order_62 : decode cX2_order 62 = .ok (.invokevirtual 44, 3) := by decide +kernel
theorem dX2_order_65 : decode cX2_order 65 = .ok (.return_, 1) := by decide +kernel
theorem dX2_hours_0 : decode cX2_hours 0 = .ok (.iload_n 1, 1) := by decide +kernel
theorem dX2_hours_1 : decode cX2_hours 1 = .ok (.iconst 0, 1) := by decide +kernel
theorem dX2_hours_2 : decode cX2_hours 2 = .ok (.sipush 1440, 3) := by decide +kernel
theorem dX2_hours_5 : decode cX2_hours 5 = .ok (.invokestatic 32, 3) := by decide +kernel
theorem dX2_hours_8 : decode cX2_hours 8 = .ok (.iload_n 2, 1) := by decide +kernel
theorem dX2_hours_9 : decode cX2_hours 9 = .ok (.iconst 0, 1) := by decide +kernel
theorem dX2_hours_10 : decode cX2_hours 10 = .ok (.sipush 1440, 3) := by decide +kernel
theorem dX2_hours_13 : decode cX2_hours 13 = .ok (.invokestatic 32, 3) := by decide +kernel
theorem dX2_hours_16 : decode cX2_hours 16 = .ok (.aload_n 0, 1) := by decide +kernel
theorem dX2_hours_17 : decode cX2_hours 17 = .ok (.getfield 10, 3) := by decide +kernel
theorem dX2_hours_20 : decode cX2_hours 20 = .ok (.iload_n 1, 1) := by decide +kernel
theorem dX2_hours_21 : decode cX2_hours 21 = .ok (.putfield 77, 3) := by decide +kernel
theorem dX2_hours_24 : decode cX2_hours 24 = .ok (.aload_n 0, 1) := by decide +kernel
theorem dX2_hours_25 : decode cX2_hours 25 = .ok (.getfield 10, 3) := by decide +kernel
theorem dX2_hours_28 : decode cX2_hours 28 = .ok (.iload_n 2, 1) := by decide +kernel
theorem dX2_hours_29 : decode cX2_hours 29 = .ok (.putfield 80, 3) := by decide +kernel
theorem dX2_hours_32 : decode cX2_hours 32 = .ok (.aload_n 0, 1) := by decide +kernel
theorem dX2_hours_33 : decode cX2_hours 33 = .ok (.invokevirtual 44, 3) := by decide +kernel
theorem dX2_hours_36 : decode cX2_hours 36 = .ok (.return_, 1) := by decide +kernel
theorem dX2_gives_0 : decode cX2_gives 0 = .ok (.iload_n 1, 1) := by decide +kernel
theorem dX2_gives_1 : decode cX2_gives 1 = .ok (.aload_n 0, 1) := by decide +kernel
theorem dX2_gives_2 : decode cX2_gives 2 = .ok (.getfield 10, 3) := by decide +kernel
theorem dX2_gives_5 : decode cX2_gives 5 = .ok (.getfield 47, 3) := by decide +kernel
theorem dX2_gives_8 : decode cX2_gives 8 = .ok (.invokestatic 28, 3) := by decide +kernel
theorem dX2_gives_11 : decode cX2_gives 11 = .ok (.iload_n 2, 1) := by decide +kernel
theorem dX2_gives_12 : decode cX2_gives 12 = .ok (.iconst 4, 1) := by decide +kernel
theorem dX2_gives_13 : decode cX2_gives 13 = .ok (.invokestatic 28, 3) := by decide +kernel
theorem dX2_gives_16 : decode cX2_gives 16 = .ok (.iload_n 3, 1) := by decide +kernel
theorem dX2_gives_17 : decode cX2_gives 17 = .ok (.iconst 0, 1) := by decide +kernel
theorem dX2_gives_18 : decode cX2_gives 18 = .ok (.bipush 9, 2) := by decide +kernel
theorem dX2_gives_20 : decode cX2_gives 20 = .ok (.invokestatic 32, 3) := by decide +kernel
theorem dX2_gives_23 : decode cX2_gives 23 = .ok (.aload_n 0, 1) := by decide +kernel
theorem dX2_gives_24 : decode cX2_gives 24 = .ok (.getfield 10, 3) := by decide +kernel
theorem dX2_gives_27 : decode cX2_gives 27 = .ok (.getfield 64, 3) := by decide +kernel
theorem dX2_gives_30 : decode cX2_gives 30 = .ok (.iload_n 1, 1) := by decide +kernel
theorem dX2_gives_31 : decode cX2_gives 31 = .ok (.aaload, 1) := by decide +kernel
theorem dX2_gives_32 : decode cX2_gives 32 = .ok (.iload_n 2, 1) := by decide +kernel
theorem dX2_gives_33 : decode cX2_gives 33 = .ok (.iload_n 3, 1) := by decide +kernel
theorem dX2_gives_34 : decode cX2_gives 34 = .ok (.iastore, 1) := by decide +kernel
theorem dX2_gives_35 : decode cX2_gives 35 = .ok (.aload_n 0, 1) := by decide +kernel
theorem dX2_gives_36 : decode cX2_gives 36 = .ok (.invokevirtual 44, 3) := by decide +kernel
theorem dX2_gives_39 : decode cX2_gives 39 = .ok (.return_, 1) := by decide +kernel
theorem dX2_pattern_0 : decode cX2_pattern 0 = .ok (.iload_n 1, 1) := by decide +kernel
theorem dX2_pattern_1 : decode cX2_pattern 1 = .ok (.iconst 4, 1) := by decide +kernel
theorem dX2_pattern_2 : decode cX2_pattern 2 = .ok (.invokestatic 28, 3) := by decide +kernel
theorem dX2_pattern_5 : decode cX2_pattern 5 = .ok (.iload_n 2, 1) := by decide +kernel
theorem dX2_pattern_6 : decode cX2_pattern 6 = .ok (.iconst 1, 1) := by decide +kernel
theorem dX2_pattern_7 : decode cX2_pattern 7 = .ok (.sipush 480, 3) := by decide +kernel
theorem dX2_pattern_10 : decode cX2_pattern 10 = .ok (.invokestatic 32, 3) := by decide +kernel
theorem dX2_pattern_13 : decode cX2_pattern 13 = .ok (.aload_n 0, 1) := by decide +kernel
theorem dX2_pattern_14 : decode cX2_pattern 14 = .ok (.getfield 10, 3) := by decide +kernel
theorem dX2_pattern_17 : decode cX2_pattern 17 = .ok (.getfield 47, 3) := by decide +kernel
theorem dX2_pattern_20 : decode cX2_pattern 20 = .ok (.istore_n 3, 1) := by decide +kernel
theorem dX2_pattern_21 : decode cX2_pattern 21 = .ok (.iload_n 3, 1) := by decide +kernel
theorem dX2_pattern_22 : decode cX2_pattern 22 = .ok (.bipush 6, 2) := by decide +kernel
theorem dX2_pattern_24 : decode cX2_pattern 24 = .ok (.if_icmp .lt 13, 3) := by decide +kernel
theorem dX2_pattern_27 : decode cX2_pattern 27 = .ok (.new 51, 3) := by decide +kernel
theorem dX2_pattern_30 : decode cX2_pattern 30 = .ok (.dup, 1) := by decide +kernel
theorem dX2_pattern_31 : decode cX2_pattern 31 = .ok (.ldc 53, 2) := by decide +kernel
theorem dX2_pattern_33 : decode cX2_pattern 33 = .ok (.invokespecial 55, 3) := by decide +kernel
theorem dX2_pattern_36 : decode cX2_pattern 36 = .ok (.athrow, 1) := by decide +kernel
theorem dX2_pattern_37 : decode cX2_pattern 37 = .ok (.aload_n 0, 1) := by decide +kernel
theorem dX2_pattern_38 : decode cX2_pattern 38 = .ok (.getfield 10, 3) := by decide +kernel
theorem dX2_pattern_41 : decode cX2_pattern 41 = .ok (.getfield 58, 3) := by decide +kernel
theorem dX2_pattern_44 : decode cX2_pattern 44 = .ok (.iload_n 3, 1) := by decide +kernel
theorem dX2_pattern_45 : decode cX2_pattern 45 = .ok (.iload_n 1, 1) := by decide +kernel
theorem dX2_pattern_46 : decode cX2_pattern 46 = .ok (.iastore, 1) := by decide +kernel
theorem dX2_pattern_47 : decode cX2_pattern 47 = .ok (.aload_n 0, 1) := by decide +kernel
theorem dX2_pattern_48 : decode cX2_pattern 48 = .ok (.getfield 10, 3) := by decide +kernel
theorem dX2_pattern_51 : decode cX2_pattern 51 = .ok (.getfield 61, 3) := by decide +kernel
theorem dX2_pattern_54 : decode cX2_pattern 54 = .ok (.iload_n 3, 1) := by decide +kernel
theorem dX2_pattern_55 : decode cX2_pattern 55 = .ok (.iload_n 2, 1) := by decide +kernel
theorem dX2_pattern_56 : decode cX2_pattern 56 = .ok (.iastore, 1) := by decide +kernel
theorem dX2_pattern_57 : decode cX2_pattern 57 = .ok (.aload_n 0, 1) := by decide +kernel
theorem dX2_pattern_58 : decode cX2_pattern 58 = .ok (.getfield 10, 3) := by decide +kernel
theorem dX2_pattern_61 : decode cX2_pattern 61 = .ok (.iload_n 3, 1) := by decide +kernel
theorem dX2_pattern_62 : decode cX2_pattern 62 = .ok (.iconst 1, 1) := by decide +kernel
theorem dX2_pattern_63 : decode cX2_pattern 63 = .ok (.iadd, 1) := by decide +kernel
theorem dX2_pattern_64 : decode cX2_pattern 64 = .ok (.putfield 47, 3) := by decide +kernel
theorem dX2_pattern_67 : decode cX2_pattern 67 = .ok (.aload_n 0, 1) := by decide +kernel
theorem dX2_pattern_68 : decode cX2_pattern 68 = .ok (.invokevirtual 44, 3) := by decide +kernel
theorem dX2_pattern_71 : decode cX2_pattern 71 = .ok (.iload_n 3, 1) := by decide +kernel
theorem dX2_pattern_72 : decode cX2_pattern 72 = .ok (.ireturn, 1) := by decide +kernel
theorem dX2_run_0 : decode cX2_run 0 = .ok (.iload_n 1, 1) := by decide +kernel
theorem dX2_run_1 : decode cX2_run 1 = .ok (.iconst 0, 1) := by decide +kernel
theorem dX2_run_2 : decode cX2_run 2 = .ok (.sipush 20000, 3) := by decide +kernel
theorem dX2_run_5 : decode cX2_run 5 = .ok (.invokestatic 32, 3) := by decide +kernel
theorem dX2_run_8 : decode cX2_run 8 = .ok (.aload_n 0, 1) := by decide +kernel
theorem dX2_run_9 : decode cX2_run 9 = .ok (.getfield 21, 3) := by decide +kernel
theorem dX2_run_12 : decode cX2_run 12 = .ok (.iload_n 1, 1) := by decide +kernel
theorem dX2_run_13 : decode cX2_run 13 = .ok (.iconst (-1), 1) := by decide +kernel
theorem dX2_run_14 : decode cX2_run 14 = .ok (.invokevirtual 83, 3) := by decide +kernel
theorem dX2_run_17 : decode cX2_run 17 = .ok (.aload_n 0, 1) := by decide +kernel
theorem dX2_run_18 : decode cX2_run 18 = .ok (.iconst 1, 1) := by decide +kernel
theorem dX2_run_19 : decode cX2_run 19 = .ok (.putfield 86, 3) := by decide +kernel
theorem dX2_run_22 : decode cX2_run 22 = .ok (.aload_n 0, 1) := by decide +kernel
theorem dX2_run_23 : decode cX2_run 23 = .ok (.getfield 21, 3) := by decide +kernel
theorem dX2_run_26 : decode cX2_run 26 = .ok (.getfield 90, 3) := by decide +kernel
theorem dX2_run_29 : decode cX2_run 29 = .ok (.ifCond .eq 5, 3) := by decide +kernel
theorem dX2_run_32 : decode cX2_run 32 = .ok (.iconst 2, 1) := by decide +kernel
theorem dX2_run_33 : decode cX2_run 33 = .ok (.ireturn, 1) := by decide +kernel
theorem dX2_run_34 : decode cX2_run 34 = .ok (.aload_n 0, 1) := by decide +kernel
theorem dX2_run_35 : decode cX2_run 35 = .ok (.getfield 21, 3) := by decide +kernel
theorem dX2_run_38 : decode cX2_run 38 = .ok (.getfield 93, 3) := by decide +kernel
theorem dX2_run_41 : decode cX2_run 41 = .ok (.ifCond .eq 7, 3) := by decide +kernel
theorem dX2_run_44 : decode cX2_run 44 = .ok (.iconst 0, 1) := by decide +kernel
theorem dX2_run_45 : decode cX2_run 45 = .ok (.goto 4, 3) := by decide +kernel
theorem dX2_run_48 : decode cX2_run 48 = .ok (.iconst 1, 1) := by decide +kernel
theorem dX2_run_49 : decode cX2_run 49 = .ok (.ireturn, 1) := by decide +kernel
theorem dX2_search_0 : decode cX2_search 0 = .ok (.iload_n 1, 1) := by decide +kernel
theorem dX2_search_1 : decode cX2_search 1 = .ok (.iconst 4, 1) := by decide +kernel
theorem dX2_search_2 : decode cX2_search 2 = .ok (.invokestatic 28, 3) := by decide +kernel
theorem dX2_search_5 : decode cX2_search 5 = .ok (.aload_n 0, 1) := by decide +kernel
theorem dX2_search_6 : decode cX2_search 6 = .ok (.getfield 86, 3) := by decide +kernel
theorem dX2_search_9 : decode cX2_search 9 = .ok (.ifCond .ne 13, 3) := by decide +kernel
theorem dX2_search_12 : decode cX2_search 12 = .ok (.new 51, 3) := by decide +kernel
theorem dX2_search_15 : decode cX2_search 15 = .ok (.dup, 1) := by decide +kernel
theorem dX2_search_16 : decode cX2_search 16 = .ok (.ldc 96, 2) := by decide +kernel
theorem dX2_search_18 : decode cX2_search 18 = .ok (.invokespecial 55, 3) := by decide +kernel
theorem dX2_search_21 : decode cX2_search 21 = .ok (.athrow, 1) := by decide +kernel
theorem dX2_search_22 : decode cX2_search 22 = .ok (.iload_n 1, 1) := by decide +kernel
theorem dX2_search_23 : decode cX2_search 23 = .ok (.tableswitch 65 0 2 #[25, 33, 49], 25) := by decide +kernel
theorem dX2_search_48 : decode cX2_search 48 = .ok (.aload_n 0, 1) := by decide +kernel
theorem dX2_search_49 : decode cX2_search 49 = .ok (.getfield 21, 3) := by decide +kernel
theorem dX2_search_52 : decode cX2_search 52 = .ok (.getfield 98, 3) := by decide +kernel
theorem dX2_search_55 : decode cX2_search 55 = .ok (.ireturn, 1) := by decide +kernel
theorem dX2_search_56 : decode cX2_search 56 = .ok (.aload_n 0, 1) := by decide +kernel
theorem dX2_search_57 : decode cX2_search 57 = .ok (.getfield 21, 3) := by decide +kernel
theorem dX2_search_60 : decode cX2_search 60 = .ok (.getfield 90, 3) := by decide +kernel
theorem dX2_search_63 : decode cX2_search 63 = .ok (.ifCond .eq 7, 3) := by decide +kernel
theorem dX2_search_66 : decode cX2_search 66 = .ok (.iconst 0, 1) := by decide +kernel
theorem dX2_search_67 : decode cX2_search 67 = .ok (.goto 4, 3) := by decide +kernel
theorem dX2_search_70 : decode cX2_search 70 = .ok (.iconst 1, 1) := by decide +kernel
theorem dX2_search_71 : decode cX2_search 71 = .ok (.ireturn, 1) := by decide +kernel
theorem dX2_search_72 : decode cX2_search 72 = .ok (.aload_n 0, 1) := by decide +kernel
theorem dX2_search_73 : decode cX2_search 73 = .ok (.getfield 21, 3) := by decide +kernel
theorem dX2_search_76 : decode cX2_search 76 = .ok (.getfield 93, 3) := by decide +kernel
theorem dX2_search_79 : decode cX2_search 79 = .ok (.ifCond .eq 7, 3) := by decide +kernel
theorem dX2_search_82 : decode cX2_search 82 = .ok (.iconst 1, 1) := by decide +kernel
theorem dX2_search_83 : decode cX2_search 83 = .ok (.goto 4, 3) := by decide +kernel
theorem dX2_search_86 : decode cX2_search 86 = .ok (.iconst 0, 1) := by decide +kernel
theorem dX2_search_87 : decode cX2_search 87 = .ok (.ireturn, 1) := by decide +kernel
theorem dX2_search_88 : decode cX2_search 88 = .ok (.aload_n 0, 1) := by decide +kernel
theorem dX2_search_89 : decode cX2_search 89 = .ok (.getfield 10, 3) := by decide +kernel
theorem dX2_search_92 : decode cX2_search 92 = .ok (.invokevirtual 101, 3) := by decide +kernel
theorem dX2_search_95 : decode cX2_search 95 = .ok (.ireturn, 1) := by decide +kernel
theorem dX2_used_0 : decode cX2_used 0 = .ok (.iload_n 1, 1) := by decide +kernel
theorem dX2_used_1 : decode cX2_used 1 = .ok (.aload_n 0, 1) := by decide +kernel
theorem dX2_used_2 : decode cX2_used 2 = .ok (.getfield 10, 3) := by decide +kernel
theorem dX2_used_5 : decode cX2_used 5 = .ok (.getfield 47, 3) := by decide +kernel
theorem dX2_used_8 : decode cX2_used 8 = .ok (.invokestatic 28, 3) := by decide +kernel
theorem dX2_used_11 : decode cX2_used 11 = .ok (.aload_n 0, 1) := by decide +kernel
theorem dX2_used_12 : decode cX2_used 12 = .ok (.getfield 21, 3) := by decide +kernel
theorem dX2_used_15 : decode cX2_used 15 = .ok (.invokestatic 105, 3) := by decide +kernel
theorem dX2_used_18 : decode cX2_used 18 = .ok (.aload_n 0, 1) := by decide +kernel
theorem dX2_used_19 : decode cX2_used 19 = .ok (.getfield 21, 3) := by decide +kernel
theorem dX2_used_22 : decode cX2_used 22 = .ok (.getfield 109, 3) := by decide +kernel
theorem dX2_used_25 : decode cX2_used 25 = .ok (.iload_n 1, 1) := by decide +kernel
theorem dX2_used_26 : decode cX2_used 26 = .ok (.iaload, 1) := by decide +kernel
theorem dX2_used_27 : decode cX2_used 27 = .ok (.ireturn, 1) := by decide +kernel
theorem dX2_best_0 : decode cX2_best 0 = .ok (.iload_n 1, 1) := by decide +kernel
theorem dX2_best_1 : decode cX2_best 1 = .ok (.iconst 3, 1) := by decide +kernel
theorem dX2_best_2 : decode cX2_best 2 = .ok (.invokestatic 28, 3) := by decide +kernel
theorem dX2_best_5 : decode cX2_best 5 = .ok (.aload_n 0, 1) := by decide +kernel
theorem dX2_best_6 : decode cX2_best 6 = .ok (.getfield 21, 3) := by decide +kernel
theorem dX2_best_9 : decode cX2_best 9 = .ok (.invokestatic 105, 3) := by decide +kernel
theorem dX2_best_12 : decode cX2_best 12 = .ok (.iload_n 1, 1) := by decide +kernel
theorem dX2_best_13 : decode cX2_best 13 = .ok (.lookupswitch 50 #[(0, 27), (1, 35)], 27) := by decide +kernel
theorem dX2_best_40 : decode cX2_best 40 = .ok (.aload_n 0, 1) := by decide +kernel
theorem dX2_best_41 : decode cX2_best 41 = .ok (.getfield 21, 3) := by decide +kernel
theorem dX2_best_44 : decode cX2_best 44 = .ok (.getfield 112, 3) := by decide +kernel
theorem dX2_best_47 : decode cX2_best 47 = .ok (.ireturn, 1) := by decide +kernel
theorem dX2_best_48 : decode cX2_best 48 = .ok (.aload_n 0, 1) := by decide +kernel
theorem dX2_best_49 : decode cX2_best 49 = .ok (.getfield 10, 3) := by decide +kernel
theorem dX2_best_52 : decode cX2_best 52 = .ok (.aload_n 0, 1) := by decide +kernel
theorem dX2_best_53 : decode cX2_best 53 = .ok (.getfield 21, 3) := by decide +kernel
theorem dX2_best_56 : decode cX2_best 56 = .ok (.getfield 109, 3) := by decide +kernel
theorem dX2_best_59 : decode cX2_best 59 = .ok (.invokevirtual 115, 3) := by decide +kernel
theorem dX2_best_62 : decode cX2_best 62 = .ok (.ireturn, 1) := by decide +kernel
theorem dX2_best_63 : decode cX2_best 63 = .ok (.aload_n 0, 1) := by decide +kernel
theorem dX2_best_64 : decode cX2_best 64 = .ok (.getfield 10, 3) := by decide +kernel
theorem dX2_best_67 : decode cX2_best 67 = .ok (.aload_n 0, 1) := by decide +kernel
theorem dX2_best_68 : decode cX2_best 68 = .ok (.getfield 21, 3) := by decide +kernel
theorem dX2_best_71 : decode cX2_best 71 = .ok (.getfield 109, 3) := by decide +kernel
theorem dX2_best_74 : decode cX2_best 74 = .ok (.invokevirtual 119, 3) := by decide +kernel
theorem dX2_best_77 : decode cX2_best 77 = .ok (.ireturn, 1) := by decide +kernel
theorem dX2_made_0 : decode cX2_made 0 = .ok (.iload_n 1, 1) := by decide +kernel
theorem dX2_made_1 : decode cX2_made 1 = .ok (.iconst 4, 1) := by decide +kernel
theorem dX2_made_2 : decode cX2_made 2 = .ok (.invokestatic 28, 3) := by decide +kernel
theorem dX2_made_5 : decode cX2_made 5 = .ok (.aload_n 0, 1) := by decide +kernel
theorem dX2_made_6 : decode cX2_made 6 = .ok (.getfield 21, 3) := by decide +kernel
theorem dX2_made_9 : decode cX2_made 9 = .ok (.invokestatic 105, 3) := by decide +kernel
theorem dX2_made_12 : decode cX2_made 12 = .ok (.aload_n 0, 1) := by decide +kernel
theorem dX2_made_13 : decode cX2_made 13 = .ok (.getfield 10, 3) := by decide +kernel
theorem dX2_made_16 : decode cX2_made 16 = .ok (.aload_n 0, 1) := by decide +kernel
theorem dX2_made_17 : decode cX2_made 17 = .ok (.getfield 21, 3) := by decide +kernel
theorem dX2_made_20 : decode cX2_made 20 = .ok (.getfield 109, 3) := by decide +kernel
theorem dX2_made_23 : decode cX2_made 23 = .ok (.iload_n 1, 1) := by decide +kernel
theorem dX2_made_24 : decode cX2_made 24 = .ok (.invokevirtual 122, 3) := by decide +kernel
theorem dX2_made_27 : decode cX2_made 27 = .ok (.ireturn, 1) := by decide +kernel
theorem dX2_saw_0 : decode cX2_saw 0 = .ok (.aload_n 0, 1) := by decide +kernel
theorem dX2_saw_1 : decode cX2_saw 1 = .ok (.getfield 21, 3) := by decide +kernel
theorem dX2_saw_4 : decode cX2_saw 4 = .ok (.invokestatic 105, 3) := by decide +kernel
theorem dX2_saw_7 : decode cX2_saw 7 = .ok (.aload_n 0, 1) := by decide +kernel
theorem dX2_saw_8 : decode cX2_saw 8 = .ok (.getfield 21, 3) := by decide +kernel
theorem dX2_saw_11 : decode cX2_saw 11 = .ok (.getfield 112, 3) := by decide +kernel
theorem dX2_saw_14 : decode cX2_saw 14 = .ok (.istore_n 1, 1) := by decide +kernel
theorem dX2_saw_15 : decode cX2_saw 15 = .ok (.aload_n 0, 1) := by decide +kernel
theorem dX2_saw_16 : decode cX2_saw 16 = .ok (.getfield 10, 3) := by decide +kernel
theorem dX2_saw_19 : decode cX2_saw 19 = .ok (.aload_n 0, 1) := by decide +kernel
theorem dX2_saw_20 : decode cX2_saw 20 = .ok (.getfield 21, 3) := by decide +kernel
theorem dX2_saw_23 : decode cX2_saw 23 = .ok (.getfield 109, 3) := by decide +kernel
theorem dX2_saw_26 : decode cX2_saw 26 = .ok (.invokevirtual 126, 3) := by decide +kernel
theorem dX2_saw_29 : decode cX2_saw 29 = .ok (.aload_n 0, 1) := by decide +kernel
theorem dX2_saw_30 : decode cX2_saw 30 = .ok (.dup, 1) := by decide +kernel
theorem dX2_saw_31 : decode cX2_saw 31 = .ok (.getfield 130, 3) := by decide +kernel
theorem dX2_saw_34 : decode cX2_saw 34 = .ok (.iload_n 1, 1) := by decide +kernel
theorem dX2_saw_35 : decode cX2_saw 35 = .ok (.iadd, 1) := by decide +kernel
theorem dX2_saw_36 : decode cX2_saw 36 = .ok (.putfield 130, 3) := by decide +kernel
theorem dX2_saw_39 : decode cX2_saw 39 = .ok (.aload_n 0, 1) := by decide +kernel
theorem dX2_saw_40 : decode cX2_saw 40 = .ok (.dup, 1) := by decide +kernel
theorem dX2_saw_41 : decode cX2_saw 41 = .ok (.getfield 133, 3) := by decide +kernel
theorem dX2_saw_44 : decode cX2_saw 44 = .ok (.iconst 1, 1) := by decide +kernel
theorem dX2_saw_45 : decode cX2_saw 45 = .ok (.iadd, 1) := by decide +kernel
theorem dX2_saw_46 : decode cX2_saw 46 = .ok (.putfield 133, 3) := by decide +kernel
theorem dX2_saw_49 : decode cX2_saw 49 = .ok (.aload_n 0, 1) := by decide +kernel
theorem dX2_saw_50 : decode cX2_saw 50 = .ok (.getfield 21, 3) := by decide +kernel
theorem dX2_saw_53 : decode cX2_saw 53 = .ok (.iconst 0, 1) := by decide +kernel
theorem dX2_saw_54 : decode cX2_saw 54 = .ok (.putfield 93, 3) := by decide +kernel
theorem dX2_saw_57 : decode cX2_saw 57 = .ok (.iload_n 1, 1) := by decide +kernel
theorem dX2_saw_58 : decode cX2_saw 58 = .ok (.ireturn, 1) := by decide +kernel
theorem dX2_mill_0 : decode cX2_mill 0 = .ok (.iload_n 1, 1) := by decide +kernel
theorem dX2_mill_1 : decode cX2_mill 1 = .ok (.bipush 6, 2) := by decide +kernel
theorem dX2_mill_3 : decode cX2_mill 3 = .ok (.invokestatic 28, 3) := by decide +kernel
theorem dX2_mill_6 : decode cX2_mill 6 = .ok (.iload_n 1, 1) := by decide +kernel
theorem dX2_mill_7 : decode cX2_mill 7 = .ok (.lookupswitch 35 #[(0, 25), (1, 30)], 25) := by decide +kernel
theorem dX2_mill_32 : decode cX2_mill 32 = .ok (.aload_n 0, 1) := by decide +kernel
theorem dX2_mill_33 : decode cX2_mill 33 = .ok (.getfield 133, 3) := by decide +kernel
theorem dX2_mill_36 : decode cX2_mill 36 = .ok (.ireturn, 1) := by decide +kernel
theorem dX2_mill_37 : decode cX2_mill 37 = .ok (.aload_n 0, 1) := by decide +kernel
theorem dX2_mill_38 : decode cX2_mill 38 = .ok (.getfield 130, 3) := by decide +kernel
theorem dX2_mill_41 : decode cX2_mill 41 = .ok (.ireturn, 1) := by decide +kernel
theorem dX2_mill_42 : decode cX2_mill 42 = .ok (.aload_n 0, 1) := by decide +kernel
theorem dX2_mill_43 : decode cX2_mill 43 = .ok (.getfield 10, 3) := by decide +kernel
theorem dX2_mill_46 : decode cX2_mill 46 = .ok (.getfield 136, 3) := by decide +kernel
theorem dX2_mill_49 : decode cX2_mill 49 = .ok (.iload_n 1, 1) := by decide +kernel
theorem dX2_mill_50 : decode cX2_mill 50 = .ok (.iconst 2, 1) := by decide +kernel
theorem dX2_mill_51 : decode cX2_mill 51 = .ok (.isub, 1) := by decide +kernel
theorem dX2_mill_52 : decode cX2_mill 52 = .ok (.iaload, 1) := by decide +kernel
theorem dX2_mill_53 : decode cX2_mill 53 = .ok (.ireturn, 1) := by decide +kernel
theorem dX2_gainOfTrial_0 : decode cX2_gainOfTrial 0 = .ok (.aload_n 0, 1) := by decide +kernel
theorem dX2_gainOfTrial_1 : decode cX2_gainOfTrial 1 = .ok (.getfield 25, 3) := by decide +kernel
theorem dX2_gainOfTrial_4 : decode cX2_gainOfTrial 4 = .ok (.iload_n 1, 1) := by decide +kernel
theorem dX2_gainOfTrial_5 : decode cX2_gainOfTrial 5 = .ok (.iload_n 2, 1) := by decide +kernel
theorem dX2_gainOfTrial_6 : decode cX2_gainOfTrial 6 = .ok (.invokevirtual 83, 3) := by decide +kernel
theorem dX2_gainOfTrial_9 : decode cX2_gainOfTrial 9 = .ok (.aload_n 0, 1) := by decide +kernel
theorem dX2_gainOfTrial_10 : decode cX2_gainOfTrial 10 = .ok (.getfield 25, 3) := by decide +kernel
theorem dX2_gainOfTrial_13 : decode cX2_gainOfTrial 13 = .ok (.invokestatic 105, 3) := by decide +kernel
theorem dX2_gainOfTrial_16 : decode cX2_gainOfTrial 16 = .ok (.aload_n 0, 1) := by decide +kernel
theorem dX2_gainOfTrial_17 : decode cX2_gainOfTrial 17 = .ok (.getfield 25, 3) := by decide +kernel
theorem dX2_gainOfTrial_20 : decode cX2_gainOfTrial 20 = .ok (.getfield 112, 3) := by decide +kernel
theorem dX2_gainOfTrial_23 : decode cX2_gainOfTrial 23 = .ok (.ireturn, 1) := by decide +kernel
theorem dX2_cost_0 : decode cX2_cost 0 = .ok (.iload_n 1, 1) := by decide +kernel
theorem dX2_cost_1 : decode cX2_cost 1 = .ok (.iconst 4, 1) := by decide +kernel
theorem dX2_cost_2 : decode cX2_cost 2 = .ok (.invokestatic 28, 3) := by decide +kernel
theorem dX2_cost_5 : decode cX2_cost 5 = .ok (.iload_n 2, 1) := by decide +kernel
theorem dX2_cost_6 : decode cX2_cost 6 = .ok (.iconst 0, 1) := by decide +kernel
theorem dX2_cost_7 : decode cX2_cost 7 = .ok (.sipush 20000, 3) := by decide +kernel
theorem dX2_cost_10 : decode cX2_cost 10 = .ok (.invokestatic 32, 3) := by decide +kernel
theorem dX2_cost_13 : decode cX2_cost 13 = .ok (.aload_n 0, 1) := by decide +kernel
theorem dX2_cost_14 : decode cX2_cost 14 = .ok (.iload_n 2, 1) := by decide +kernel
theorem dX2_cost_15 : decode cX2_cost 15 = .ok (.iconst (-1), 1) := by decide +kernel
theorem dX2_cost_16 : decode cX2_cost 16 = .ok (.invokevirtual 139, 3) := by decide +kernel
theorem dX2_cost_19 : decode cX2_cost 19 = .ok (.istore_n 3, 1) := by decide +kernel
theorem dX2_cost_20 : decode cX2_cost 20 = .ok (.aload_n 0, 1) := by decide +kernel
theorem dX2_cost_21 : decode cX2_cost 21 = .ok (.iload_n 2, 1) := by decide +kernel
theorem dX2_cost_22 : decode cX2_cost 22 = .ok (.iload_n 1, 1) := by decide +kernel
theorem dX2_cost_23 : decode cX2_cost 23 = .ok (.invokevirtual 139, 3) := by decide +kernel
theorem dX2_cost_26 : decode cX2_cost 26 = .ok (.istore 4, 2) := by decide +kernel
theorem dX2_cost_28 : decode cX2_cost 28 = .ok (.iload_n 3, 1) := by decide +kernel
theorem dX2_cost_29 : decode cX2_cost 29 = .ok (.iload 4, 2) := by decide +kernel
theorem dX2_cost_31 : decode cX2_cost 31 = .ok (.isub, 1) := by decide +kernel
theorem dX2_cost_32 : decode cX2_cost 32 = .ok (.ireturn, 1) := by decide +kernel
theorem dX3_isIn_0 : decode cX3_isIn 0 = .ok (.iload_n 0, 1) := by decide +kernel
theorem dX3_isIn_1 : decode cX3_isIn 1 = .ok (.iload_n 1, 1) := by decide +kernel
theorem dX3_isIn_2 : decode cX3_isIn 2 = .ok (.if_icmp .lt 12, 3) := by decide +kernel
theorem dX3_isIn_5 : decode cX3_isIn 5 = .ok (.iload_n 0, 1) := by decide +kernel
theorem dX3_isIn_6 : decode cX3_isIn 6 = .ok (.iload_n 2, 1) := by decide +kernel
theorem dX3_isIn_7 : decode cX3_isIn 7 = .ok (.if_icmp .gt 7, 3) := by decide +kernel
theorem dX3_isIn_10 : decode cX3_isIn 10 = .ok (.iconst 1, 1) := by decide +kernel
theorem dX3_isIn_11 : decode cX3_isIn 11 = .ok (.goto 4, 3) := by decide +kernel
theorem dX3_isIn_14 : decode cX3_isIn 14 = .ok (.iconst 0, 1) := by decide +kernel
theorem dX3_isIn_15 : decode cX3_isIn 15 = .ok (.ireturn, 1) := by decide +kernel
theorem dX3_thrown_0 : decode cX3_thrown 0 = .ok (.aload_n 0, 1) := by decide +kernel
theorem dX3_thrown_1 : decode cX3_thrown 1 = .ok (.getfield 50, 3) := by decide +kernel
theorem dX3_thrown_4 : decode cX3_thrown 4 = .ok (.ireturn, 1) := by decide +kernel
theorem dX3_forget_0 : decode cX3_forget 0 = .ok (.aload_n 0, 1) := by decide +kernel
theorem dX3_forget_1 : decode cX3_forget 1 = .ok (.iconst 0, 1) := by decide +kernel
theorem dX3_forget_2 : decode cX3_forget 2 = .ok (.putfield 53, 3) := by decide +kernel
theorem dX3_forget_5 : decode cX3_forget 5 = .ok (.aload_n 0, 1) := by decide +kernel
theorem dX3_forget_6 : decode cX3_forget 6 = .ok (.iconst 0, 1) := by decide +kernel
theorem dX3_forget_7 : decode cX3_forget 7 = .ok (.putfield 57, 3) := by decide +kernel
theorem dX3_forget_10 : decode cX3_forget 10 = .ok (.return_, 1) := by decide +kernel
theorem dX3_logs_0 : decode cX3_logs 0 = .ok (.aload_n 0, 1) := by decide +kernel
theorem dX3_logs_1 : decode cX3_logs 1 = .ok (.iload_n 1, 1) := by decide +kernel
theorem dX3_logs_2 : decode cX3_logs 2 = .ok (.iconst 0, 1) := by decide +kernel
theorem dX3_logs_3 : decode cX3_logs 3 = .ok (.iconst 3, 1) := by decide +kernel
theorem dX3_logs_4 : decode cX3_logs 4 = .ok (.invokestatic 60, 3) := by decide +kernel
theorem dX3_logs_7 : decode cX3_logs 7 = .ok (.ifCond .ne 7, 3) := by decide +kernel
theorem dX3_logs_10 : decode cX3_logs 10 = .ok (.iconst 1, 1) := by decide +kernel
theorem dX3_logs_11 : decode cX3_logs 11 = .ok (.goto 29, 3) := by decide +kernel
theorem dX3_logs_14 : decode cX3_logs 14 = .ok (.iload_n 2, 1) := by decide +kernel
theorem dX3_logs_15 : decode cX3_logs 15 = .ok (.iconst 0, 1) := by decide +kernel
theorem dX3_logs_16 : decode cX3_logs 16 = .ok (.sipush 1000, 3) := by decide +kernel
theorem dX3_logs_19 : decode cX3_logs 19 = .ok (.invokestatic 60, 3) := by decide +kernel
theorem dX3_logs_22 : decode cX3_logs 22 = .ok (.ifCond .eq 13, 3) := by decide +kernel
theorem dX3_logs_25 : decode cX3_logs 25 = .ok (.iload_n 3, 1) := by decide +kernel
theorem dX3_logs_26 : decode cX3_logs 26 = .ok (.iconst 0, 1) := by decide +kernel
theorem dX3_logs_27 : decode cX3_logs 27 = .ok (.ldc 64, 2) := by decide +kernel
theorem dX3_logs_29 : decode cX3_logs 29 = .ok (.invokestatic 60, 3) := by decide +kernel
theorem dX3_logs_32 : decode cX3_logs 32 = .ok (.ifCond .ne 7, 3) := by decide +kernel
theorem dX3_logs_35 : decode cX3_logs 35 = .ok (.iconst 2, 1) := by decide +kernel
theorem dX3_logs_36 : decode cX3_logs 36 = .ok (.goto 4, 3) := by decide +kernel
theorem dX3_logs_39 : decode cX3_logs 39 = .ok (.iconst 0, 1) := by decide +kernel
theorem dX3_logs_40 : decode cX3_logs 40 = .ok (.putfield 50, 3) := by decide +kernel
theorem dX3_logs_43 : decode cX3_logs 43 = .ok (.aload_n 0, 1) := by decide +kernel
theorem dX3_logs_44 : decode cX3_logs 44 = .ok (.getfield 50, 3) := by decide +kernel
theorem dX3_logs_47 : decode cX3_logs 47 = .ok (.ifCond .ne 21, 3) := by decide +kernel
theorem dX3_logs_50 : decode cX3_logs 50 = .ok (.aload_n 0, 1) := by decide +kernel
theorem dX3_logs_51 : decode cX3_logs 51 = .ok (.getfield 7, 3) := by decide +kernel
theorem dX3_logs_54 : decode cX3_logs 54 = .ok (.iload_n 1, 1) := by decide +kernel
theorem dX3_logs_55 : decode cX3_logs 55 = .ok (.iload_n 2, 1) := by decide +kernel
theorem dX3_logs_56 : decode cX3_logs 56 = .ok (.iastore, 1) := by decide +kernel
theorem dX3_logs_57 : decode cX3_logs 57 = .ok (.aload_n 0, 1) := by decide +kernel
theorem dX3_logs_58 : decode cX3_logs 58 = .ok (.getfield 13, 3) := by decide +kernel
theorem dX3_logs_61 : decode cX3_logs 61 = .ok (.iload_n 1, 1) := by decide +kernel
theorem dX3_logs_62 : decode cX3_logs 62 = .ok (.iload_n 3, 1) := by decide +kernel
theorem dX3_logs_63 : decode cX3_logs 63 = .ok (.iastore, 1) := by decide +kernel
theorem dX3_logs_64 : decode cX3_logs 64 = .ok (.aload_n 0, 1) := by decide +kernel
theorem dX3_logs_65 : decode cX3_logs 65 = .ok (.invokevirtual 65, 3) := by decide +kernel
theorem dX3_logs_68 : decode cX3_logs 68 = .ok (.return_, 1) := by decide +kernel
theorem dX3_order_0 : decode cX3_order 0 = .ok (.aload_n 0, 1) := by decide +kernel
theorem dX3_order_1 : decode cX3_order 1 = .ok (.iload_n 1, 1) := by decide +kernel
theorem dX3_order_2 : decode cX3_order 2 = .ok (.iconst 0, 1) := by decide +kernel
theorem dX3_order_3 : decode cX3_order 3 = .ok (.iconst 3, 1) := by decide +kernel
theorem dX3_order_4 : decode cX3_order 4 = .ok (.invokestatic 60, 3) := by decide +kernel
theorem dX3_order_7 : decode cX3_order 7 = .ok (.ifCond .ne 7, 3) := by decide +kernel
theorem dX3_order_10 : decode cX3_order 10 = .ok (.iconst 1, 1) := by decide +kernel
theorem dX3_order_11 : decode cX3_order 11 = .ok (.goto 42, 3) := by decide +kernel
theorem dX3_order_14 : decode cX3_order 14 = .ok (.iload_n 2, 1) := by decide +kernel
theorem dX3_order_15 : decode cX3_order 15 = .ok (.iconst 0, 1) := by decide +kernel
theorem dX3_order_16 : decode cX3_order 16 = .ok (.sipush 1000, 3) := by decide +kernel
theorem dX3_order_19 : decode cX3_order 19 = .ok (.invokestatic 60, 3) := by decide +kernel
theorem dX3_order_22 : decode cX3_order 22 = .ok (.ifCond .eq 26, 3) := by decide +kernel
theorem dX3_order_25 : decode cX3_order 25 = .ok (.iload_n 3, 1) := by decide +kernel
theorem dX3_order_26 : decode cX3_order 26 = .ok (.iload_n 2, 1) := by decide +kernel
theorem dX3_order_27 : decode cX3_order 27 = .ok (.sipush 1000, 3) := by decide +kernel
theorem dX3_order_30 : decode cX3_order 30 = .ok (.invokestatic 60, 3) := by decide +kernel
theorem dX3_order_33 : decode cX3_order 33 = .ok (.ifCond .eq 15, 3) := by decide +kernel
theorem dX3_order_36 : decode cX3_order 36 = .ok (.iload 4, 2) := by decide +kernel
theorem dX3_order_38 : decode cX3_order 38 = .ok (.iconst 0, 1) := by decide +kernel
theorem dX3_order_39 : decode cX3_order 39 = .ok (.sipush 1000, 3) := by decide +kernel
theorem dX3_order_42 : decode cX3_order 42 = .ok (.invokestatic 60, 3) := by decide +kernel
theorem dX3_order_45 : decode cX3_order 45 = .ok (.ifCond .ne 7, 3) := by decide +kernel
theorem dX3_order_48 : decode cX3_order 48 = .ok (.iconst 2, 1) := by decide +kernel
theorem dX3_order_49 : decode cX3_order 49 = .ok (.goto 4, 3) := by decide +kernel
theorem dX3_order_52 : decode cX3_order 52 = .ok (.iconst 0, 1) := by decide +kernel
theorem dX3_order_53 : decode cX3_order 53 = .ok (.putfield 50, 3) := by decide +kernel
theorem dX3_order_56 : decode cX3_order 56 = .ok (.aload_n 0, 1) := by decide +kernel
theorem dX3_order_57 : decode cX3_order 57 = .ok (.getfield 50, 3) := by decide +kernel
theorem dX3_order_60 : decode cX3_order 60 = .ok (.ifCond .ne 29, 3) := by decide +kernel
theorem dX3_order_63 : decode cX3_order 63 = .ok (.aload_n 0, 1) := by decide +kernel
theorem dX3_order_64 : decode cX3_order 64 = .ok (.getfield 25, 3) := by decide +kernel
theorem dX3_order_67 : decode cX3_order 67 = .ok (.iload_n 1, 1) := by decide +kernel
theorem dX3_order_68 : decode cX3_order 68 = .ok (.iload_n 2, 1) := by decide +kernel
theorem dX3_order_69 : decode cX3_order 69 = .ok (.iastore, 1) := by decide +kernel
theorem dX3_order_70 : decode cX3_order 70 = .ok (.aload_n 0, 1) := by decide +kernel
theorem dX3_order_71 : decode cX3_order 71 = .ok (.getfield 28, 3) := by decide +kernel
theorem dX3_order_74 : decode cX3_order 74 = .ok (.iload_n 1, 1) := by decide +kernel
theorem dX3_order_75 : decode cX3_order 75 = .ok (.iload_n 3, 1) := by decide +kernel
theorem dX3_order_76 : decode cX3_order 76 = .ok (.iastore, 1) := by decide +kernel
theorem dX3_order_77 : decode cX3_order 77 = .ok (.aload_n 0, 1) := by decide +kernel
theorem dX3_order_78 : decode cX3_order 78 = .ok (.getfield 31, 3) := by decide +kernel
theorem dX3_order_81 : decode cX3_order 81 = .ok (.iload_n 1, 1) := by decide +kernel
theorem dX3_order_82 : decode cX3_order 82 = .ok (.iload 4, 2) := by decide +kernel
theorem dX3_order_84 : decode cX3_order 84 = .ok (.iastore, 1) := by decide +kernel
theorem dX3_order_85 : decode cX3_order 85 = .ok (.aload_n 0, 1) := by decide +kernel
theorem dX3_order_86 : decode cX3_order 86 = .ok (.invokevirtual 65, 3) := by decide +kernel
theorem dX3_order_89 : decode cX3_order 89 = .ok (.return_, 1) := by decide +kernel
theorem dX3_hours_0 : decode cX3_hours 0 = .ok (.aload_n 0, 1) := by decide +kernel
theorem dX3_hours_1 : decode cX3_hours 1 = .ok (.iload_n 1, 1) := by decide +kernel
theorem dX3_hours_2 : decode cX3_hours 2 = .ok (.iconst 0, 1) := by decide +kernel
theorem dX3_hours_3 : decode cX3_hours 3 = .ok (.sipush 1440, 3) := by decide +kernel
theorem dX3_hours_6 : decode cX3_hours 6 = .ok (.invokestatic 60, 3) := by decide +kernel
theorem dX3_hours_9 : decode cX3_hours 9 = .ok (.ifCond .eq 18, 3) := by decide +kernel
theorem dX3_hours_12 : decode cX3_hours 12 = .ok (.iload_n 2, 1) := by decide +kernel
theorem dX3_hours_13 : decode cX3_hours 13 = .ok (.iconst 0, 1) := by decide +kernel
theorem dX3_hours_14 : decode cX3_hours 14 = .ok (.sipush 1440, 3) := by decide +kernel
theorem dX3_hours_17 : decode cX3_hours 17 = .ok (.invokestatic 60, 3) := by decide +kernel
theorem dX3_hours_20 : decode cX3_hours 20 = .ok (.ifCond .eq 7, 3) := by decide +kernel
theorem dX3_hours_23 : decode cX3_hours 23 = .ok (.iconst 0, 1) := by decide +kernel
theorem dX3_hours_24 : decode cX3_hours 24 = .ok (.goto 4, 3) := by decide +kernel
theorem dX3_hours_27 : decode cX3_hours 27 = .ok (.iconst 1, 1) := by decide +kernel
theorem dX3_hours_28 : decode cX3_hours 28 = .ok (.putfield 50, 3) := by decide +kernel
theorem dX3_hours_31 : decode cX3_hours 31 = .ok (.aload_n 0, 1) := by decide +kernel
theorem dX3_hours_32 : decode cX3_hours 32 = .ok (.getfield 50, 3) := by decide +kernel
theorem dX3_hours_35 : decode cX3_hours 35 = .ok (.ifCond .ne 17, 3) := by decide +kernel
theorem dX3_hours_38 : decode cX3_hours 38 = .ok (.aload_n 0, 1) := by decide +kernel
theorem dX3_hours_39 : decode cX3_hours 39 = .ok (.iload_n 1, 1) := by decide +kernel
theorem dX3_hours_40 : decode cX3_hours 40 = .ok (.putfield 37, 3) := by decide +kernel
theorem dX3_hours_43 : decode cX3_hours 43 = .ok (.aload_n 0, 1) := by decide +kernel
theorem dX3_hours_44 : decode cX3_hours 44 = .ok (.iload_n 2, 1) := by decide +kernel
theorem dX3_hours_45 : decode cX3_hours 45 = .ok (.putfield 75, 3) := by decide +kernel
theorem dX3_hours_48 : decode cX3_hours 48 = .ok (.aload_n 0, 1) := by decide +kernel
theorem dX3_hours_49 : decode cX3_hours 49 = .ok (.invokevirtual 65, 3) := by decide +kernel
theorem dX3_hours_52 : decode cX3_hours 52 = .ok (.return_, 1) := by decide +kernel
theorem dX3_isPattern_0 : decode cX3_isPattern 0 = .ok (.iload_n 1, 1) := by decide +kernel
theorem dX3_isPattern_1 : decode cX3_isPattern 1 = .ok (.ifCond .lt 15, 3) := by decide +kernel
theorem dX3_isPattern_4 : decode cX3_isPattern 4 = .ok (.iload_n 1, 1) := by decide +kernel
theorem dX3_isPattern_5 : decode cX3_isPattern 5 = .ok (.aload_n 0, 1) := by decide +kernel
theorem dX3_isPattern_6 : decode cX3_isPattern 6 = .ok (.getfield 68, 3) := by decide +kernel
theorem dX3_isPattern_9 : decode cX3_isPattern 9 = .ok (.if_icmp .ge 7, 3) := by decide +kernel
theorem dX3_isPattern_12 : decode cX3_isPattern 12 = .ok (.iconst 1, 1) := by decide +kernel
theorem dX3_isPattern_13 : decode cX3_isPattern 13 = .ok (.goto 4, 3) := by decide +kernel
theorem dX3_isPattern_16 : decode cX3_isPattern 16 = .ok (.iconst 0, 1) := by decide +kernel
theorem dX3_isPattern_17 : decode cX3_isPattern 17 = .ok (.ireturn, 1) := by decide +kernel
theorem dX3_gives_0 : decode cX3_gives 0 = .ok (.aload_n 0, 1) := by decide +kernel
theorem dX3_gives_1 : decode cX3_gives 1 = .ok (.aload_n 0, 1) := by decide +kernel
theorem dX3_gives_2 : decode cX3_gives 2 = .ok (.iload_n 1, 1) := by decide +kernel
theorem dX3_gives_3 : decode cX3_gives 3 = .ok (.invokevirtual 71, 3) := by decide +kernel
theorem dX3_gives_6 : decode cX3_gives 6 = .ok (.ifCond .eq 12, 3) := by decide +kernel
theorem dX3_gives_9 : decode cX3_gives 9 = .ok (.iload_n 2, 1) := by decide +kernel
theorem dX3_gives_10 : decode cX3_gives 10 = .ok (.iconst 0, 1) := by decide +kernel
theorem dX3_gives_11 : decode cX3_gives 11 = .ok (.iconst 3, 1) := by decide +kernel
theorem dX3_gives_12 : decode cX3_gives 12 = .ok (.invokestatic 60, 3) := by decide +kernel
theorem dX3_gives_15 : decode cX3_gives 15 = .ok (.ifCond .ne 7, 3) := by decide +kernel
theorem dX3_gives_18 : decode cX3_gives 18 = .ok (.iconst 1, 1) := by decide +kernel
theorem dX3_gives_19 : decode cX3_gives 19 = .ok (.goto 18, 3) := by decide +kernel
theorem dX3_gives_22 : decode cX3_gives 22 = .ok (.iload_n 3, 1) := by decide +kernel
theorem dX3_gives_23 : decode cX3_gives 23 = .ok (.iconst 0, 1) := by decide +kernel
theorem dX3_gives_24 : decode cX3_gives 24 = .ok (.bipush 9, 2) := by decide +kernel
theorem dX3_gives_26 : decode cX3_gives 26 = .ok (.invokestatic 60, 3) := by decide +kernel
theorem dX3_gives_29 : decode cX3_gives 29 = .ok (.ifCond .ne 7, 3) := by decide +kernel
theorem dX3_gives_32 : decode cX3_gives 32 = .ok (.iconst 2, 1) := by decide +kernel
theorem dX3_gives_33 : decode cX3_gives 33 = .ok (.goto 4, 3) := by decide +kernel
theorem dX3_gives_36 : decode cX3_gives 36 = .ok (.iconst 0, 1) := by decide +kernel
theorem dX3_gives_37 : decode cX3_gives 37 = .ok (.putfield 50, 3) := by decide +kernel
theorem dX3_gives_40 : decode cX3_gives 40 = .ok (.aload_n 0, 1) := by decide +kernel
theorem dX3_gives_41 : decode cX3_gives 41 = .ok (.getfield 50, 3) := by decide +kernel
theorem dX3_gives_44 : decode cX3_gives 44 = .ok (.ifCond .ne 18, 3) := by decide +kernel
theorem dX3_gives_47 : decode cX3_gives 47 = .ok (.aload_n 0, 1) := by decide +kernel
theorem dX3_gives_48 : decode cX3_gives 48 = .ok (.getfield 22, 3) := by decide +kernel
theorem dX3_gives_51 : decode cX3_gives 51 = .ok (.iconst 4, 1) := by decide +kernel
theorem dX3_gives_52 : decode cX3_gives 52 = .ok (.iload_n 1, 1) := by decide +kernel
theorem dX3_gives_53 : decode cX3_gives 53 = .ok (.imul, 1) := by decide +kernel
theorem dX3_gives_54 : decode cX3_gives 54 = .ok (.iload_n 2, 1) := by decide +kernel
theorem dX3_gives_55 : decode cX3_gives 55 = .ok (.iadd, 1) := by decide +kernel
theorem dX3_gives_56 : decode cX3_gives 56 = .ok (.iload_n 3, 1) := by decide +kernel
theorem dX3_gives_57 : decode cX3_gives 57 = .ok (.iastore, 1) := by decide +kernel
theorem dX3_gives_58 : decode cX3_gives 58 = .ok (.aload_n 0, 1) := by decide +kernel
theorem dX3_gives_59 : decode cX3_gives 59 = .ok (.invokevirtual 65, 3) := by decide +kernel
theorem dX3_gives_62 : decode cX3_gives 62 = .ok (.return_, 1) := by decide +kernel
theorem dX3_pattern_0 : decode cX3_pattern 0 = .ok (.aload_n 0, 1) := by decide +kernel
theorem dX3_pattern_1 : decode cX3_pattern 1 = .ok (.iload_n 1, 1) := by decide +kernel
theorem dX3_pattern_2 : decode cX3_pattern 2 = .ok (.iconst 0, 1) := by decide +kernel
theorem dX3_pattern_3 : decode cX3_pattern 3 = .ok (.iconst 3, 1) := by decide +kernel
theorem dX3_pattern_4 : decode cX3_pattern 4 = .ok (.invokestatic 60, 3) := by decide +kernel
theorem dX3_pattern_7 : decode cX3_pattern 7 = .ok (.ifCond .ne 7, 3) := by decide +kernel
theorem dX3_pattern_10 : decode cX3_pattern 10 = .ok (.iconst 1, 1) := by decide +kernel
theorem dX3_pattern_11 : decode cX3_pattern 11 = .ok (.goto 32, 3) := by decide +kernel
theorem dX3_pattern_14 : decode cX3_pattern 14 = .ok (.iload_n 2, 1) := by decide +kernel
theorem dX3_pattern_15 : decode cX3_pattern 15 = .ok (.iconst 1, 1) := by decide +kernel
theorem dX3_pattern_16 : decode cX3_pattern 16 = .ok (.sipush 480, 3) := by decide +kernel
theorem dX3_pattern_19 : decode cX3_pattern 19 = .ok (.invokestatic 60, 3) := by decide +kernel
theorem dX3_pattern_22 : decode cX3_pattern 22 = .ok (.ifCond .ne 7, 3) := by decide +kernel
theorem dX3_pattern_25 : decode cX3_pattern 25 = .ok (.iconst 2, 1) := by decide +kernel
theorem dX3_pattern_26 : decode cX3_pattern 26 = .ok (.goto 17, 3) := by decide +kernel
theorem dX3_pattern_29 : decode cX3_pattern 29 = .ok (.aload_n 0, 1) := by decide +kernel
theorem dX3_pattern_30 : decode cX3_pattern 30 = .ok (.getfield 68, 3) := by decide +kernel
theorem dX3_pattern_33 : decode cX3_pattern 33 = .ok (.bipush 6, 2) := by decide +kernel
theorem dX3_pattern_35 : decode cX3_pattern 35 = .ok (.if_icmp .ne 7, 3) := by decide +kernel
theorem dX3_pattern_38 : decode cX3_pattern 38 = .ok (.iconst 3, 1) := by decide +kernel
theorem dX3_pattern_39 : decode cX3_pattern 39 = .ok (.goto 4, 3) := by decide +kernel
theorem dX3_pattern_42 : decode cX3_pattern 42 = .ok (.iconst 0, 1) := by decide +kernel
theorem dX3_pattern_43 : decode cX3_pattern 43 = .ok (.putfield 50, 3) := by decide +kernel
theorem dX3_pattern_46 : decode cX3_pattern 46 = .ok (.aload_n 0, 1) := by decide +kernel
theorem dX3_pattern_47 : decode cX3_pattern 47 = .ok (.getfield 50, 3) := by decide +kernel
theorem dX3_pattern_50 : decode cX3_pattern 50 = .ok (.ifCond .le 5, 3) := by decide +kernel
theorem dX3_pattern_53 : decode cX3_pattern 53 = .ok (.iconst 0, 1) := by decide +kernel
theorem dX3_pattern_54 : decode cX3_pattern 54 = .ok (.ireturn, 1) := by decide +kernel
theorem dX3_pattern_55 : decode cX3_pattern 55 = .ok (.aload_n 0, 1) := by decide +kernel
theorem dX3_pattern_56 : decode cX3_pattern 56 = .ok (.getfield 16, 3) := by decide +kernel
theorem dX3_pattern_59 : decode cX3_pattern 59 = .ok (.aload_n 0, 1) := by decide +kernel
theorem dX3_pattern_60 : decode cX3_pattern 60 = .ok (.getfield 68, 3) := by decide +kernel
theorem dX3_pattern_63 : decode cX3_pattern 63 = .ok (.iload_n 1, 1) := by decide +kernel
theorem dX3_pattern_64 : decode cX3_pattern 64 = .ok (.iastore, 1) := by decide +kernel
theorem dX3_pattern_65 : decode cX3_pattern 65 = .ok (.aload_n 0, 1) := by decide +kernel
theorem dX3_pattern_66 : decode cX3_pattern 66 = .ok (.getfield 19, 3) := by decide +kernel
theorem dX3_pattern_69 : decode cX3_pattern 69 = .ok (.aload_n 0, 1) := by decide +kernel
theorem dX3_pattern_70 : decode cX3_pattern 70 = .ok (.getfield 68, 3) := by decide +kernel
theorem dX3_pattern_73 : decode cX3_pattern 73 = .ok (.iload_n 2, 1) := by decide +kernel
theorem dX3_pattern_74 : decode cX3_pattern 74 = .ok (.iastore, 1) := by decide +kernel
theorem dX3_pattern_75 : decode cX3_pattern 75 = .ok (.aload_n 0, 1) := by decide +kernel
theorem dX3_pattern_76 : decode cX3_pattern 76 = .ok (.dup, 1) := by decide +kernel
theorem dX3_pattern_77 : decode cX3_pattern 77 = .ok (.getfield 68, 3) := by decide +kernel
theorem dX3_pattern_80 : decode cX3_pattern 80 = .ok (.iconst 1, 1) := by decide +kernel
theorem dX3_pattern_81 : decode cX3_pattern 81 = .ok (.iadd, 1) := by decide +kernel
theorem dX3_pattern_82 : decode cX3_pattern 82 = .ok (.putfield 68, 3) := by decide +kernel
theorem dX3_pattern_85 : decode cX3_pattern 85 = .ok (.aload_n 0, 1) := by decide +kernel
theorem dX3_pattern_86 : decode cX3_pattern 86 = .ok (.invokevirtual 65, 3) := by decide +kernel
theorem dX3_pattern_89 : decode cX3_pattern 89 = .ok (.aload_n 0, 1) := by decide +kernel
theorem dX3_pattern_90 : decode cX3_pattern 90 = .ok (.getfield 68, 3) := by decide +kernel
theorem dX3_pattern_93 : decode cX3_pattern 93 = .ok (.iconst 1, 1) := by decide +kernel
theorem dX3_pattern_94 : decode cX3_pattern 94 = .ok (.isub, 1) := by decide +kernel
theorem dX3_pattern_95 : decode cX3_pattern 95 = .ok (.ireturn, 1) := by decide +kernel
theorem dX1_init_0 : decode cX1_init 0 = .ok (.aload_n 0, 1) := by decide +kernel
theorem dX1_init_1 : decode cX1_init 1 = .ok (.invokespecial 3, 3) := by decide +kernel
theorem dX1_init_4 : decode cX1_init 4 = .ok (.aload_n 0, 1) := by decide +kernel
theorem dX1_init_5 : decode cX1_init 5 = .ok (.iconst 4, 1) := by decide +kernel
theorem dX1_init_6 : decode cX1_init 6 = .ok (.newarray .int, 2) := by decide +kernel
theorem dX1_init_8 : decode cX1_init 8 = .ok (.putfield 9, 3) := by decide +kernel
theorem dX1_init_11 : decode cX1_init 11 = .ok (.aload_n 0, 1) := by decide +kernel
theorem dX1_init_12 : decode cX1_init 12 = .ok (.iconst 4, 1) := by decide +kernel
theorem dX1_init_13 : decode cX1_init 13 = .ok (.newarray .int, 2) := by decide +kernel
theorem dX1_init_15 : decode cX1_init 15 = .ok (.putfield 15, 3) := by decide +kernel
theorem dX1_init_18 : decode cX1_init 18 = .ok (.aload_n 0, 1) := by decide +kernel
theorem dX1_init_19 : decode cX1_init 19 = .ok (.bipush 6, 2) := by decide +kernel
theorem dX1_init_21 : decode cX1_init 21 = .ok (.newarray .int, 2) := by decide +kernel
theorem dX1_init_23 : decode cX1_init 23 = .ok (.putfield 18, 3) := by decide +kernel
theorem dX1_init_26 : decode cX1_init 26 = .ok (.aload_n 0, 1) := by decide +kernel
theorem dX1_init_27 : decode cX1_init 27 = .ok (.bipush 6, 2) := by decide +kernel
theorem dX1_init_29 : decode cX1_init 29 = .ok (.newarray .int, 2) := by decide +kernel
theorem dX1_init_31 : decode cX1_init 31 = .ok (.putfield 21, 3) := by decide +kernel
theorem dX1_init_34 : decode cX1_init 34 = .ok (.aload_n 0, 1) := by decide +kernel
theorem dX1_init_35 : decode cX1_init 35 = .ok (.bipush 6, 2) := by decide +kernel
theorem dX1_init_37 : decode cX1_init 37 = .ok (.iconst 4, 1) := by decide +kernel
theorem dX1_init_38 : decode cX1_init 38 = .ok (.multianewarray 24 2, 4) := by decide +kernel
theorem dX1_init_42 : decode cX1_init 42 = .ok (.putfield 26, 3) := by decide +kernel
theorem dX1_init_45 : decode cX1_init 45 = .ok (.aload_n 0, 1) := by decide +kernel
theorem dX1_init_46 : decode cX1_init 46 = .ok (.iconst 4, 1) := by decide +kernel
theorem dX1_init_47 : decode cX1_init 47 = .ok (.newarray .int, 2) := by decide +kernel
theorem dX1_init_49 : decode cX1_init 49 = .ok (.putfield 29, 3) := by decide +kernel
theorem dX1_init_52 : decode cX1_init 52 = .ok (.aload_n 0, 1) := by decide +kernel
theorem dX1_init_53 : decode cX1_init 53 = .ok (.iconst 4, 1) := by decide +kernel
theorem dX1_init_54 : decode cX1_init 54 = .ok (.newarray .int, 2) := by decide +kernel
theorem dX1_init_56 : decode cX1_init 56 = .ok (.putfield 32, 3) := by decide +kernel
theorem dX1_init_59 : decode cX1_init 59 = .ok (.aload_n 0, 1) := by decide +kernel
theorem dX1_init_60 : decode cX1_init 60 = .ok (.iconst 4, 1) := by decide +kernel
theorem dX1_init_61 : decode cX1_init 61 = .ok (.newarray .int, 2) := by decide +kernel
theorem dX1_init_63 : decode cX1_init 63 = .ok (.putfield 35, 3) := by decide +kernel
theorem dX1_init_66 : decode cX1_init 66 = .ok (.aload_n 0, 1) := by decide +kernel
theorem dX1_init_67 : decode cX1_init 67 = .ok (.iconst 4, 1) := by decide +kernel
theorem dX1_init_68 : decode cX1_init 68 = .ok (.newarray .int, 2) := by decide +kernel
theorem dX1_init_70 : decode cX1_init 70 = .ok (.putfield 38, 3) := by decide +kernel
theorem dX1_init_73 : decode cX1_init 73 = .ok (.aload_n 0, 1) := by decide +kernel
theorem dX1_init_74 : decode cX1_init 74 = .ok (.sipush 480, 3) := by decide +kernel
theorem dX1_init_77 : decode cX1_init 77 = .ok (.putfield 41, 3) := by decide +kernel
theorem dX1_init_80 : decode cX1_init 80 = .ok (.return_, 1) := by decide +kernel
theorem dX0_init_0 : decode cX0_init 0 = .ok (.aload_n 0, 1) := by decide +kernel
theorem dX0_init_1 : decode cX0_init 1 = .ok (.invokespecial 3, 3) := by decide +kernel
theorem dX0_init_4 : decode cX0_init 4 = .ok (.aload_n 0, 1) := by decide +kernel
theorem dX0_init_5 : decode cX0_init 5 = .ok (.bipush 6, 2) := by decide +kernel
theorem dX0_init_7 : decode cX0_init 7 = .ok (.newarray .int, 2) := by decide +kernel
theorem dX0_init_9 : decode cX0_init 9 = .ok (.putfield 9, 3) := by decide +kernel
theorem dX0_init_12 : decode cX0_init 12 = .ok (.aload_n 0, 1) := by decide +kernel
theorem dX0_init_13 : decode cX0_init 13 = .ok (.iconst 4, 1) := by decide +kernel
theorem dX0_init_14 : decode cX0_init 14 = .ok (.newarray .int, 2) := by decide +kernel
theorem dX0_init_16 : decode cX0_init 16 = .ok (.putfield 15, 3) := by decide +kernel
theorem dX0_init_19 : decode cX0_init 19 = .ok (.aload_n 0, 1) := by decide +kernel
theorem dX0_init_20 : decode cX0_init 20 = .ok (.iconst 4, 1) := by decide +kernel
theorem dX0_init_21 : decode cX0_init 21 = .ok (.newarray .int, 2) := by decide +kernel
theorem dX0_init_23 : decode cX0_init 23 = .ok (.putfield 18, 3) := by decide +kernel
theorem dX0_init_26 : decode cX0_init 26 = .ok (.aload_n 0, 1) := by decide +kernel
theorem dX0_init_27 : decode cX0_init 27 = .ok (.iconst 4, 1) := by decide +kernel
theorem dX0_init_28 : decode cX0_init 28 = .ok (.newarray .int, 2) := by decide +kernel
theorem dX0_init_30 : decode cX0_init 30 = .ok (.putfield 21, 3) := by decide +kernel
theorem dX0_init_33 : decode cX0_init 33 = .ok (.aload_n 0, 1) := by decide +kernel
theorem dX0_init_34 : decode cX0_init 34 = .ok (.iconst 4, 1) := by decide +kernel
theorem dX0_init_35 : decode cX0_init 35 = .ok (.newarray .int, 2) := by decide +kernel
theorem dX0_init_37 : decode cX0_init 37 = .ok (.putfield 24, 3) := by decide +kernel
theorem dX0_init_40 : decode cX0_init 40 = .ok (.aload_n 0, 1) := by decide +kernel
theorem dX0_init_41 : decode cX0_init 41 = .ok (.iconst 4, 1) := by decide +kernel
theorem dX0_init_42 : decode cX0_init 42 = .ok (.newarray .int, 2) := by decide +kernel
theorem dX0_init_44 : decode cX0_init 44 = .ok (.putfield 27, 3) := by decide +kernel
theorem dX0_init_47 : decode cX0_init 47 = .ok (.aload_n 0, 1) := by decide +kernel
theorem dX0_init_48 : decode cX0_init 48 = .ok (.bipush 6, 2) := by decide +kernel
theorem dX0_init_50 : decode cX0_init 50 = .ok (.newarray .int, 2) := by decide +kernel
theorem dX0_init_52 : decode cX0_init 52 = .ok (.putfield 30, 3) := by decide +kernel
theorem dX0_init_55 : decode cX0_init 55 = .ok (.aload_n 0, 1) := by decide +kernel
theorem dX0_init_56 : decode cX0_init 56 = .ok (.aload_n 1, 1) := by decide +kernel
theorem dX0_init_57 : decode cX0_init 57 = .ok (.putfield 33, 3) := by decide +kernel
theorem dX0_init_60 : decode cX0_init 60 = .ok (.return_, 1) := by decide +kernel
theorem dX3_init_0 : decode cX3_init 0 = .ok (.aload_n 0, 1) := by decide +kernel
theorem dX3_init_1 : decode cX3_init 1 = .ok (.invokespecial 1, 3) := by decide +kernel
theorem dX3_init_4 : decode cX3_init 4 = .ok (.aload_n 0, 1) := by decide +kernel
theorem dX3_init_5 : decode cX3_init 5 = .ok (.iconst 4, 1) := by decide +kernel
theorem dX3_init_6 : decode cX3_init 6 = .ok (.newarray .int, 2) := by decide +kernel
theorem dX3_init_8 : decode cX3_init 8 = .ok (.putfield 7, 3) := by decide +kernel
theorem dX3_init_11 : decode cX3_init 11 = .ok (.aload_n 0, 1) := by decide +kernel
theorem dX3_init_12 : decode cX3_init 12 = .ok (.iconst 4, 1) := by decide +kernel
theorem dX3_init_13 : decode cX3_init 13 = .ok (.newarray .int, 2) := by decide +kernel
theorem dX3_init_15 : decode cX3_init 15 = .ok (.putfield 13, 3) := by decide +kernel
theorem dX3_init_18 : decode cX3_init 18 = .ok (.aload_n 0, 1) := by decide +kernel
theorem dX3_init_19 : decode cX3_init 19 = .ok (.bipush 6, 2) := by decide +kernel
theorem dX3_init_21 : decode cX3_init 21 = .ok (.newarray .int, 2) := by decide +kernel
theorem dX3_init_23 : decode cX3_init 23 = .ok (.putfield 16, 3) := by decide +kernel
theorem dX3_init_26 : decode cX3_init 26 = .ok (.aload_n 0, 1) := by decide +kernel
theorem dX3_init_27 : decode cX3_init 27 = .ok (.bipush 6, 2) := by decide +kernel
theorem dX3_init_29 : decode cX3_init 29 = .ok (.newarray .int, 2) := by decide +kernel
theorem dX3_init_31 : decode cX3_init 31 = .ok (.putfield 19, 3) := by decide +kernel
theorem dX3_init_34 : decode cX3_init 34 = .ok (.aload_n 0, 1) := by decide +kernel
theorem dX3_init_35 : decode cX3_init 35 = .ok (.bipush 24, 2) := by decide +kernel
theorem dX3_init_37 : decode cX3_init 37 = .ok (.newarray .int, 2) := by decide +kernel
theorem dX3_init_39 : decode cX3_init 39 = .ok (.putfield 22, 3) := by decide +kernel
theorem dX3_init_42 : decode cX3_init 42 = .ok (.aload_n 0, 1) := by decide +kernel
theorem dX3_init_43 : decode cX3_init 43 = .ok (.iconst 4, 1) := by decide +kernel
theorem dX3_init_44 : decode cX3_init 44 = .ok (.newarray .int, 2) := by decide +kernel
theorem dX3_init_46 : decode cX3_init 46 = .ok (.putfield 25, 3) := by decide +kernel
theorem dX3_init_49 : decode cX3_init 49 = .ok (.aload_n 0, 1) := by decide +kernel
theorem dX3_init_50 : decode cX3_init 50 = .ok (.iconst 4, 1) := by decide +kernel
theorem dX3_init_51 : decode cX3_init 51 = .ok (.newarray .int, 2) := by decide +kernel
theorem dX3_init_53 : decode cX3_init 53 = .ok (.putfield 28, 3) := by decide +kernel
theorem dX3_init_56 : decode cX3_init 56 = .ok (.aload_n 0, 1) := by decide +kernel
theorem dX3_init_57 : decode cX3_init 57 = .ok (.iconst 4, 1) := by decide +kernel
theorem dX3_init_58 : decode cX3_init 58 = .ok (.newarray .int, 2) := by decide +kernel
theorem dX3_init_60 : decode cX3_init 60 = .ok (.putfield 31, 3) := by decide +kernel
theorem dX3_init_63 : decode cX3_init 63 = .ok (.aload_n 0, 1) := by decide +kernel
theorem dX3_init_64 : decode cX3_init 64 = .ok (.iconst 4, 1) := by decide +kernel
theorem dX3_init_65 : decode cX3_init 65 = .ok (.newarray .int, 2) := by decide +kernel
theorem dX3_init_67 : decode cX3_init 67 = .ok (.putfield 34, 3) := by decide +kernel
theorem dX3_init_70 : decode cX3_init 70 = .ok (.aload_n 0, 1) := by decide +kernel
theorem dX3_init_71 : decode cX3_init 71 = .ok (.sipush 480, 3) := by decide +kernel
theorem dX3_init_74 : decode cX3_init 74 = .ok (.putfield 37, 3) := by decide +kernel
theorem dX3_init_77 : decode cX3_init 77 = .ok (.aload_n 0, 1) := by decide +kernel
theorem dX3_init_78 : decode cX3_init 78 = .ok (.bipush 6, 2) := by decide +kernel
theorem dX3_init_80 : decode cX3_init 80 = .ok (.newarray .int, 2) := by decide +kernel
theorem dX3_init_82 : decode cX3_init 82 = .ok (.putfield 41, 3) := by decide +kernel
theorem dX3_init_85 : decode cX3_init 85 = .ok (.aload_n 0, 1) := by decide +kernel
theorem dX3_init_86 : decode cX3_init 86 = .ok (.bipush 6, 2) := by decide +kernel
theorem dX3_init_88 : decode cX3_init 88 = .ok (.newarray .int, 2) := by decide +kernel
theorem dX3_init_90 : decode cX3_init 90 = .ok (.putfield 44, 3) := by decide +kernel
theorem dX3_init_93 : decode cX3_init 93 = .ok (.aload_n 0, 1) := by decide +kernel
theorem dX3_init_94 : decode cX3_init 94 = .ok (.bipush 6, 2) := by decide +kernel
theorem dX3_init_96 : decode cX3_init 96 = .ok (.newarray .int, 2) := by decide +kernel
theorem dX3_init_98 : decode cX3_init 98 = .ok (.putfield 47, 3) := by decide +kernel
theorem dX3_init_101 : decode cX3_init 101 = .ok (.return_, 1) := by decide +kernel
theorem dX2_init_0 : decode cX2_init 0 = .ok (.aload_n 0, 1) := by decide +kernel
theorem dX2_init_1 : decode cX2_init 1 = .ok (.invokespecial 1, 3) := by decide +kernel
theorem dX2_init_4 : decode cX2_init 4 = .ok (.aload_n 0, 1) := by decide +kernel
theorem dX2_init_5 : decode cX2_init 5 = .ok (.new 7, 3) := by decide +kernel
theorem dX2_init_8 : decode cX2_init 8 = .ok (.dup, 1) := by decide +kernel
theorem dX2_init_9 : decode cX2_init 9 = .ok (.invokespecial 9, 3) := by decide +kernel
theorem dX2_init_12 : decode cX2_init 12 = .ok (.putfield 10, 3) := by decide +kernel
theorem dX2_init_15 : decode cX2_init 15 = .ok (.aload_n 0, 1) := by decide +kernel
theorem dX2_init_16 : decode cX2_init 16 = .ok (.new 16, 3) := by decide +kernel
theorem dX2_init_19 : decode cX2_init 19 = .ok (.dup, 1) := by decide +kernel
theorem dX2_init_20 : decode cX2_init 20 = .ok (.aload_n 0, 1) := by decide +kernel
theorem dX2_init_21 : decode cX2_init 21 = .ok (.getfield 10, 3) := by decide +kernel
theorem dX2_init_24 : decode cX2_init 24 = .ok (.invokespecial 18, 3) := by decide +kernel
theorem dX2_init_27 : decode cX2_init 27 = .ok (.putfield 21, 3) := by decide +kernel
theorem dX2_init_30 : decode cX2_init 30 = .ok (.aload_n 0, 1) := by decide +kernel
theorem dX2_init_31 : decode cX2_init 31 = .ok (.new 16, 3) := by decide +kernel
theorem dX2_init_34 : decode cX2_init 34 = .ok (.dup, 1) := by decide +kernel
theorem dX2_init_35 : decode cX2_init 35 = .ok (.aload_n 0, 1) := by decide +kernel
theorem dX2_init_36 : decode cX2_init 36 = .ok (.getfield 10, 3) := by decide +kernel
theorem dX2_init_39 : decode cX2_init 39 = .ok (.invokespecial 18, 3) := by decide +kernel
theorem dX2_init_42 : decode cX2_init 42 = .ok (.putfield 25, 3) := by decide +kernel
theorem dX2_init_45 : decode cX2_init 45 = .ok (.return_, 1) := by decide +kernel
end
section
theorem a0 : (Cond.classLink RX2 143 "java/lang/IndexOutOfBoundsException") ∈ wsAll := wsq ⟨List.mem_of_getElem? (i := 179) (by decide +kernel), by decide +kernel⟩
theorem a1 : (Cond.initialized "java/lang/IndexOutOfBoundsException") ∈ wsAll := wsq ⟨List.mem_of_getElem? (i := 8) (by decide +kernel), by decide +kernel⟩
theorem a2 : (Cond.classLink RX2 148 "java/lang/IllegalArgumentException") ∈ wsAll := wsq ⟨List.mem_of_getElem? (i := 250) (by decide +kernel), by decide +kernel⟩
theorem a3 : (Cond.initialized "java/lang/IllegalArgumentException") ∈ wsAll := wsq ⟨List.mem_of_getElem? (i := 9) (by decide +kernel), by decide +kernel⟩
theorem a4 : (Cond.classLink RX2 51 "java/lang/IllegalStateException") ∈ wsAll := wsq ⟨List.mem_of_getElem? (i := 279) (by decide +kernel), by decide +kernel⟩
theorem a5 : (Cond.initialized "java/lang/IllegalStateException") ∈ wsAll := wsq ⟨List.mem_of_getElem? (i := 10) (by decide +kernel), by decide +kernel⟩
theorem a6 : (Cond.fieldLink RX0 33 RX0 "yard" "LDayCutPlans$Yard;") ∈ wsAll := wsq ⟨List.mem_of_getElem? (i := 97) (by decide +kernel), by decide +kernel⟩
theorem a7 : (Cond.fieldLink RX0 72 RX0 "minutesFree" "I") ∈ wsAll := wsq ⟨List.mem_of_getElem? (i := 101) (by decide +kernel), by decide +kernel⟩
theorem a8 : (Cond.fieldLink RX0 75 RX0 "centsSoFar" "I") ∈ wsAll := wsq ⟨List.mem_of_getElem? (i := 102) (by decide +kernel), by decide +kernel⟩
theorem a9 : (Cond.fieldLink RX0 18 RX0 "madeSoFar" "[I") ∈ wsAll := wsq ⟨List.mem_of_getElem? (i := 100) (by decide +kernel), by decide +kernel⟩
theorem a10 : (Cond.fieldLink RX0 15 RX0 "logsFree" "[I") ∈ wsAll := wsq ⟨List.mem_of_getElem? (i := 99) (by decide +kernel), by decide +kernel⟩
theorem a11 : (Cond.fieldLink RX0 9 RX0 "counts" "[I") ∈ wsAll := wsq ⟨List.mem_of_getElem? (i := 98) (by decide +kernel), by decide +kernel⟩
theorem a12 : (Cond.fieldLink RX0 21 RX0 "least" "[I") ∈ wsAll := wsq ⟨List.mem_of_getElem? (i := 103) (by decide +kernel), by decide +kernel⟩
theorem a13 : (Cond.fieldLink RX0 24 RX0 "most" "[I") ∈ wsAll := wsq ⟨List.mem_of_getElem? (i := 104) (by decide +kernel), by decide +kernel⟩
theorem a14 : (Cond.fieldLink RX0 27 RX0 "worth" "[I") ∈ wsAll := wsq ⟨List.mem_of_getElem? (i := 105) (by decide +kernel), by decide +kernel⟩
theorem a15 : (Cond.methodLink RX0 103 yX0_minutesOfNextLog) ∈ wsAll := wsq ⟨List.mem_of_getElem? (i := 365) (by decide +kernel), by decide +kernel⟩
theorem a16 : (Cond.instanceMethod yX0_minutesOfNextLog) ∈ wsAll := wsq ⟨List.mem_of_getElem? (i := 367) (by decide +kernel), by decide +kernel⟩
theorem a17 : (Cond.selects RX0 yX0_minutesOfNextLog yX0_minutesOfNextLog) ∈ wsAll := wsp (by decide +kernel)
theorem a18 : (Cond.initialized RX0) ∈ wsAll := wsq ⟨List.mem_of_getElem? (i := 3) (by decide +kernel), by decide +kernel⟩
theorem a19 : (Cond.code yX0_minutesOfNextLog cX0_minutesOfNextLog 3 (some .int)) ∈ wsAll := wsq ⟨List.mem_of_getElem? (i := 368) (by decide +kernel), by decide +kernel⟩
theorem a20 : (Cond.methodLink RX0 137 Lib.Math.min.name) ∈ wsAll := wsq ⟨List.mem_of_getElem? (i := 351) (by decide +kernel), by decide +kernel⟩
theorem a21 : (Cond.static Lib.Math.min.name) ∈ wsAll := wsq ⟨List.mem_of_getElem? (i := 352) (by decide +kernel), by decide +kernel⟩
theorem a22 : (Cond.initialized "java/lang/Math") ∈ wsAll := wsq ⟨List.mem_of_getElem? (i := 11) (by decide +kernel), by decide +kernel⟩
theorem a23 : (Cond.code Lib.Math.min.name Lib.Math.min.code 2 (some .int)) ∈ wsAll := wsq ⟨List.mem_of_getElem? (i := 353) (by decide +kernel), by decide +kernel⟩
theorem a24 : (Cond.fieldLink RX0 55 RX0 "found" "Z") ∈ wsAll := wsq ⟨List.mem_of_getElem? (i := 111) (by decide +kernel), by decide +kernel⟩
theorem a25 : (Cond.fieldLink RX0 128 RX0 "bestGain" "I") ∈ wsAll := wsq ⟨List.mem_of_getElem? (i := 114) (by decide +kernel), by decide +kernel⟩
theorem a26 : (Cond.fieldLink RX0 30 RX0 "bestCounts" "[I") ∈ wsAll := wsq ⟨List.mem_of_getElem? (i := 115) (by decide +kernel), by decide +kernel⟩
theorem a27 : (Cond.methodLink RX0 131 arraycopyName) ∈ wsAll := wsq ⟨List.mem_of_getElem? (i := 354) (by decide +kernel), by decide +kernel⟩
theorem a28 : (Cond.native arraycopyName) ∈ wsAll := wsq ⟨List.mem_of_getElem? (i := 356) (by decide +kernel), by decide +kernel⟩
theorem a29 : (Cond.static arraycopyName) ∈ wsAll := wsq ⟨List.mem_of_getElem? (i := 355) (by decide +kernel), by decide +kernel⟩
theorem a30 : (Cond.initialized "java/lang/System") ∈ wsAll := wsq ⟨List.mem_of_getElem? (i := 12) (by decide +kernel), by decide +kernel⟩
theorem a31 : (Cond.methodLink RX0 120 yX0_fillsOrders) ∈ wsAll := wsq ⟨List.mem_of_getElem? (i := 343) (by decide +kernel), by decide +kernel⟩
theorem a32 : (Cond.instanceMethod yX0_fillsOrders) ∈ wsAll := wsq ⟨List.mem_of_getElem? (i := 345) (by decide +kernel), by decide +kernel⟩
theorem a33 : (Cond.selects RX0 yX0_fillsOrders yX0_fillsOrders) ∈ wsAll := wsp (by decide +kernel)
theorem a34 : (Cond.code yX0_fillsOrders cX0_fillsOrders 2 (some .boolean)) ∈ wsAll := wsq ⟨List.mem_of_getElem? (i := 346) (by decide +kernel), by decide +kernel⟩
theorem a35 : (Cond.methodLink RX0 124 yX0_gainOfPlan) ∈ wsAll := wsq ⟨List.mem_of_getElem? (i := 347) (by decide +kernel), by decide +kernel⟩
theorem a36 : (Cond.instanceMethod yX0_gainOfPlan) ∈ wsAll := wsq ⟨List.mem_of_getElem? (i := 349) (by decide +kernel), by decide +kernel⟩
theorem a37 : (Cond.selects RX0 yX0_gainOfPlan yX0_gainOfPlan) ∈ wsAll := wsp (by decide +kernel)
theorem a38 : (Cond.code yX0_gainOfPlan cX0_gainOfPlan 3 (some .int)) ∈ wsAll := wsq ⟨List.mem_of_getElem? (i := 350) (by decide +kernel), by decide +kernel⟩
theorem a39 : (Cond.methodLink RX0 84 yX0_lookAtPlan) ∈ wsAll := wsq ⟨List.mem_of_getElem? (i := 339) (by decide +kernel), by decide +kernel⟩
theorem a40 : (Cond.instanceMethod yX0_lookAtPlan) ∈ wsAll := wsq ⟨List.mem_of_getElem? (i := 341) (by decide +kernel), by decide +kernel⟩
theorem a41 : (Cond.selects RX0 yX0_lookAtPlan yX0_lookAtPlan) ∈ wsAll := wsp (by decide +kernel)
theorem a42 : (Cond.code yX0_lookAtPlan cX0_lookAtPlan 2 none) ∈ wsAll := wsq ⟨List.mem_of_getElem? (i := 342) (by decide +kernel), by decide +kernel⟩
theorem a43 : (Cond.fieldLink RX0 48 RX0 "steps" "I") ∈ wsAll := wsq ⟨List.mem_of_getElem? (i := 107) (by decide +kernel), by decide +kernel⟩
theorem a44 : (Cond.fieldLink RX0 44 RX0 "stepsAllowed" "I") ∈ wsAll := wsq ⟨List.mem_of_getElem? (i := 106) (by decide +kernel), by decide +kernel⟩
theorem a45 : (Cond.methodLink RX0 58 yX0_tellPatternsFrom) ∈ wsAll := wsq ⟨List.mem_of_getElem? (i := 335) (by decide +kernel), by decide +kernel⟩
theorem a46 : (Cond.instanceMethod yX0_tellPatternsFrom) ∈ wsAll := wsq ⟨List.mem_of_getElem? (i := 337) (by decide +kernel), by decide +kernel⟩
theorem a47 : (Cond.selects RX0 yX0_tellPatternsFrom yX0_tellPatternsFrom) ∈ wsAll := wsp (by decide +kernel)
theorem a48 : (Cond.code yX0_tellPatternsFrom cX0_tellPatternsFrom 3 none) ∈ wsAll := wsq ⟨List.mem_of_getElem? (i := 338) (by decide +kernel), by decide +kernel⟩
theorem a49 : (Cond.fieldLink RX0 51 RX0 "spent" "Z") ∈ wsAll := wsq ⟨List.mem_of_getElem? (i := 109) (by decide +kernel), by decide +kernel⟩
theorem a50 : (Cond.methodLink RX0 97 yX0_takeLogsBack) ∈ wsAll := wsq ⟨List.mem_of_getElem? (i := 373) (by decide +kernel), by decide +kernel⟩
theorem a51 : (Cond.instanceMethod yX0_takeLogsBack) ∈ wsAll := wsq ⟨List.mem_of_getElem? (i := 375) (by decide +kernel), by decide +kernel⟩
theorem a52 : (Cond.selects RX0 yX0_takeLogsBack yX0_takeLogsBack) ∈ wsAll := wsp (by decide +kernel)
theorem a53 : (Cond.code yX0_takeLogsBack cX0_takeLogsBack 5 none) ∈ wsAll := wsq ⟨List.mem_of_getElem? (i := 376) (by decide +kernel), by decide +kernel⟩
theorem a54 : (Cond.methodLink RX0 90 yX0_oneLogMoreFits) ∈ wsAll := wsq ⟨List.mem_of_getElem? (i := 361) (by decide +kernel), by decide +kernel⟩
theorem a55 : (Cond.instanceMethod yX0_oneLogMoreFits) ∈ wsAll := wsq ⟨List.mem_of_getElem? (i := 363) (by decide +kernel), by decide +kernel⟩
theorem a56 : (Cond.selects RX0 yX0_oneLogMoreFits yX0_oneLogMoreFits) ∈ wsAll := wsp (by decide +kernel)
theorem a57 : (Cond.code yX0_oneLogMoreFits cX0_oneLogMoreFits 2 (some .boolean)) ∈ wsAll := wsq ⟨List.mem_of_getElem? (i := 364) (by decide +kernel), by decide +kernel⟩
theorem a58 : (Cond.methodLink RX0 94 yX0_addLog) ∈ wsAll := wsq ⟨List.mem_of_getElem? (i := 369) (by decide +kernel), by decide +kernel⟩
theorem a59 : (Cond.instanceMethod yX0_addLog) ∈ wsAll := wsq ⟨List.mem_of_getElem? (i := 371) (by decide +kernel), by decide +kernel⟩
theorem a60 : (Cond.selects RX0 yX0_addLog yX0_addLog) ∈ wsAll := wsp (by decide +kernel)
theorem a61 : (Cond.code yX0_addLog cX0_addLog 4 none) ∈ wsAll := wsq ⟨List.mem_of_getElem? (i := 372) (by decide +kernel), by decide +kernel⟩
theorem a62 : (Cond.methodLink RX0 87 yX0_takeStep) ∈ wsAll := wsq ⟨List.mem_of_getElem? (i := 357) (by decide +kernel), by decide +kernel⟩
theorem a63 : (Cond.instanceMethod yX0_takeStep) ∈ wsAll := wsq ⟨List.mem_of_getElem? (i := 359) (by decide +kernel), by decide +kernel⟩
theorem a64 : (Cond.selects RX0 yX0_takeStep yX0_takeStep) ∈ wsAll := wsp (by decide +kernel)
theorem a65 : (Cond.code yX0_takeStep cX0_takeStep 2 none) ∈ wsAll := wsq ⟨List.mem_of_getElem? (i := 360) (by decide +kernel), by decide +kernel⟩
theorem a66 : (Cond.methodLink RX0 37 yX0_startWithEmptyPlan) ∈ wsAll := wsq ⟨List.mem_of_getElem? (i := 327) (by decide +kernel), by decide +kernel⟩
theorem a67 : (Cond.instanceMethod yX0_startWithEmptyPlan) ∈ wsAll := wsq ⟨List.mem_of_getElem? (i := 329) (by decide +kernel), by decide +kernel⟩
theorem a68 : (Cond.selects RX0 yX0_startWithEmptyPlan yX0_startWithEmptyPlan) ∈ wsAll := wsp (by decide +kernel)
theorem a69 : (Cond.code yX0_startWithEmptyPlan cX0_startWithEmptyPlan 2 none) ∈ wsAll := wsq ⟨List.mem_of_getElem? (i := 330) (by decide +kernel), by decide +kernel⟩
theorem a70 : (Cond.methodLink RX0 40 yX0_takeOrders) ∈ wsAll := wsq ⟨List.mem_of_getElem? (i := 331) (by decide +kernel), by decide +kernel⟩
theorem a71 : (Cond.instanceMethod yX0_takeOrders) ∈ wsAll := wsq ⟨List.mem_of_getElem? (i := 333) (by decide +kernel), by decide +kernel⟩
theorem a72 : (Cond.selects RX0 yX0_takeOrders yX0_takeOrders) ∈ wsAll := wsp (by decide +kernel)
theorem a73 : (Cond.code yX0_takeOrders cX0_takeOrders 4 none) ∈ wsAll := wsq ⟨List.mem_of_getElem? (i := 334) (by decide +kernel), by decide +kernel⟩
theorem a74 : (Cond.fieldLink RX1 35 RX1 "worth" "[I") ∈ wsAll := wsq ⟨List.mem_of_getElem? (i := 50) (by decide +kernel), by decide +kernel⟩
theorem a75 : (Cond.fieldLink RX1 32 RX1 "most" "[I") ∈ wsAll := wsq ⟨List.mem_of_getElem? (i := 47) (by decide +kernel), by decide +kernel⟩
theorem a76 : (Cond.fieldLink RX1 45 RX1 "patterns" "I") ∈ wsAll := wsq ⟨List.mem_of_getElem? (i := 56) (by decide +kernel), by decide +kernel⟩
theorem a77 : (Cond.methodLink RX1 48 yX1_patternsUsedIn) ∈ wsAll := wsq ⟨List.mem_of_getElem? (i := 411) (by decide +kernel), by decide +kernel⟩
theorem a78 : (Cond.instanceMethod yX1_patternsUsedIn) ∈ wsAll := wsq ⟨List.mem_of_getElem? (i := 413) (by decide +kernel), by decide +kernel⟩
theorem a79 : (Cond.selects RX1 yX1_patternsUsedIn yX1_patternsUsedIn) ∈ wsAll := wsp (by decide +kernel)
theorem a80 : (Cond.initialized RX1) ∈ wsAll := wsq ⟨List.mem_of_getElem? (i := 2) (by decide +kernel), by decide +kernel⟩
theorem a81 : (Cond.code yX1_patternsUsedIn cX1_patternsUsedIn 4 (some .int)) ∈ wsAll := wsq ⟨List.mem_of_getElem? (i := 414) (by decide +kernel), by decide +kernel⟩
theorem a82 : (Cond.fieldLink RX1 52 RX1 "change" "I") ∈ wsAll := wsq ⟨List.mem_of_getElem? (i := 62) (by decide +kernel), by decide +kernel⟩
theorem a83 : (Cond.fieldLink RX1 21 RX1 "minutesALog" "[I") ∈ wsAll := wsq ⟨List.mem_of_getElem? (i := 38) (by decide +kernel), by decide +kernel⟩
theorem a84 : (Cond.fieldLink RX1 26 RX1 "boardsALog" "[[I") ∈ wsAll := wsq ⟨List.mem_of_getElem? (i := 41) (by decide +kernel), by decide +kernel⟩
theorem a85 : (Cond.fieldLink RX1 38 RX1 "stock" "[I") ∈ wsAll := wsq ⟨List.mem_of_getElem? (i := 53) (by decide +kernel), by decide +kernel⟩
theorem a86 : (Cond.fieldLink RX1 9 RX1 "logsLeft" "[I") ∈ wsAll := wsq ⟨List.mem_of_getElem? (i := 29) (by decide +kernel), by decide +kernel⟩
theorem a87 : (Cond.fieldLink RX1 18 RX1 "classOf" "[I") ∈ wsAll := wsq ⟨List.mem_of_getElem? (i := 35) (by decide +kernel), by decide +kernel⟩
theorem a88 : (Cond.methodLink RX1 55 yX1_madeBy) ∈ wsAll := wsq ⟨List.mem_of_getElem? (i := 438) (by decide +kernel), by decide +kernel⟩
theorem a89 : (Cond.instanceMethod yX1_madeBy) ∈ wsAll := wsq ⟨List.mem_of_getElem? (i := 425) (by decide +kernel), by decide +kernel⟩
theorem a90 : (Cond.selects RX1 yX1_madeBy yX1_madeBy) ∈ wsAll := wsp (by decide +kernel)
theorem a91 : (Cond.code yX1_madeBy cX1_madeBy 5 (some .int)) ∈ wsAll := wsq ⟨List.mem_of_getElem? (i := 426) (by decide +kernel), by decide +kernel⟩
theorem a92 : (Cond.methodLink RX1 59 Lib.Math.min.name) ∈ wsAll := wsq ⟨List.mem_of_getElem? (i := 439) (by decide +kernel), by decide +kernel⟩
theorem a93 : (Cond.fieldLink RX2 86 RX2 "searchedSinceTold" "Z") ∈ wsAll := wsq ⟨List.mem_of_getElem? (i := 151) (by decide +kernel), by decide +kernel⟩
theorem a94 : (Cond.fieldLink RX2 21 RX2 "latest" "LDayCutPlans$Search;") ∈ wsAll := wsq ⟨List.mem_of_getElem? (i := 149) (by decide +kernel), by decide +kernel⟩
theorem a95 : (Cond.methodLink RX2 28 yX2_needIndex) ∈ wsAll := wsq ⟨List.mem_of_getElem? (i := 176) (by decide +kernel), by decide +kernel⟩
theorem a96 : (Cond.static yX2_needIndex) ∈ wsAll := wsq ⟨List.mem_of_getElem? (i := 177) (by decide +kernel), by decide +kernel⟩
theorem a97 : (Cond.initialized RX2) ∈ wsAll := wsq ⟨List.mem_of_getElem? (i := 1) (by decide +kernel), by decide +kernel⟩
theorem a98 : (Cond.code yX2_needIndex cX2_needIndex 2 none) ∈ wsAll := wsq ⟨List.mem_of_getElem? (i := 178) (by decide +kernel), by decide +kernel⟩
theorem a99 : (Cond.methodLink RX2 32 yX2_needRange) ∈ wsAll := wsq ⟨List.mem_of_getElem? (i := 247) (by decide +kernel), by decide +kernel⟩
theorem a100 : (Cond.static yX2_needRange) ∈ wsAll := wsq ⟨List.mem_of_getElem? (i := 248) (by decide +kernel), by decide +kernel⟩
theorem a101 : (Cond.code yX2_needRange cX2_needRange 3 none) ∈ wsAll := wsq ⟨List.mem_of_getElem? (i := 249) (by decide +kernel), by decide +kernel⟩
theorem a102 : (Cond.constant RX2 36 (nI 100000)) ∈ wsAll := wsq ⟨List.mem_of_getElem? (i := 266) (by decide +kernel), by decide +kernel⟩
theorem a103 : (Cond.fieldLink RX2 10 RX2 "yard" "LDayCutPlans$Yard;") ∈ wsAll := wsq ⟨List.mem_of_getElem? (i := 148) (by decide +kernel), by decide +kernel⟩
theorem a104 : (Cond.methodLink RX2 44 yX2_forgetSearch) ∈ wsAll := wsq ⟨List.mem_of_getElem? (i := 267) (by decide +kernel), by decide +kernel⟩
theorem a105 : (Cond.instanceMethod yX2_forgetSearch) ∈ wsAll := wsq ⟨List.mem_of_getElem? (i := 269) (by decide +kernel), by decide +kernel⟩
theorem a106 : (Cond.selects RX2 yX2_forgetSearch yX2_forgetSearch) ∈ wsAll := wsp (by decide +kernel)
theorem a107 : (Cond.code yX2_forgetSearch cX2_forgetSearch 1 none) ∈ wsAll := wsq ⟨List.mem_of_getElem? (i := 270) (by decide +kernel), by decide +kernel⟩
theorem a108 : (Cond.instanceMethod yX0_goThroughPlans) ∈ wsAll := wsq ⟨List.mem_of_getElem? (i := 325) (by decide +kernel), by decide +kernel⟩
theorem a109 : (Cond.selects RX0 yX0_goThroughPlans yX0_goThroughPlans) ∈ wsAll := wsp (by decide +kernel)
theorem a110 : (Cond.code yX0_goThroughPlans cX0_goThroughPlans 3 none) ∈ wsAll := wsq ⟨List.mem_of_getElem? (i := 326) (by decide +kernel), by decide +kernel⟩
theorem a111 : (Cond.instanceMethod yX1_boundOfGain) ∈ wsAll := wsq ⟨List.mem_of_getElem? (i := 387) (by decide +kernel), by decide +kernel⟩
theorem a112 : (Cond.selects RX1 yX1_boundOfGain yX1_boundOfGain) ∈ wsAll := wsp (by decide +kernel)
theorem a113 : (Cond.code yX1_boundOfGain cX1_boundOfGain 3 (some .int)) ∈ wsAll := wsq ⟨List.mem_of_getElem? (i := 388) (by decide +kernel), by decide +kernel⟩
theorem a114 : (Cond.methodLink RX2 105 yX2_needBest) ∈ wsAll := wsq ⟨List.mem_of_getElem? (i := 396) (by decide +kernel), by decide +kernel⟩
theorem a115 : (Cond.static yX2_needBest) ∈ wsAll := wsq ⟨List.mem_of_getElem? (i := 397) (by decide +kernel), by decide +kernel⟩
theorem a116 : (Cond.code yX2_needBest cX2_needBest 1 none) ∈ wsAll := wsq ⟨List.mem_of_getElem? (i := 398) (by decide +kernel), by decide +kernel⟩
theorem a117 : (Cond.instanceMethod yX1_minutesOf) ∈ wsAll := wsq ⟨List.mem_of_getElem? (i := 409) (by decide +kernel), by decide +kernel⟩
theorem a118 : (Cond.selects RX1 yX1_minutesOf yX1_minutesOf) ∈ wsAll := wsp (by decide +kernel)
theorem a119 : (Cond.code yX1_minutesOf cX1_minutesOf 4 (some .int)) ∈ wsAll := wsq ⟨List.mem_of_getElem? (i := 410) (by decide +kernel), by decide +kernel⟩
theorem a120 : (Cond.instanceMethod yX1_doPlan) ∈ wsAll := wsq ⟨List.mem_of_getElem? (i := 436) (by decide +kernel), by decide +kernel⟩
theorem a121 : (Cond.selects RX1 yX1_doPlan yX1_doPlan) ∈ wsAll := wsp (by decide +kernel)
theorem a122 : (Cond.code yX1_doPlan cX1_doPlan 4 none) ∈ wsAll := wsq ⟨List.mem_of_getElem? (i := 437) (by decide +kernel), by decide +kernel⟩
theorem a123 : (Cond.fieldLink RX2 130 RX2 "earned" "I") ∈ wsAll := wsq ⟨List.mem_of_getElem? (i := 153) (by decide +kernel), by decide +kernel⟩
theorem a124 : (Cond.fieldLink RX2 133 RX2 "days" "I") ∈ wsAll := wsq ⟨List.mem_of_getElem? (i := 152) (by decide +kernel), by decide +kernel⟩
theorem a125 : (Cond.fieldLink RX2 25 RX2 "trial" "LDayCutPlans$Search;") ∈ wsAll := wsq ⟨List.mem_of_getElem? (i := 150) (by decide +kernel), by decide +kernel⟩
theorem a126 : (Cond.methodLink RX2 139 yX2_gainOfTrial) ∈ wsAll := wsq ⟨List.mem_of_getElem? (i := 454) (by decide +kernel), by decide +kernel⟩
theorem a127 : (Cond.instanceMethod yX2_gainOfTrial) ∈ wsAll := wsq ⟨List.mem_of_getElem? (i := 456) (by decide +kernel), by decide +kernel⟩
theorem a128 : (Cond.selects RX2 yX2_gainOfTrial yX2_gainOfTrial) ∈ wsAll := wsp (by decide +kernel)
theorem a129 : (Cond.code yX2_gainOfTrial cX2_gainOfTrial 3 (some .int)) ∈ wsAll := wsq ⟨List.mem_of_getElem? (i := 457) (by decide +kernel), by decide +kernel⟩
theorem a130 : (Cond.fieldLink RX3 50 RX3 "code" "I") ∈ wsAll := wsq ⟨List.mem_of_getElem? (i := 464) (by decide +kernel), by decide +kernel⟩
theorem a131 : (Cond.fieldLink RX3 53 RX3 "isSearched" "Z") ∈ wsAll := wsq ⟨List.mem_of_getElem? (i := 479) (by decide +kernel), by decide +kernel⟩
theorem a132 : (Cond.fieldLink RX3 57 RX3 "isBest" "Z") ∈ wsAll := wsq ⟨List.mem_of_getElem? (i := 480) (by decide +kernel), by decide +kernel⟩
theorem a133 : (Cond.methodLink RX3 60 yX3_isIn) ∈ wsAll := wsq ⟨List.mem_of_getElem? (i := 554) (by decide +kernel), by decide +kernel⟩
theorem a134 : (Cond.static yX3_isIn) ∈ wsAll := wsq ⟨List.mem_of_getElem? (i := 555) (by decide +kernel), by decide +kernel⟩
theorem a135 : (Cond.initialized RX3) ∈ wsAll := wsq ⟨List.mem_of_getElem? (i := 4) (by decide +kernel), by decide +kernel⟩
theorem a136 : (Cond.code yX3_isIn cX3_isIn 3 (some .boolean)) ∈ wsAll := wsq ⟨List.mem_of_getElem? (i := 556) (by decide +kernel), by decide +kernel⟩
theorem a137 : (Cond.constant RX3 64 (nI 100000)) ∈ wsAll := wsq ⟨List.mem_of_getElem? (i := 557) (by decide +kernel), by decide +kernel⟩
theorem a138 : (Cond.fieldLink RX3 7 RX3 "logs" "[I") ∈ wsAll := wsq ⟨List.mem_of_getElem? (i := 465) (by decide +kernel), by decide +kernel⟩
theorem a139 : (Cond.fieldLink RX3 13 RX3 "cents" "[I") ∈ wsAll := wsq ⟨List.mem_of_getElem? (i := 466) (by decide +kernel), by decide +kernel⟩
theorem a140 : (Cond.methodLink RX3 65 yX3_forget) ∈ wsAll := wsq ⟨List.mem_of_getElem? (i := 558) (by decide +kernel), by decide +kernel⟩
theorem a141 : (Cond.instanceMethod yX3_forget) ∈ wsAll := wsq ⟨List.mem_of_getElem? (i := 560) (by decide +kernel), by decide +kernel⟩
theorem a142 : (Cond.selects RX3 yX3_forget yX3_forget) ∈ wsAll := wsp (by decide +kernel)
theorem a143 : (Cond.code yX3_forget cX3_forget 1 none) ∈ wsAll := wsq ⟨List.mem_of_getElem? (i := 561) (by decide +kernel), by decide +kernel⟩
theorem a144 : (Cond.fieldLink RX3 25 RX3 "least" "[I") ∈ wsAll := wsq ⟨List.mem_of_getElem? (i := 471) (by decide +kernel), by decide +kernel⟩
theorem a145 : (Cond.fieldLink RX3 28 RX3 "most" "[I") ∈ wsAll := wsq ⟨List.mem_of_getElem? (i := 472) (by decide +kernel), by decide +kernel⟩
theorem a146 : (Cond.fieldLink RX3 31 RX3 "worth" "[I") ∈ wsAll := wsq ⟨List.mem_of_getElem? (i := 473) (by decide +kernel), by decide +kernel⟩
theorem a147 : (Cond.fieldLink RX3 37 RX3 "hours" "I") ∈ wsAll := wsq ⟨List.mem_of_getElem? (i := 475) (by decide +kernel), by decide +kernel⟩
theorem a148 : (Cond.fieldLink RX3 75 RX3 "change" "I") ∈ wsAll := wsq ⟨List.mem_of_getElem? (i := 476) (by decide +kernel), by decide +kernel⟩
theorem a149 : (Cond.fieldLink RX3 68 RX3 "patterns" "I") ∈ wsAll := wsq ⟨List.mem_of_getElem? (i := 467) (by decide +kernel), by decide +kernel⟩
theorem a150 : (Cond.methodLink RX3 71 yX3_isPattern) ∈ wsAll := wsq ⟨List.mem_of_getElem? (i := 570) (by decide +kernel), by decide +kernel⟩
theorem a151 : (Cond.instanceMethod yX3_isPattern) ∈ wsAll := wsq ⟨List.mem_of_getElem? (i := 572) (by decide +kernel), by decide +kernel⟩
theorem a152 : (Cond.selects RX3 yX3_isPattern yX3_isPattern) ∈ wsAll := wsp (by decide +kernel)
theorem a153 : (Cond.code yX3_isPattern cX3_isPattern 2 (some .boolean)) ∈ wsAll := wsq ⟨List.mem_of_getElem? (i := 573) (by decide +kernel), by decide +kernel⟩
theorem a154 : (Cond.fieldLink RX3 22 RX3 "gives" "[I") ∈ wsAll := wsq ⟨List.mem_of_getElem? (i := 470) (by decide +kernel), by decide +kernel⟩
theorem a155 : (Cond.fieldLink RX3 16 RX3 "classOf" "[I") ∈ wsAll := wsq ⟨List.mem_of_getElem? (i := 468) (by decide +kernel), by decide +kernel⟩
theorem a156 : (Cond.fieldLink RX3 19 RX3 "minutes" "[I") ∈ wsAll := wsq ⟨List.mem_of_getElem? (i := 469) (by decide +kernel), by decide +kernel⟩
def vxD : List Cond := [.declares ⟨"java/lang/RuntimeException", "<init>", "(Ljava/lang/String;)V"⟩, .declares ⟨"java/lang/Exception", "<init>", "(Ljava/lang/String;)V"⟩, .declares ⟨"java/lang/Throwable", "<init>", "(Ljava/lang/String;)V"⟩]
theorem vxDT : ∀ w ∈ vxD, w.onTables = true := by decide +kernel
theorem vxt_147 : ∀ w ∈ (vx_atS RX2 147 "java/lang/IndexOutOfBoundsException" ["java/lang/RuntimeException", "java/lang/Exception"]).filter goodWord, w ∈ lw_tbl := by decide +kernel
theorem vxg_147 (w : Cond) (h : w ∈ (vx_atS RX2 147 "java/lang/IndexOutOfBoundsException" ["java/lang/RuntimeException", "java/lang/Exception"]).filter goodWord) : w ∈ wsAll := List.mem_filter.mpr ⟨vxt_147 w h, (List.mem_filter.mp h).2⟩
theorem vxb_147 : ∀ w ∈ (vx_atS RX2 147 "java/lang/IndexOutOfBoundsException" ["java/lang/RuntimeException", "java/lang/Exception"]).filter (fun w => !goodWord w), w ∈ Cond.castable "java/lang/IndexOutOfBoundsException" "java/lang/IndexOutOfBoundsException" :: vxD := by decide +kernel
theorem vxt_152 : ∀ w ∈ (vx_atS RX2 152 "java/lang/IllegalArgumentException" ["java/lang/RuntimeException", "java/lang/Exception"]).filter goodWord, w ∈ lw_tbl := by decide +kernel
theorem vxg_152 (w : Cond) (h : w ∈ (vx_atS RX2 152 "java/lang/IllegalArgumentException" ["java/lang/RuntimeException", "java/lang/Exception"]).filter goodWord) : w ∈ wsAll := List.mem_filter.mpr ⟨vxt_152 w h, (List.mem_filter.mp h).2⟩
theorem vxb_152 : ∀ w ∈ (vx_atS RX2 152 "java/lang/IllegalArgumentException" ["java/lang/RuntimeException", "java/lang/Exception"]).filter (fun w => !goodWord w), w ∈ Cond.castable "java/lang/IllegalArgumentException" "java/lang/IllegalArgumentException" :: vxD := by decide +kernel
theorem vxt_55 : ∀ w ∈ (vx_atS RX2 55 "java/lang/IllegalStateException" ["java/lang/RuntimeException", "java/lang/Exception"]).filter goodWord, w ∈ lw_tbl := by decide +kernel
theorem vxg_55 (w : Cond) (h : w ∈ (vx_atS RX2 55 "java/lang/IllegalStateException" ["java/lang/RuntimeException", "java/lang/Exception"]).filter goodWord) : w ∈ wsAll := List.mem_filter.mpr ⟨vxt_55 w h, (List.mem_filter.mp h).2⟩
theorem vxb_55 : ∀ w ∈ (vx_atS RX2 55 "java/lang/IllegalStateException" ["java/lang/RuntimeException", "java/lang/Exception"]).filter (fun w => !goodWord w), w ∈ Cond.castable "java/lang/IllegalStateException" "java/lang/IllegalStateException" :: vxD := by decide +kernel
end
section
/-! A WORLD BY ITS SCHEMA. Cell k lies at 'ad k'; its numbers are 'sg k'. A kind is an object (number of its class; its fields: 'some j' the cell j, 'none' a number), an array of n numbers (none), of n rows, the cells b, b + 1, .. (some (some b)), or of n longs that were ints (some none) -/
abbrev gw_K : Type := (Nat × List (Option Nat)) ⊕ (Nat × Option (Option Nat))
def gw_v (ad : Nat → Nat) (f : Nat → Int32) (j : Nat) : Option Nat → Value
  | some t => .ref (ad t)
  | none => .int (f j)
def gw_f (ad : Nat → Nat) (f : Nat → Int32) : Nat → List (Option Nat) → List Value
  | _, [] => []
  | j, o :: r => gw_v ad f j o :: gw_f ad f (j + 1) r
def gw_g (ad : Nat → Nat) (b n : Nat) : Nat → Option Nat := fun i => ((List.range n).map (fun j => ad (b + j)))[i]?
def gw_c (cI : ClassId) (cJ : ClassId × ClassId) (ad : Nat → Nat) (f : Nat → Int32) : gw_K → va_E
  | .inl q => .inr (q.1, gw_f ad f 0 q.2)
  | .inr (n, none) => .inl (cI, n, .inl f)
  | .inr (n, some (some b)) => .inl (cJ.1, n, .inr (.inr (.inr (.inr (gw_g ad b n)))))
  | .inr (n, some none) => .inl (cJ.2, n, .inr (.inl (fun i => (f i).toInt64)))
def gw_w (cI : ClassId) (cJ : ClassId × ClassId) (ad : Nat → Nat) (sg : Nat → Nat → Int32) : Nat → List gw_K → va_W
  | _, [] => []
  | k, q :: r => (ad k, gw_c cI cJ ad (sg k) q) :: gw_w cI cJ ad sg (k + 1) r
abbrev gw (cI : ClassId) (cJ : ClassId × ClassId) (ad : Nat → Nat) (sg : Nat → Nat → Int32) (S : List gw_K) : va_W := gw_w cI cJ ad sg 0 S
/-- the numbers of one cell anew -/
def gw_u (sg : Nat → Nat → Int32) (k : Nat) (f : Nat → Int32) : Nat → Nat → Int32 := fun j => if j = k then f else sg j
theorem gw_u_s (sg : Nat → Nat → Int32) (k : Nat) (f : Nat → Int32) : gw_u sg k f k = f := by simp [gw_u]
theorem gw_u_n (sg : Nat → Nat → Int32) {k j : Nat} (f : Nat → Int32) (h : j ≠ k) : gw_u sg k f j = sg j := by simp [gw_u, h]
section GWA
variable {cI : ClassId} {cJ : ClassId × ClassId} {ad : Nat → Nat} {sg : Nat → Nat → Int32} {S : List gw_K}
theorem gw_fat (f : Nat → Int32) : ∀ (fs : List (Option Nat)) (j i : Nat), (gw_f ad f j fs)[i]? = (fs[i]?).map (gw_v ad f (j + i))
  | [], j, i => by simp [gw_f]
  | o :: r, j, 0 => by simp [gw_f]
  | o :: r, j, i + 1 => by
    have h := gw_fat f r (j + 1) i
    rw [show j + 1 + i = j + (i + 1) by omega] at h
    simpa [gw_f] using h
theorem gw_wat : ∀ (S : List gw_K) (k i : Nat), (gw_w cI cJ ad sg k S)[i]? = (S[i]?).map (fun q => (ad (k + i), gw_c cI cJ ad (sg (k + i)) q))
  | [], k, i => by simp [gw_w]
  | o :: r, k, 0 => by simp [gw_w]
  | o :: r, k, i + 1 => by
    have h := gw_wat r (k + 1) i
    rw [show k + 1 + i = k + (i + 1) by omega] at h
    simpa [gw_w] using h
theorem gw_at {i : Nat} {q : gw_K} (h : S[i]? = some q) : (gw cI cJ ad sg S)[i]? = some (ad i, gw_c cI cJ ad (sg i) q) := by
  show (gw_w cI cJ ad sg 0 S)[i]? = _
  rw [gw_wat, h, Nat.zero_add]
  rfl
theorem gw_of {i : Nat} {x : Nat × va_E} (h : (gw cI cJ ad sg S)[i]? = some x) : ∃ q, S[i]? = some q ∧ x = (ad i, gw_c cI cJ ad (sg i) q) := by
  have h : (gw_w cI cJ ad sg 0 S)[i]? = some x := h
  rw [gw_wat, Nat.zero_add] at h
  cases hq : S[i]? with
  | none => rw [hq] at h; cases h
  | some q => rw [hq] at h; exact ⟨q, rfl, (Option.some.inj h).symm⟩
theorem gw_len : ∀ (S : List gw_K) (k : Nat), (gw_w cI cJ ad sg k S).length = S.length
  | [], k => rfl
  | o :: r, k => by
    show (gw_w cI cJ ad sg (k + 1) r).length + 1 = r.length + 1
    rw [gw_len r (k + 1)]
theorem gw_flen (f : Nat → Int32) : ∀ (fs : List (Option Nat)) (j : Nat), (gw_f ad f j fs).length = fs.length
  | [], j => rfl
  | o :: r, j => by
    show (gw_f ad f (j + 1) r).length + 1 = r.length + 1
    rw [gw_flen f r (j + 1)]
theorem gw_set {i : Nat} {q : gw_K} (h : S[i]? = some q) (f : Nat → Int32) : (gw cI cJ ad sg S).set i (ad i, gw_c cI cJ ad f q) = gw cI cJ ad (gw_u sg i f) S := by
  have hi : i < (gw cI cJ ad sg S).length := by
    show i < (gw_w cI cJ ad sg 0 S).length
    rw [gw_len]
    exact (List.getElem?_eq_some_iff.mp h).1
  apply List.ext_getElem?
  intro j
  by_cases hj : i = j
  · subst hj
    rw [List.getElem?_set_self hi, gw_at h, gw_u_s]
  · rw [List.getElem?_set_ne hj]
    show (gw_w cI cJ ad sg 0 S)[j]? = (gw_w cI cJ ad (gw_u sg i f) 0 S)[j]?
    rw [gw_wat, gw_wat, Nat.zero_add, gw_u_n sg f (Ne.symm hj)]
theorem gw_fset {f : Nat → Int32} {fs : List (Option Nat)} {k : Nat} {x : Int32} (h : fs[k]? = some none) : (gw_f ad f 0 fs).set k (.int x) = gw_f ad (upd f k x) 0 fs := by
  have hi : k < (gw_f ad f 0 fs).length := by
    rw [gw_flen]
    exact (List.getElem?_eq_some_iff.mp h).1
  apply List.ext_getElem?
  intro j
  by_cases hj : k = j
  · subst hj
    rw [List.getElem?_set_self hi, gw_fat, h, Nat.zero_add]
    simp [gw_v, upd]
  · rw [List.getElem?_set_ne hj, gw_fat, gw_fat, Nat.zero_add]
    cases ho : fs[j]? with
    | none => rfl
    | some o =>
      cases o with
      | none => simp [gw_v, upd, Ne.symm hj]
      | some t => rfl
/-- the addresses don't hang on the numbers -/
theorem gw_D {A : Nat → Prop} (sg2 : Nat → Nat → Int32) (h : va_D A (gw cI cJ ad sg S)) : va_D A (gw cI cJ ad sg2 S) := by
  refine ⟨fun i j p q hp hq e => ?_, fun k q hq => ?_⟩
  · obtain ⟨a, ha, rfl⟩ := gw_of hp
    obtain ⟨b, hb, rfl⟩ := gw_of hq
    exact h.1 i j _ _ (gw_at ha) (gw_at hb) e
  · obtain ⟨a, ha, rfl⟩ := gw_of hq
    exact h.2 k (ad k, gw_c cI cJ ad (sg k) a) (gw_at ha)
theorem gw_A {sz q : Nat} (sg2 : Nat → Nat → Int32) (h : va_A (gw cI cJ ad sg S) sz q) : va_A (gw cI cJ ad sg2 S) sz q := by
  rcases h with ⟨k, e, h⟩ | h
  · obtain ⟨a, ha, e1⟩ := gw_of h
    have e2 : q = ad k := congrArg Prod.fst e1
    subst e2
    exact Or.inl ⟨k, _, gw_at ha⟩
  · exact Or.inr h
end GWA
/-! rows of a method over such a world -/
section GWB
variable {p : Program} {l : Launch} {e : Env} {R : Room} {s : State} {m : MethodId} {args : Array Value} {below : List Frame} {meth : Method} {c : Code} {H : Heap} {locs : List Loc} {cells slots : Nat} {Q : State → Prop}
variable {cc : ByteArray} {pc : Nat} {ls : Array Slot} {rest : List Value} {D : va_G} {cl : List vw_C} {A : Nat → Prop} {tys : List (ClassId × FieldType)} {H0 : Heap}
variable {cI : ClassId} {cJ : ClassId × ClassId} {ad : Nat → Nat} {sg : Nat → Nat → Int32} {S : List gw_K}
/-- a field that is a cell -/
theorem gw_getr (hx : p.tables.exec = Jvm.exec) (hb : c.code = cc) {own ref C : String} {T : u_T} {N ci index : Nat} {Ts : List Cond} (hts : ∀ w ∈ Ts, w.before args s = true) (hin : ∀ w ∈ u_ws C T N, w ∈ Ts) (hown : s.vm.findClass own = some m.cls) (hK : va_K D cl tys s) (hP : va_P D cl (gw cI cJ ad sg S) H) (q0 k t : Nat) {fs : List (Option Nat)} (hq : S[q0]? = some (.inl (ci, fs))) (hf : fs[k]? = some (some t)) (hc : cl[ci]? = some (C, T, N)) (hk : k < N)
    (hlink : (Cond.fieldLink own index ref (T k).2.1 (T k).2.2.1).before args s = true) (hsame : ∀ x, s.fieldFound? (T k).1 (T k).2.1 (T k).2.2.1 = some x → s.fieldFound? ref (T k).2.1 (T k).2.2.1 = some x) (hdg : decode cc pc = .ok (.getfield index, 3))
    (kk : W p l e R s m args below meth c H locs cells slots Q (F0 m (pc + 3) ls (.ref (ad t) :: rest))) : W p l e R s m args below meth c H locs cells slots Q (F0 m pc ls (.ref (ad q0) :: rest)) :=
  va_get hx hb hts hin hown hK hP q0 (fs := gw_f ad (sg q0) 0 fs) (gw_at hq) hc k hk hlink hsame (v := .ref (ad t)) (by rw [gw_fat, hf]; rfl) hdg kk
/-- a field that is a number -/
theorem gw_geti (hx : p.tables.exec = Jvm.exec) (hb : c.code = cc) {own ref C : String} {T : u_T} {N ci index : Nat} {Ts : List Cond} (hts : ∀ w ∈ Ts, w.before args s = true) (hin : ∀ w ∈ u_ws C T N, w ∈ Ts) (hown : s.vm.findClass own = some m.cls) (hK : va_K D cl tys s) (hP : va_P D cl (gw cI cJ ad sg S) H) (q0 k : Nat) {fs : List (Option Nat)} (hq : S[q0]? = some (.inl (ci, fs))) (hf : fs[k]? = some none) (hc : cl[ci]? = some (C, T, N)) (hk : k < N)
    (hlink : (Cond.fieldLink own index ref (T k).2.1 (T k).2.2.1).before args s = true) (hsame : ∀ x, s.fieldFound? (T k).1 (T k).2.1 (T k).2.2.1 = some x → s.fieldFound? ref (T k).2.1 (T k).2.2.1 = some x) (hdg : decode cc pc = .ok (.getfield index, 3))
    (kk : W p l e R s m args below meth c H locs cells slots Q (F0 m (pc + 3) ls (.int (sg q0 k) :: rest))) : W p l e R s m args below meth c H locs cells slots Q (F0 m pc ls (.ref (ad q0) :: rest)) :=
  va_get hx hb hts hin hown hK hP q0 (fs := gw_f ad (sg q0) 0 fs) (gw_at hq) hc k hk hlink hsame (v := .int (sg q0 k)) (by rw [gw_fat, hf, Nat.zero_add]; rfl) hdg kk
/-- the same of a nest mate's field -/
theorem gw_getrN (hx : p.tables.exec = Jvm.exec) (hb : c.code = cc) {own ref C host : String} {T : u_T} {N ci index : Nat} {Ts : List Cond} (hts : ∀ w ∈ Ts, w.before args s = true) (hin : ∀ w ∈ u_ws C T N, w ∈ Ts) (hown : s.vm.findClass own = some m.cls) (hK : va_K D cl tys s) (hP : va_P D cl (gw cI cJ ad sg S) H) (q0 k t : Nat) {fs : List (Option Nat)} (hq : S[q0]? = some (.inl (ci, fs))) (hf : fs[k]? = some (some t)) (hc : cl[ci]? = some (C, T, N)) (hk : k < N)
    (hlink : (Cond.fieldLinkNest own index ref (T k).2.1 (T k).2.2.1 host).before args s = true) (hsame : ∀ x, s.fieldFound? (T k).1 (T k).2.1 (T k).2.2.1 = some x → s.fieldFound? ref (T k).2.1 (T k).2.2.1 = some x) (hdg : decode cc pc = .ok (.getfield index, 3))
    (kk : W p l e R s m args below meth c H locs cells slots Q (F0 m (pc + 3) ls (.ref (ad t) :: rest))) : W p l e R s m args below meth c H locs cells slots Q (F0 m pc ls (.ref (ad q0) :: rest)) :=
  va_getN hx hb hts hin hown hK hP q0 (fs := gw_f ad (sg q0) 0 fs) (gw_at hq) hc k hk hlink hsame (v := .ref (ad t)) (by rw [gw_fat, hf]; rfl) hdg kk
theorem gw_getiN (hx : p.tables.exec = Jvm.exec) (hb : c.code = cc) {own ref C host : String} {T : u_T} {N ci index : Nat} {Ts : List Cond} (hts : ∀ w ∈ Ts, w.before args s = true) (hin : ∀ w ∈ u_ws C T N, w ∈ Ts) (hown : s.vm.findClass own = some m.cls) (hK : va_K D cl tys s) (hP : va_P D cl (gw cI cJ ad sg S) H) (q0 k : Nat) {fs : List (Option Nat)} (hq : S[q0]? = some (.inl (ci, fs))) (hf : fs[k]? = some none) (hc : cl[ci]? = some (C, T, N)) (hk : k < N)
    (hlink : (Cond.fieldLinkNest own index ref (T k).2.1 (T k).2.2.1 host).before args s = true) (hsame : ∀ x, s.fieldFound? (T k).1 (T k).2.1 (T k).2.2.1 = some x → s.fieldFound? ref (T k).2.1 (T k).2.2.1 = some x) (hdg : decode cc pc = .ok (.getfield index, 3))
    (kk : W p l e R s m args below meth c H locs cells slots Q (F0 m (pc + 3) ls (.int (sg q0 k) :: rest))) : W p l e R s m args below meth c H locs cells slots Q (F0 m pc ls (.ref (ad q0) :: rest)) :=
  va_getN hx hb hts hin hown hK hP q0 (fs := gw_f ad (sg q0) 0 fs) (gw_at hq) hc k hk hlink hsame (v := .int (sg q0 k)) (by rw [gw_fat, hf, Nat.zero_add]; rfl) hdg kk
/-- a number into a field -/
theorem gw_put (hx : p.tables.exec = Jvm.exec) (hb : c.code = cc) {own ref C : String} {T : u_T} {N ci index : Nat} {Ts : List Cond} (hts : ∀ w ∈ Ts, w.before args s = true) (hin : ∀ w ∈ u_ws C T N, w ∈ Ts) (ty0 : Nat → FieldType) (hty : ∀ k, k < N → parseFieldDescriptor (T k).2.2.1 = some (ty0 k)) (hnm : ∀ a, a < N → ∀ b, b < N → a ≠ b → (T a).2.1 ≠ (T b).2.1) (hown : s.vm.findClass own = some m.cls) (hK : va_K D cl tys s) (hP : va_P D cl (gw cI cJ ad sg S) H) (hD : va_D A (gw cI cJ ad sg S)) (hS : va_S A H0 H locs) (q0 k : Nat) {fs : List (Option Nat)} (hq : S[q0]? = some (.inl (ci, fs))) (hf : fs[k]? = some none) (hc : cl[ci]? = some (C, T, N)) (hk : k < N)
    (hlink : (Cond.fieldLink own index ref (T k).2.1 (T k).2.2.1).before args s = true) (hsame : ∀ x, s.fieldFound? (T k).1 (T k).2.1 (T k).2.2.1 = some x → s.fieldFound? ref (T k).2.1 (T k).2.2.1 = some x) (hfin : (T k).2.2.2 = false) {ty : FieldType} {x : Int32} (hd : parseFieldDescriptor (T k).2.2.1 = some ty) (hn : narrow ty (.int x) = .int x) (hfit : fits ty (.int x) = true) (hdg : decode cc pc = .ok (.putfield index, 3))
    (kk : ∀ (H1 : Heap) (locs1 : List Loc), va_P D cl (gw cI cJ ad (gw_u sg q0 (upd (sg q0) k x)) S) H1 → va_D A (gw cI cJ ad (gw_u sg q0 (upd (sg q0) k x)) S) → va_S A H0 H1 locs1 → W p l e R s m args below meth c H1 locs1 cells slots Q (F0 m (pc + 3) ls rest)) : W p l e R s m args below meth c H locs cells slots Q (F0 m pc ls (.int x :: .ref (ad q0) :: rest)) := by
  have e1 : (gw cI cJ ad sg S).set q0 (ad q0, .inr (ci, (gw_f ad (sg q0) 0 fs).set k (.int x))) = gw cI cJ ad (gw_u sg q0 (upd (sg q0) k x)) S := by
    rw [gw_fset hf]
    exact gw_set hq _
  refine va_put hx hb hts hin ty0 hty hnm hown hK hP hD hS q0 (fs := gw_f ad (sg q0) 0 fs) (gw_at hq) hc k hk hlink hsame hfin hd hn hfit (by rw [gw_flen]; exact (List.getElem?_eq_some_iff.mp hf).1) hdg (fun H1 locs1 h1 h2 h3 => ?_)
  rw [e1] at h1 h2
  exact kk H1 locs1 h1 h2 h3
theorem gw_putN (hx : p.tables.exec = Jvm.exec) (hb : c.code = cc) {own ref C host : String} {T : u_T} {N ci index : Nat} {Ts : List Cond} (hts : ∀ w ∈ Ts, w.before args s = true) (hin : ∀ w ∈ u_ws C T N, w ∈ Ts) (ty0 : Nat → FieldType) (hty : ∀ k, k < N → parseFieldDescriptor (T k).2.2.1 = some (ty0 k)) (hnm : ∀ a, a < N → ∀ b, b < N → a ≠ b → (T a).2.1 ≠ (T b).2.1) (hown : s.vm.findClass own = some m.cls) (hK : va_K D cl tys s) (hP : va_P D cl (gw cI cJ ad sg S) H) (hD : va_D A (gw cI cJ ad sg S)) (hS : va_S A H0 H locs) (q0 k : Nat) {fs : List (Option Nat)} (hq : S[q0]? = some (.inl (ci, fs))) (hf : fs[k]? = some none) (hc : cl[ci]? = some (C, T, N)) (hk : k < N)
    (hlink : (Cond.fieldLinkNest own index ref (T k).2.1 (T k).2.2.1 host).before args s = true) (hsame : ∀ x, s.fieldFound? (T k).1 (T k).2.1 (T k).2.2.1 = some x → s.fieldFound? ref (T k).2.1 (T k).2.2.1 = some x) (hfin : (T k).2.2.2 = false) {ty : FieldType} {x : Int32} (hd : parseFieldDescriptor (T k).2.2.1 = some ty) (hn : narrow ty (.int x) = .int x) (hfit : fits ty (.int x) = true) (hdg : decode cc pc = .ok (.putfield index, 3))
    (kk : ∀ (H1 : Heap) (locs1 : List Loc), va_P D cl (gw cI cJ ad (gw_u sg q0 (upd (sg q0) k x)) S) H1 → va_D A (gw cI cJ ad (gw_u sg q0 (upd (sg q0) k x)) S) → va_S A H0 H1 locs1 → W p l e R s m args below meth c H1 locs1 cells slots Q (F0 m (pc + 3) ls rest)) : W p l e R s m args below meth c H locs cells slots Q (F0 m pc ls (.int x :: .ref (ad q0) :: rest)) := by
  have e1 : (gw cI cJ ad sg S).set q0 (ad q0, .inr (ci, (gw_f ad (sg q0) 0 fs).set k (.int x))) = gw cI cJ ad (gw_u sg q0 (upd (sg q0) k x)) S := by
    rw [gw_fset hf]
    exact gw_set hq _
  refine va_putN hx hb hts hin ty0 hty hnm hown hK hP hD hS q0 (fs := gw_f ad (sg q0) 0 fs) (gw_at hq) hc k hk hlink hsame hfin hd hn hfit (by rw [gw_flen]; exact (List.getElem?_eq_some_iff.mp hf).1) hdg (fun H1 locs1 h1 h2 h3 => ?_)
  rw [e1] at h1 h2
  exact kk H1 locs1 h1 h2 h3
/-- a number out of an array, into an array (the place is a natural number) -/
theorem gw_ald (hx : p.tables.exec = Jvm.exec) (hb : c.code = cc) (hK : va_K D cl tys s) (hP : va_P D cl (gw cI cJ ad sg S) H) (q0 t0 : Nat) {n : Nat} (hq : S[q0]? = some (.inr (n, none))) (ht : tys[t0]? = some (cI, .int)) {i : Nat} (hi : i < n) (hn : n < 2 ^ 31) (hdg : decode cc pc = .ok (.iaload, 1))
    (kk : W p l e R s m args below meth c H locs cells slots Q (F0 m (pc + 1) ls (.int (sg q0 i) :: rest))) : W p l e R s m args below meth c H locs cells slots Q (F0 m pc ls (.int (nI i) :: .ref (ad q0) :: rest)) := by
  refine va_iald hx hb hK hP q0 t0 (f := sg q0) (gw_at hq) ht (vp_in_nI hi hn) hdg ?_
  rw [nI_clamp (Nat.lt_trans hi hn)]
  exact kk
theorem gw_ast (hx : p.tables.exec = Jvm.exec) (hb : c.code = cc) (hK : va_K D cl tys s) (hP : va_P D cl (gw cI cJ ad sg S) H) (hD : va_D A (gw cI cJ ad sg S)) (hS : va_S A H0 H locs) (q0 t0 : Nat) {n : Nat} (hq : S[q0]? = some (.inr (n, none))) (ht : tys[t0]? = some (cI, .int)) {i : Nat} {x : Int32} (hi : i < n) (hn : n < 2 ^ 31) (hdg : decode cc pc = .ok (.iastore, 1))
    (kk : ∀ (H1 : Heap) (locs1 : List Loc), va_P D cl (gw cI cJ ad (gw_u sg q0 (upd (sg q0) i x)) S) H1 → va_D A (gw cI cJ ad (gw_u sg q0 (upd (sg q0) i x)) S) → va_S A H0 H1 locs1 → W p l e R s m args below meth c H1 locs1 cells slots Q (F0 m (pc + 1) ls rest)) : W p l e R s m args below meth c H locs cells slots Q (F0 m pc ls (.int x :: .int (nI i) :: .ref (ad q0) :: rest)) := by
  have e1 : (gw cI cJ ad sg S).set q0 (ad q0, .inl (cI, n, .inl (upd (sg q0) i x))) = gw cI cJ ad (gw_u sg q0 (upd (sg q0) i x)) S := gw_set hq _
  refine va_iast hx hb hK hP hD hS q0 t0 (f := sg q0) (gw_at hq) ht (vp_in_nI hi hn) hdg ?_
  rw [nI_clamp (Nat.lt_trans hi hn)]
  intro H1 locs1 h1 h2 h3
  rw [e1] at h1 h2
  exact kk H1 locs1 h1 h2 h3
/-- a row out of an array of rows -/
theorem gw_aald (hx : p.tables.exec = Jvm.exec) (hb : c.code = cc) (hK : va_K D cl tys s) (hP : va_P D cl (gw cI cJ ad sg S) H) (q0 t0 : Nat) {n b : Nat} {ty : FieldType} (hq : S[q0]? = some (.inr (n, some (some b)))) (ht : tys[t0]? = some (cJ.1, ty)) (hty : ty.isReference = true) {i : Nat} (hi : i < n) (hn : n < 2 ^ 31) (hdg : decode cc pc = .ok (.aaload, 1))
    (kk : W p l e R s m args below meth c H locs cells slots Q (F0 m (pc + 1) ls (.ref (ad (b + i)) :: rest))) : W p l e R s m args below meth c H locs cells slots Q (F0 m pc ls (.int (nI i) :: .ref (ad q0) :: rest)) := by
  have hin : vp_in (nI i) n := vp_in_nI hi hn
  have hlt : (nI i).toNatClampNeg < n := by rw [nI_clamp (Nat.lt_trans hi hn)]; exact hi
  have hv : va_rf (gw_g ad b n (nI i).toNatClampNeg) = .ref (ad (b + i)) := by rw [nI_clamp (Nat.lt_trans hi hn)]; simp [gw_g, hi, va_rf]
  exact W.aald (v := .ref (ad (b + i))) (ty := ty) hx hb (hP q0 _ (gw_at hq)) ((hK.2 t0 _ ht).1 n (fun j => va_rf (gw_g ad b n j))) hty (fun q => by cases q) (by show ¬ (nI i < 0 ∨ (arrV _ _ _).slots.size ≤ _); rw [arrV_size]; exact hin) (by show (arrV _ _ _).slots[_]? = _; rw [arrV_read _ _ hlt, hv]) rfl rfl hdg kk
/-- System.arraycopy of n numbers from the start of one array to the start of another -/
theorem gw_cpy (hx : p.tables.exec = Jvm.exec) (hb : c.code = cc) (hml : c.maxLocals = ls.size) {own : String} {index : Nat} (hown : s.vm.findClass own = some m.cls) (hlink : (Cond.methodLink own index arraycopyName).before args s = true) (hnat : (Cond.native arraycopyName).before args s = true) (hstat : (Cond.static arraycopyName).before args s = true) (hini : (Cond.initialized "java/lang/System").before args s = true)
    (hK : va_K D cl tys s) (hP : va_P D cl (gw cI cJ ad sg S) H) (hD : va_D A (gw cI cJ ad sg S)) (hS : va_S A H0 H locs) (q0 q1 t0 : Nat) {n n0 n1 : Nat} (h0 : S[q0]? = some (.inr (n0, none))) (h1 : S[q1]? = some (.inr (n1, none))) (ht : tys[t0]? = some (cI, .int)) (hn : n < 2 ^ 31) (hn0 : n ≤ n0) (hn1 : n ≤ n1)
    (hframes : 1 ≤ R.frames) (hlocals : (rest.map fun v => v.category).sum + (nativeFrameWords "java/lang/System" "arraycopy" 5 + 11) ≤ R.locals) (hdg : decode cc pc = .ok (.invokestatic index, 3))
    (kk : ∀ (H1 : Heap) (locs1 : List Loc), va_P D cl (gw cI cJ ad (gw_u sg q1 (va_cpy (sg q0) (sg q1) 0 0 n)) S) H1 → va_D A (gw cI cJ ad (gw_u sg q1 (va_cpy (sg q0) (sg q1) 0 0 n)) S) → va_S A H0 H1 locs1 → W p l e R s m args below meth c H1 locs1 cells slots Q (F0 m (pc + 3) ls rest)) :
    W p l e R s m args below meth c H locs cells slots Q (F0 m pc ls (.int (nI n) :: .int (nI 0) :: .ref (ad q1) :: .int (nI 0) :: .ref (ad q0) :: rest)) := by
  have z0 : (nI 0).toNatClampNeg = 0 := nI_clamp (by decide)
  have zn : (nI n).toNatClampNeg = n := nI_clamp hn
  have e1 : (gw cI cJ ad sg S).set q1 (ad q1, .inl (cI, n1, .inl (va_cpy (sg q0) (sg q1) 0 0 n))) = gw cI cJ ad (gw_u sg q1 (va_cpy (sg q0) (sg q1) 0 0 n)) S := gw_set h1 _
  refine va_copyi hx hb hml hown hlink hnat hstat hini hK hP hD hS q0 q1 t0 t0 (f := sg q0) (g := sg q1) (ty := .int) (gw_at h0) (gw_at h1) ht ht rfl (nI_pos (by decide)) (nI_pos (by decide)) (nI_pos hn) (by rw [z0, zn]; omega) (by rw [z0, zn]; omega) (fun _ _ => rfl) hframes hlocals hdg ?_
  rw [z0, zn]
  intro H1 locs1 g1 g2 g3
  rw [e1] at g1 g2
  exact kk H1 locs1 g1 g2 g3
/-- a long that was an int, out of an array and into it -/
theorem gw_lald (hx : p.tables.exec = Jvm.exec) (hb : c.code = cc) (hK : va_K D cl tys s) (hP : va_P D cl (gw cI cJ ad sg S) H) (q0 t0 : Nat) {n : Nat} (hq : S[q0]? = some (.inr (n, some none))) (ht : tys[t0]? = some (cJ.2, .long)) {i : Nat} (hi : i < n) (hn : n < 2 ^ 31) (hdg : decode cc pc = .ok (.laload, 1))
    (kk : W p l e R s m args below meth c H locs cells slots Q (F0 m (pc + 1) ls (.long (sg q0 i).toInt64 :: rest))) : W p l e R s m args below meth c H locs cells slots Q (F0 m pc ls (.int (nI i) :: .ref (ad q0) :: rest)) := by
  refine va_lald hx hb hK hP q0 t0 (f := fun i => (sg q0 i).toInt64) (gw_at hq) ht (vp_in_nI hi hn) hdg ?_
  rw [nI_clamp (Nat.lt_trans hi hn)]
  exact kk
theorem gw_last (hx : p.tables.exec = Jvm.exec) (hb : c.code = cc) (hK : va_K D cl tys s) (hP : va_P D cl (gw cI cJ ad sg S) H) (hD : va_D A (gw cI cJ ad sg S)) (hS : va_S A H0 H locs) (q0 t0 : Nat) {n : Nat} (hq : S[q0]? = some (.inr (n, some none))) (ht : tys[t0]? = some (cJ.2, .long)) {i : Nat} {x : Int32} (hi : i < n) (hn : n < 2 ^ 31) (hdg : decode cc pc = .ok (.lastore, 1))
    (kk : ∀ (H1 : Heap) (locs1 : List Loc), va_P D cl (gw cI cJ ad (gw_u sg q0 (upd (sg q0) i x)) S) H1 → va_D A (gw cI cJ ad (gw_u sg q0 (upd (sg q0) i x)) S) → va_S A H0 H1 locs1 → W p l e R s m args below meth c H1 locs1 cells slots Q (F0 m (pc + 1) ls rest)) : W p l e R s m args below meth c H locs cells slots Q (F0 m pc ls (.long x.toInt64 :: .int (nI i) :: .ref (ad q0) :: rest)) := by
  have e0 : vp_updL (fun i => (sg q0 i).toInt64) i x.toInt64 = fun j => (upd (sg q0) i x j).toInt64 := by
    funext j
    unfold vp_updL upd
    split <;> rfl
  have e1 : (gw cI cJ ad sg S).set q0 (ad q0, .inl (cJ.2, n, .inr (.inl (fun j => (upd (sg q0) i x j).toInt64)))) = gw cI cJ ad (gw_u sg q0 (upd (sg q0) i x)) S := gw_set hq _
  refine va_last hx hb hK hP hD hS q0 t0 (f := fun i => (sg q0 i).toInt64) (gw_at hq) ht (vp_in_nI hi hn) hdg ?_
  rw [nI_clamp (Nat.lt_trans hi hn), e0]
  intro H1 locs1 h1 h2 h3
  rw [e1] at h1 h2
  exact kk H1 locs1 h1 h2 h3
end GWB
/-! a callee's world within the caller's: its cell j is the caller's cell 'pl j' -/
def gw_p (pl : List Nat) (j : Nat) : Nat := pl.getD j 0
def gw_ok (pl : List Nat) : gw_K → gw_K → Bool
  | .inl q, .inl q' => q.1 == q'.1 && q'.2 == q.2.map (fun o => o.map (gw_p pl))
  | .inr (n, none), .inr (n', none) => n == n'
  | .inr (n, some (some b)), .inr (n', some (some b')) => n == n' && (List.range n).all (fun i => gw_p pl (b + i) == b' + i)
  | .inr (n, some none), .inr (n', some none) => n == n'
  | _, _ => false
def gw_has (pl : List Nat) (S : List gw_K) (j : Nat) : gw_K → Bool := fun q => match S[gw_p pl j]? with
  | some q' => gw_ok pl q q'
  | none => false
def gw_em (pl : List Nat) (S : List gw_K) : Nat → List gw_K → Bool
  | _, [] => true
  | j, q :: r => gw_has pl S j q && gw_em pl S (j + 1) r
/-- S2 lies in S by the places pl -/
def gw_in (pl : List Nat) (S S2 : List gw_K) : Bool := pl.length == S2.length && va_nd pl && gw_em pl S 0 S2
section GWC
variable {cI : ClassId} {cJ : ClassId × ClassId} {ad : Nat → Nat} {sg : Nat → Nat → Int32} {S S2 : List gw_K} {pl : List Nat}
theorem gw_emat : ∀ (S2 : List gw_K) (k j : Nat) (q : gw_K), gw_em pl S k S2 = true → S2[j]? = some q → ∃ q', S[gw_p pl (k + j)]? = some q' ∧ gw_ok pl q q' = true
  | [], k, j, q, _, h => by simp at h
  | o :: r, k, 0, q, he, h => by
    simp only [gw_em, Bool.and_eq_true] at he
    have e1 : o = q := by simpa using h
    subst e1
    have h1 := he.1
    unfold gw_has at h1
    cases hs : S[gw_p pl k]? with
    | none => rw [hs] at h1; cases h1
    | some q' => rw [hs] at h1; exact ⟨q', by simpa using hs, h1⟩
  | o :: r, k, j + 1, q, he, h => by
    simp only [gw_em, Bool.and_eq_true] at he
    obtain ⟨q', h1, h2⟩ := gw_emat r (k + 1) j q he.2 (by simpa using h)
    exact ⟨q', by rw [show k + (j + 1) = k + 1 + j by omega]; exact h1, h2⟩
theorem gw_fren (f : Nat → Int32) : ∀ (fs : List (Option Nat)) (j : Nat), gw_f ad f j (fs.map (fun o => o.map (gw_p pl))) = gw_f (fun j => ad (gw_p pl j)) f j fs
  | [], j => rfl
  | o :: r, j => by
    show gw_v ad f j (o.map (gw_p pl)) :: gw_f ad f (j + 1) (r.map (fun o => o.map (gw_p pl))) = gw_v (fun j => ad (gw_p pl j)) f j o :: gw_f (fun j => ad (gw_p pl j)) f (j + 1) r
    rw [gw_fren f r (j + 1)]
    cases o <;> rfl
theorem gw_cren (f : Nat → Int32) {q q' : gw_K} (h : gw_ok pl q q' = true) : gw_c cI cJ ad f q' = gw_c cI cJ (fun j => ad (gw_p pl j)) f q := by
  rcases q with ⟨ci, fs⟩ | ⟨n, _ | _ | b⟩ <;> rcases q' with ⟨ci', fs'⟩ | ⟨n', _ | _ | b'⟩ <;> simp only [gw_ok, Bool.and_eq_true, beq_iff_eq] at h <;> (try cases h)
  · rename_i h1 h2
    subst h1; subst h2
    exact congrArg (fun z => Sum.inr (ci, z)) (gw_fren f fs 0)
  · rfl
  · rfl
  · rename_i h1 h2
    subst h1
    have e1 : gw_g ad b' n = gw_g (fun j => ad (gw_p pl j)) b n := by
      funext i
      unfold gw_g
      have h4 : (List.range n).map (fun j => ad (b' + j)) = (List.range n).map (fun j => ad (gw_p pl (b + j))) := List.map_congr_left (fun j hj => by
        have h3 := List.all_eq_true.mp h2 j hj
        simp only [beq_iff_eq] at h3
        rw [h3])
      rw [h4]
    show (Sum.inl (cJ.1, n, .inr (.inr (.inr (.inr (gw_g ad b' n))))) : va_E) = Sum.inl (cJ.1, n, .inr (.inr (.inr (.inr (gw_g (fun j => ad (gw_p pl j)) b n)))))
    rw [e1]
theorem gw_pat {j : Nat} (h : j < pl.length) : pl[j]? = some (gw_p pl j) := by
  unfold gw_p
  rw [List.getElem?_eq_getElem h, List.getD_eq_getElem?_getD, List.getElem?_eq_getElem h]
  rfl
/-- the callee's cells are those of the caller at the places pl -/
theorem gw_pick (h : gw_in pl S S2 = true) : pl.map (fun i => (gw cI cJ ad sg S)[i]?) = (gw cI cJ (fun j => ad (gw_p pl j)) (fun j => sg (gw_p pl j)) S2).map some := by
  simp only [gw_in, Bool.and_eq_true, beq_iff_eq] at h
  obtain ⟨⟨hl, -⟩, he⟩ := h
  apply List.ext_getElem?
  intro j
  rw [List.getElem?_map, List.getElem?_map]
  by_cases hj : j < pl.length
  · obtain ⟨q, hq⟩ : ∃ q, S2[j]? = some q := ⟨S2[j]'(by omega), List.getElem?_eq_getElem (by omega)⟩
    obtain ⟨q', h1, h2⟩ := gw_emat S2 0 j q he hq
    rw [Nat.zero_add] at h1
    rw [gw_pat hj, gw_at hq]
    show some ((gw cI cJ ad sg S)[gw_p pl j]?) = some (some _)
    rw [gw_at h1, gw_cren _ h2]
  · have e1 : pl[j]? = none := List.getElem?_eq_none (by omega)
    have e2 : (gw cI cJ (fun j => ad (gw_p pl j)) (fun j => sg (gw_p pl j)) S2)[j]? = none := by
      apply List.getElem?_eq_none
      show (gw_w _ _ _ _ 0 S2).length ≤ j
      rw [gw_len]; omega
    rw [e1, e2]
    rfl
/-- the callee's world holds -/
theorem gw_sub {D : va_G} {cl : List vw_C} {H : Heap} (h : gw_in pl S S2 = true) (hP : va_P D cl (gw cI cJ ad sg S) H) : va_P D cl (gw cI cJ (fun j => ad (gw_p pl j)) (fun j => sg (gw_p pl j)) S2) H := by
  intro k x hx
  have h1 : (pl.map (fun i => (gw cI cJ ad sg S)[i]?))[k]? = some (some x) := by rw [gw_pick h, List.getElem?_map, hx]; rfl
  rw [List.getElem?_map] at h1
  cases hi : pl[k]? with
  | none => rw [hi] at h1; cases h1
  | some i => rw [hi] at h1; exact hP i x (Option.some.inj h1)
/-- behind a call: the callee's numbers at its places, the others as they were -/
theorem gw_back {D : va_G} {cl : List vw_C} {A : Nat → Prop} {H H1 : Heap} {sg1 : Nat → Nat → Int32} (h : gw_in pl S S2 = true) (hP : va_P D cl (gw cI cJ ad sg S) H) (hD : va_D A (gw cI cJ ad sg S))
    (hk : ∀ q : Nat, q < H.size → ¬ va_A (gw cI cJ (fun j => ad (gw_p pl j)) (fun j => sg (gw_p pl j)) S2) H.size q → H1[q]? = H[q]?) (hP1 : va_P D cl (gw cI cJ (fun j => ad (gw_p pl j)) sg1 S2) H1) :
    ∃ sg2 : Nat → Nat → Int32, (∀ j, j < S2.length → sg2 (gw_p pl j) = sg1 j) ∧ (∀ k, k ∉ pl → sg2 k = sg k) ∧ va_P D cl (gw cI cJ ad sg2 S) H1 ∧ va_D A (gw cI cJ ad sg2 S) := by
  have h0 := h
  simp only [gw_in, Bool.and_eq_true, beq_iff_eq] at h
  obtain ⟨⟨hl, hnd⟩, he⟩ := h
  refine ⟨fun k => if k ∈ pl then sg1 (pl.idxOf k) else sg k, ?_, ?_, ?_, gw_D _ hD⟩
  · intro j hj
    have h1 := gw_pat (pl := pl) (j := j) (by omega)
    have h2 : gw_p pl j ∈ pl := List.mem_of_getElem? h1
    have h3 : pl[pl.idxOf (gw_p pl j)]? = some (gw_p pl j) := by
      have h4 := List.idxOf_lt_length_of_mem h2
      rw [List.getElem?_eq_getElem h4, List.getElem_idxOf h4]
    show (if gw_p pl j ∈ pl then _ else _) = _
    rw [if_pos h2, va_nd_inj pl hnd _ j _ h3 h1]
  · intro k hk2
    show (if k ∈ pl then _ else _) = _
    rw [if_neg hk2]
  · intro k x hx
    obtain ⟨q, hq, rfl⟩ := gw_of hx
    by_cases hm : k ∈ pl
    · obtain ⟨j, hj⟩ := List.getElem?_of_mem hm
      have hj2 : j < pl.length := (List.getElem?_eq_some_iff.mp hj).1
      have hjk : gw_p pl j = k := Option.some.inj ((gw_pat hj2).symm.trans hj)
      obtain ⟨q2, hq2⟩ : ∃ q2, S2[j]? = some q2 := ⟨S2[j]'(by omega), List.getElem?_eq_getElem (by omega)⟩
      obtain ⟨q', h1, h2⟩ := gw_emat S2 0 j q2 he hq2
      rw [Nat.zero_add, hjk, hq] at h1
      cases Option.some.inj h1
      have h3 : pl[pl.idxOf k]? = some k := by
        have h4 := List.idxOf_lt_length_of_mem hm
        rw [List.getElem?_eq_getElem h4, List.getElem_idxOf h4]
      have h5 := va_nd_inj pl hnd _ j _ h3 hj
      have h6 := hP1 j _ (gw_at hq2)
      rw [← gw_cren (sg1 j) h2] at h6
      show va_at D cl (ad k, gw_c cI cJ ad (if k ∈ pl then sg1 (pl.idxOf k) else sg k) q) H1
      rw [if_pos hm, h5, ← hjk]
      rw [hjk] at h6 ⊢
      simpa [hjk] using h6
    · show va_at D cl (ad k, gw_c cI cJ ad (if k ∈ pl then sg1 (pl.idxOf k) else sg k) q) H1
      rw [if_neg hm]
      have h1 := hP k _ (gw_at hq)
      refine h1.kept (hk _ h1.lt (fun hA => ?_))
      rcases hA with ⟨j, e, hj⟩ | hj
      · obtain ⟨q2, hq2, e2⟩ := gw_of hj
        have e3 : ad k = ad (gw_p pl j) := congrArg Prod.fst e2
        obtain ⟨q', h2, -⟩ := gw_emat S2 0 j q2 he hq2
        rw [Nat.zero_add] at h2
        have e4 := hD.1 k (gw_p pl j) _ _ (gw_at hq) (gw_at h2) e3
        have hj2 : j < pl.length := by rw [hl]; exact (List.getElem?_eq_some_iff.mp hq2).1
        exact hm (by rw [e4]; exact List.mem_of_getElem? (gw_pat hj2))
      · have := h1.lt
        exact absurd hj (Nat.not_le.mpr this)
end GWC
end
section
/-! CONTRACTS OVER A SCHEMA'S WORLD (gw). 'post' speaks of the answer and of the numbers behind the call; 'pt' of the class of what is thrown and of the numbers then. -/
/-- what goes with every contract: the statics that the makers of exceptions read, the texts, the links of nest mates -/
def gc_nk (w : Cond) : Bool := match w with
  | .fieldLinkNest .. => true
  | .methodLinkNest .. => true
  | .castable .. => true
  | .declares .. => true
  | _ => false
theorem gc_nk_warm {w : Cond} {s U : State} (h : gc_nk w = true) (hW : s.WarmedH U.vm) (hz : va_Nw w s) : va_Nw w U := by
  unfold gc_nk at h
  split at h
  · exact va_Nw.warmF hW hz
  · exact va_Nw.warmM hW hz
  · exact va_Nw.warmC hW hz
  · exact va_Nw.warmD hW hz
  · cases h
def gxC : List (String × String) := [("java/lang/IllegalArgumentException", "java/lang/IndexOutOfBoundsException"), ("java/lang/IllegalStateException", "java/lang/IndexOutOfBoundsException"), ("java/lang/IllegalStateException", "java/lang/IllegalArgumentException")]
def gc_ex (txs : List (String × Nat × String)) (nws : List Cond) (A : Nat → Prop) (U : State) (H : Heap) : Prop :=
  vx_Zq "java/lang/Throwable" "UNASSIGNED_STACK" "[Ljava/lang/StackTraceElement;" A U H ∧ vx_Zq "java/lang/Throwable" "SUPPRESSED_SENTINEL" "Ljava/util/List;" A U H ∧ (∀ q ∈ txs, ∃ a : Nat, vk_R q.1 q.2.1 q.2.2 a U) ∧ (∀ w ∈ nws, gc_nk w = true ∧ va_Nw w U) ∧ ∀ q ∈ gxC, va_Nc q.1 q.2 U
theorem gc_ex.next {txs : List (String × Nat × String)} {nws : List Cond} {A B : Nat → Prop} {u U : State} {H H1 : Heap} (h : gc_ex txs nws A u H) (hW : u.WarmedH U.vm) (hk : ∀ a : Nat, a < H.size → ¬ A a → H1[a]? = H[a]?) (hAB : ∀ q, B q → A q) : gc_ex txs nws B U H1 :=
  ⟨((h.1.moved hW.alike).kept hk).narrow hAB, ((h.2.1.moved hW.alike).kept hk).narrow hAB, fun q hq => by
    obtain ⟨a, ha⟩ := h.2.2.1 q hq
    exact ⟨a, ha.warm hW⟩, fun w hw => ⟨(h.2.2.2.1 w hw).1, gc_nk_warm (h.2.2.2.1 w hw).1 hW (h.2.2.2.1 w hw).2⟩, fun q hq => (h.2.2.2.2 q hq).moved hW.alike⟩
theorem gc_ex.nest {txs : List (String × Nat × String)} {nws : List Cond} {A : Nat → Prop} {U : State} {H : Heap} (h : gc_ex txs nws A U H) (args : Array Value) (w : Cond) (hw : w ∈ nws) (ht : w.onTables = true) : w.before args U = true := va_Nw.use ht (h.2.2.2.1 w hw).2
def gc_pre (D : va_G) (cl : List vw_C) (tys : List (ClassId × FieldType)) (cI : ClassId) (cJ : ClassId × ClassId) (txs : List (String × Nat × String)) (nws : List Cond) (ad : Nat → Nat) (S : List gw_K) (sg : Nat → Nat → Int32) (sz : Nat) (U : State) : Prop :=
  U.heap.size = sz ∧ va_P D cl (gw cI cJ ad sg S) U.heap ∧ va_K D cl tys U ∧ va_D (fun _ => True) (gw cI cJ ad sg S) ∧ gc_ex txs nws (va_A (gw cI cJ ad sg S) sz) U U.heap
def gc_end (D : va_G) (cl : List vw_C) (tys : List (ClassId × FieldType)) (cI : ClassId) (cJ : ClassId × ClassId) (ad : Nat → Nat) (S : List gw_K) (sg2 : Nat → Nat → Int32) (t : State) : Prop :=
  va_P D cl (gw cI cJ ad sg2 S) t.heap ∧ va_K D cl tys t
/-- the two ends, as a method over the world (ad, S), begun with sg at size sz, has them -/
abbrev gc_R (D : va_G) (cl : List vw_C) (tys : List (ClassId × FieldType)) (cI : ClassId) (cJ : ClassId × ClassId) (ad : Nat → Nat) (S : List gw_K) (sg : Nat → Nat → Int32) (sz : Nat) (post : Option Value → (Nat → Nat → Int32) → Prop) : State → Option Value → State → Prop := fun st v t =>
  (∃ sg2 : Nat → Nat → Int32, post v sg2 ∧ gc_end D cl tys cI cJ ad S sg2 t) ∧ va_F (va_A (gw cI cJ ad sg S) sz) st t
abbrev gc_X (D : va_G) (cl : List vw_C) (tys : List (ClassId × FieldType)) (cI : ClassId) (cJ : ClassId × ClassId) (ad : Nat → Nat) (S : List gw_K) (sg : Nat → Nat → Int32) (sz : Nat) (pt : String → (Nat → Nat → Int32) → Prop) : String → State → State → Prop := fun E st t =>
  (∃ sg2 : Nat → Nat → Int32, pt E sg2 ∧ gc_end D cl tys cI cJ ad S sg2 t) ∧ va_F (va_A (gw cI cJ ad sg S) sz) st t
/-- a method that returns -/
abbrev gc_M (l : Launch) (y : MethodName) (ws : List Cond) (rm : Room) (D : va_G) (cl : List vw_C) (tys : List (ClassId × FieldType)) (cI : ClassId) (cJ : ClassId × ClassId) (txs : List (String × Nat × String)) (nws : List Cond) (S : List gw_K) (av : List Value) (ad : Nat → Nat) (sg : Nat → Nat → Int32) (sz mc ms : Nat) (post : Option Value → (Nat → Nat → Int32) → Prop) : Prop :=
  Met l y ws rm (va_Pc av (gc_pre D cl tys cI cJ txs nws ad S sg sz)) (fun _ st o t => ∃ v, o = .returned v ∧ gc_R D cl tys cI cJ ad S sg sz post st v t) mc ms (va_A (gw cI cJ ad sg S) sz)
/-- a method that returns or throws -/
abbrev gc_B (l : Launch) (y : MethodName) (ws : List Cond) (rm : Room) (D : va_G) (cl : List vw_C) (tys : List (ClassId × FieldType)) (cI : ClassId) (cJ : ClassId × ClassId) (txs : List (String × Nat × String)) (nws : List Cond) (S : List gw_K) (av : List Value) (ad : Nat → Nat) (sg : Nat → Nat → Int32) (sz mc ms : Nat) (post : Option Value → (Nat → Nat → Int32) → Prop) (pt : String → (Nat → Nat → Int32) → Prop) : Prop :=
  vx_Met l y ws rm (va_Pc av (gc_pre D cl tys cI cJ txs nws ad S sg sz)) (fun _ st o t => ∃ v, o = .returned v ∧ gc_R D cl tys cI cJ ad S sg sz post st v t) (gc_X D cl tys cI cJ ad S sg sz pt) mc ms (va_A (gw cI cJ ad sg S) sz)
/-- what a body is given -/
def gc_In (p : Program) (s : State) (m : MethodId) (meth : Method) (c : Code) (cc : ByteArray) (maxL : Nat) (ret : Option FieldType) (av : List Value) (ws : List Cond) (y : MethodName) (D : va_G) (cl : List vw_C) (tys : List (ClassId × FieldType)) (w : va_W) (A : Nat → Prop) (ls : Array Slot) : Prop :=
  CallFix p m c cc maxL s av.toArray ws y.cls ∧ meth.sig.returnType = ret ∧ meth.locks = false ∧ meth.name = y.name ∧ (∀ q : Nat, s.heap.size ≤ q → A q) ∧ va_P D cl w s.heap ∧ va_K D cl tys s ∧ va_D A w ∧ va_S A s.heap s.heap [] ∧ lv_has ls maxL (lv_args 0 av)
section GCA
variable {l : Launch} {y : MethodName} {ws ws' : List Cond} {rm : Room} {D : va_G} {cl : List vw_C} {tys : List (ClassId × FieldType)} {cI : ClassId} {cJ : ClassId × ClassId} {S : List gw_K} {txs : List (String × Nat × String)} {nws : List Cond} {av : List Value} {ad : Nat → Nat} {sg : Nat → Nat → Int32} {sz mc ms : Nat} {post : Option Value → (Nat → Nat → Int32) → Prop} {pt : String → (Nat → Nat → Int32) → Prop} {cc : ByteArray} {maxL : Nat} {ret : Option FieldType}
theorem gc_blind : FrameBlind (va_Pc av (gc_pre D cl tys cI cJ txs nws ad S sg sz)) := fun a U g mk q => by
  obtain ⟨q0, q1, qP, qK, qD, qE⟩ := q
  exact ⟨q0, q1, qP, va_K.moved (u := U) (U := U.calling g mk a) (Vm.Alike.refl U.vm) qK, qD, qE.next (U := U.calling g mk a) (State.WarmedH.refl U) (fun _ _ _ => rfl) (fun _ h => h)⟩
theorem gc_M_of (hy : plainName y.cls = true) (hw : ws = Cond.code y cc maxL ret :: ws') (hn : (lg_sl av).length ≤ maxL)
    (body : ∀ p e s m below meth c A ls, gc_In p s m meth c cc maxL ret av ws y D cl tys (gw cI cJ ad sg S) A ls → gc_ex txs nws A s s.heap → A = va_A (gw cI cJ ad sg S) sz → s.heap.size = sz →
      W p l e rm s m av.toArray below meth c s.heap [] 0 0 (MQ below (fun _ st o t => ∃ v, o = .returned v ∧ gc_R D cl tys cI cJ ad S sg sz post st v t) av.toArray s mc ms (va_A (gw cI cJ ad sg S) sz)) (F0 m 0 ls [])) :
    gc_M l y ws rm D cl tys cI cJ txs nws S av ad sg sz mc ms post := by
  refine Met.ofW (cc := cc) (maxL := maxL) (ret := ret) hy hw ?_
  intro p e s m args below meth c s₁ B hml hv
  obtain ⟨rfl, hsz, hP, hK, hD0, hE⟩ := hv
  have hts := atoms_spec (ws := ws) B.pre
  have hl := lv_entry av (n := maxL) hn
  rw [lg_entry_eq]
  refine body p e s m below meth c (va_A (gw cI cJ ad sg S) sz) _ ⟨⟨B.exec, B.bytes, hml, findClass_of_methodNamed B.named, hts⟩, B.returns, B.notSynchronized, (name_of_methodNamed B.named B.method).1, ?_, hP, hK, hD0.self, va_S.rf, hl⟩ hE rfl hsz
  intro q h
  exact Or.inr (by rw [← hsz]; exact h)
theorem gc_B_of (hy : plainName y.cls = true) (hw : ws = Cond.code y cc maxL ret :: ws') (hn : (lg_sl av).length ≤ maxL)
    (body : ∀ p e s m below meth c A ls, gc_In p s m meth c cc maxL ret av ws y D cl tys (gw cI cJ ad sg S) A ls → (∀ x ∈ c.exceptionTable.toList, False) → gc_ex txs nws A s s.heap → A = va_A (gw cI cJ ad sg S) sz → s.heap.size = sz →
      W p l e rm s m av.toArray below meth c s.heap [] 0 0 (vx_MQ below (fun _ st o t => ∃ v, o = .returned v ∧ gc_R D cl tys cI cJ ad S sg sz post st v t) (gc_X D cl tys cI cJ ad S sg sz pt) av.toArray s mc ms (va_A (gw cI cJ ad sg S) sz)) (F0 m 0 ls [])) :
    gc_B l y ws rm D cl tys cI cJ txs nws S av ad sg sz mc ms post pt := by
  refine vx_ofW (cc := cc) (maxL := maxL) (ret := ret) hy hw ?_
  intro p e s m args below meth c s₁ B hml hnh hv
  obtain ⟨rfl, hsz, hP, hK, hD0, hE⟩ := hv
  have hts := atoms_spec (ws := ws) B.pre
  have hl := lv_entry av (n := maxL) hn
  rw [lg_entry_eq]
  refine body p e s m below meth c (va_A (gw cI cJ ad sg S) sz) _ ⟨⟨B.exec, B.bytes, hml, findClass_of_methodNamed B.named, hts⟩, B.returns, B.notSynchronized, (name_of_methodNamed B.named B.method).1, ?_, hP, hK, hD0.self, va_S.rf, hl⟩ hnh hE rfl hsz
  intro q h
  exact Or.inr (by rw [← hsz]; exact h)
/-- a method with a table of handlers, that returns -/
theorem gc_W_of {hh : List (Nat × Nat × Nat × Nat)} (hy : plainName y.cls = true) (hw : ws = Cond.codeWith y cc maxL ret hh :: ws') (hn : (lg_sl av).length ≤ maxL)
    (body : ∀ p e s m below meth c A ls, gc_In p s m meth c cc maxL ret av ws y D cl tys (gw cI cJ ad sg S) A ls → c.exceptionTable.toList = tableOf hh → gc_ex txs nws A s s.heap → A = va_A (gw cI cJ ad sg S) sz → s.heap.size = sz →
      W p l e rm s m av.toArray below meth c s.heap [] 0 0 (MQ below (fun _ st o t => ∃ v, o = .returned v ∧ gc_R D cl tys cI cJ ad S sg sz post st v t) av.toArray s mc ms (va_A (gw cI cJ ad sg S) sz)) (F0 m 0 ls [])) :
    gc_M l y ws rm D cl tys cI cJ txs nws S av ad sg sz mc ms post := by
  refine va_MetW (cc := cc) (maxL := maxL) (ret := ret) (hh := hh) hy hw ?_
  intro p e s m args below meth c s₁ B hml hv
  obtain ⟨rfl, hsz, hP, hK, hD0, hE⟩ := hv
  have hts := atoms_spec (ws := ws) B.pre
  have htab := vx_table (x := y) B (hts _ (by rw [hw]; exact List.mem_cons_self))
  have hl := lv_entry av (n := maxL) hn
  rw [lg_entry_eq]
  refine body p e s m below meth c (va_A (gw cI cJ ad sg S) sz) _ ⟨⟨B.exec, B.bytes, hml, findClass_of_methodNamed B.named, hts⟩, B.returns, B.notSynchronized, (name_of_methodNamed B.named B.method).1, ?_, hP, hK, hD0.self, va_S.rf, hl⟩ htab hE rfl hsz
  intro q h
  exact Or.inr (by rw [← hsz]; exact h)
end GCA
section GCB
variable {p : Program} {l : Launch} {e : Env} {R : Room} {s : State} {m : MethodId} {args : Array Value} {below : List Frame} {meth : Method} {c : Code} {H : Heap} {locs : List Loc} {cells slots : Nat} {Q : State → Prop}
variable {cc : ByteArray} {pc : Nat} {ls : Array Slot} {rest st0 : List Value} {D : va_G} {cl : List vw_C} {A : Nat → Prop} {tys : List (ClassId × FieldType)} {cI : ClassId} {cJ : ClassId × ClassId} {ad : Nat → Nat} {sg : Nat → Nat → Int32} {S S2 : List gw_K} {pl : List Nat} {sz mc ms : Nat} {post : Option Value → (Nat → Nat → Int32) → Prop} {pt : String → (Nat → Nat → Int32) → Prop} {txs : List (String × Nat × String)} {nws : List Cond} {As : List Value} {C : String}
theorem gc_free0 (hD : va_D A (gw cI cJ ad sg S)) (hS : va_S A s.heap H locs) (hA : ∀ q : Nat, s.heap.size ≤ q → A q) : ∀ q, va_A (gw cI cJ ad sg S) H.size q → A q := by
  intro q h
  rcases h with ⟨k, e, h⟩ | h
  · exact hD.2 k (q, e) h
  · exact hA q (Nat.le_trans hS.1 h)
/-- the callee's start at the call: static (and constructors), virtual -/
theorem gc_preS (hK : va_K D cl tys s) (hP : va_P D cl (gw cI cJ ad sg S) H) (hD : va_D A (gw cI cJ ad sg S)) (hS : va_S A s.heap H locs) (hA : ∀ q : Nat, s.heap.size ≤ q → A q) (hE : gc_ex txs nws A s s.heap) (hin : gw_in pl S S2 = true) :
    PreS s H (va_Pc As (gc_pre D cl tys cI cJ txs nws (fun j => ad (gw_p pl j)) S2 (fun j => sg (gw_p pl j)) H.size)) As := by
  have hnd : va_nd pl = true := by
    simp only [gw_in, Bool.and_eq_true] at hin
    exact hin.1.2
  have hF := va_free (wc := gw cI cJ (fun j => ad (gw_p pl j)) (fun j => sg (gw_p pl j)) S2) hD hS hA pl (gw_pick hin)
  refine ⟨gc_blind, fun U hU hW => ⟨rfl, by rw [hU], by rw [hU]; exact gw_sub hin hP, va_K.moved hW.alike hK, (hD.sub pl hnd (gw_pick hin)).weaken (fun _ _ _ _ => trivial), hE.next hW (fun a h1 h2 => ?_) hF⟩⟩
  rw [hU]
  exact hS.2.1 a h1 h2
theorem gc_preV (hK : va_K D cl tys s) (hP : va_P D cl (gw cI cJ ad sg S) H) (hD : va_D A (gw cI cJ ad sg S)) (hS : va_S A s.heap H locs) (hA : ∀ q : Nat, s.heap.size ≤ q → A q) (hE : gc_ex txs nws A s s.heap) (hin : gw_in pl S S2 = true) {q0 ci : Nat} {q : vw_C} {fs : List (Option Nat)} (hc : cl[ci]? = some q) (hq : q.1 = C) (he : S[q0]? = some (.inl (ci, fs))) :
    PreV s H C (ad q0) (va_Pc (.ref (ad q0) :: As) (gc_pre D cl tys cI cJ txs nws (fun j => ad (gw_p pl j)) S2 (fun j => sg (gw_p pl j)) H.size)) As := by
  subst hq
  have h := gc_preS (As := .ref (ad q0) :: As) hK hP hD hS hA hE hin
  exact ⟨h.1, va_recv (fs := gw_f ad (sg q0) 0 fs) hK hP hc (gw_at he), h.2⟩
/-- behind a call that returns -/
theorem gc_go (hr : va_Run p l e R s m args below meth c H locs cells slots mc ms (F0 m pc ls st0) rest (fun st o t => ∃ v, o = .returned v ∧ gc_R D cl tys cI cJ (fun j => ad (gw_p pl j)) S2 (fun j => sg (gw_p pl j)) H.size post st v t) (va_A (gw cI cJ (fun j => ad (gw_p pl j)) (fun j => sg (gw_p pl j)) S2) H.size))
    (hP : va_P D cl (gw cI cJ ad sg S) H) (hD : va_D A (gw cI cJ ad sg S)) (hS : va_S A s.heap H locs) (hA : ∀ q : Nat, s.heap.size ≤ q → A q) (hin : gw_in pl S S2 = true)
    (kk : ∀ (v : Option Value) (sg1 sg2 : Nat → Nat → Int32) (H1 : Heap) (locs1 : List Loc), post v sg1 → (∀ j, j < S2.length → sg2 (gw_p pl j) = sg1 j) → (∀ k, k ∉ pl → sg2 k = sg k) → va_P D cl (gw cI cJ ad sg2 S) H1 → va_D A (gw cI cJ ad sg2 S) → va_S A s.heap H1 locs1 →
      W p l e R s m args below meth c H1 locs1 (cells + mc) (slots + ms) Q (F0 m (pc + 3) ls (v.toList ++ rest))) : W p l e R s m args below meth c H locs cells slots Q (F0 m pc ls st0) := by
  have hF := va_free (wc := gw cI cJ (fun j => ad (gw_p pl j)) (fun j => sg (gw_p pl j)) S2) hD hS hA pl (gw_pick hin)
  intro T hT X
  obtain ⟨v, st₀, t, T', L, h0, X', hL, e1, e2, ⟨v2, hv, ⟨sg1, hp, hP1, -⟩, hz, hk⟩, st⟩ := hr T hT X
  cases hv
  rw [h0] at hz hk
  rw [← e1] at hz hk hP1
  obtain ⟨sg2, g1, g2, g3, g4⟩ := gw_back hin hP hD hk hP1
  obtain ⟨t2, a1, b1⟩ := kk v sg1 sg2 T'.heap (locs ++ L) hp g1 g2 g3 g4
    ⟨Nat.le_trans hS.1 hz, fun q h1 h2 => by rw [hk q (Nat.lt_of_lt_of_le h1 hS.1) (fun z => h2 (hF q z))]; exact hS.2.1 q h1 h2, fun q hq => by
      rcases List.mem_append.mp hq with h | h
      · exact hS.2.2 q h
      · exact hF _ (hL q h)⟩ T' rfl X'
  exact ⟨t2, st t2 a1, b1⟩
/-- behind a call that returns or throws -/
theorem gc_goB (hr : vx_Run p l e R s m args below meth c H locs cells slots mc ms (F0 m pc ls st0) rest (fun st o t => ∃ v, o = .returned v ∧ gc_R D cl tys cI cJ (fun j => ad (gw_p pl j)) S2 (fun j => sg (gw_p pl j)) H.size post st v t)
      (gc_X D cl tys cI cJ (fun j => ad (gw_p pl j)) S2 (fun j => sg (gw_p pl j)) H.size pt) (va_A (gw cI cJ (fun j => ad (gw_p pl j)) (fun j => sg (gw_p pl j)) S2) H.size))
    (hP : va_P D cl (gw cI cJ ad sg S) H) (hD : va_D A (gw cI cJ ad sg S)) (hS : va_S A s.heap H locs) (hA : ∀ q : Nat, s.heap.size ≤ q → A q) (hin : gw_in pl S S2 = true)
    (kr : ∀ (v : Option Value) (sg1 sg2 : Nat → Nat → Int32) (H1 : Heap) (locs1 : List Loc), post v sg1 → (∀ j, j < S2.length → sg2 (gw_p pl j) = sg1 j) → (∀ k, k ∉ pl → sg2 k = sg k) → va_P D cl (gw cI cJ ad sg2 S) H1 → va_D A (gw cI cJ ad sg2 S) → va_S A s.heap H1 locs1 →
      W p l e R s m args below meth c H1 locs1 (cells + mc) (slots + ms) Q (F0 m (pc + 3) ls (v.toList ++ rest)))
    (kt : ∀ (E : String) (x : Addr) (ce : Cell) (sg1 sg2 : Nat → Nat → Int32) (H1 : Heap) (locs1 : List Loc), pt E sg1 → H1[x]? = some ce → ce.vm = .none → s.vm.findClass E = some ce.cls → (∀ j, j < S2.length → sg2 (gw_p pl j) = sg1 j) → (∀ k, k ∉ pl → sg2 k = sg k) → va_P D cl (gw cI cJ ad sg2 S) H1 → va_D A (gw cI cJ ad sg2 S) → va_S A s.heap H1 locs1 →
      vx_W p l e R s m args below meth c H1 locs1 (cells + mc) (slots + ms) Q (F0 m pc ls rest) x) : W p l e R s m args below meth c H locs cells slots Q (F0 m pc ls st0) := by
  have hF := va_free (wc := gw cI cJ (fun j => ad (gw_p pl j)) (fun j => sg (gw_p pl j)) S2) hD hS hA pl (gw_pick hin)
  intro T hT X
  rcases hr T hT X with ⟨v, st₀, t, T', L, h0, X', hL, e1, e2, ⟨v2, hv, ⟨sg1, hp, hP1, -⟩, hz, hk⟩, st⟩ | ⟨q, st₀, t, T', L, E, ce, h0, X', hL, e1, e2, ⟨⟨sg1, hp, hP1, -⟩, hz, hk⟩, hce, hcv, hcl, st⟩
  · cases hv
    rw [h0] at hz hk
    rw [← e1] at hz hk hP1
    obtain ⟨sg2, g1, g2, g3, g4⟩ := gw_back hin hP hD hk hP1
    obtain ⟨t2, a1, b1⟩ := kr v sg1 sg2 T'.heap (locs ++ L) hp g1 g2 g3 g4
      ⟨Nat.le_trans hS.1 hz, fun q h1 h2 => by rw [hk q (Nat.lt_of_lt_of_le h1 hS.1) (fun z => h2 (hF q z))]; exact hS.2.1 q h1 h2, fun q hq => by
        rcases List.mem_append.mp hq with h | h
        · exact hS.2.2 q h
        · exact hF _ (hL q h)⟩ T' rfl X'
    exact ⟨t2, st t2 a1, b1⟩
  · rw [h0] at hz hk
    rw [← e1] at hz hk hP1 hce
    obtain ⟨sg2, g1, g2, g3, g4⟩ := gw_back hin hP hD hk hP1
    obtain ⟨t2, a1, b1⟩ := kt E q ce sg1 sg2 T'.heap (locs ++ L) hp hce hcv hcl g1 g2 g3 g4
      ⟨Nat.le_trans hS.1 hz, fun q h1 h2 => by rw [hk q (Nat.lt_of_lt_of_le h1 hS.1) (fun z => h2 (hF q z))]; exact hS.2.1 q h1 h2, fun q hq => by
        rcases List.mem_append.mp hq with h | h
        · exact hS.2.2 q h
        · exact hF _ (hL q h)⟩ T' rfl X'
    exact ⟨t2, st.trans a1, b1⟩
/-- the same where the callee's world is the caller's -/
theorem gc_preS0 (hK : va_K D cl tys s) (hP : va_P D cl (gw cI cJ ad sg S) H) (hD : va_D A (gw cI cJ ad sg S)) (hS : va_S A s.heap H locs) (hA : ∀ q : Nat, s.heap.size ≤ q → A q) (hE : gc_ex txs nws A s s.heap) :
    PreS s H (va_Pc As (gc_pre D cl tys cI cJ txs nws ad S sg H.size)) As := by
  refine ⟨gc_blind, fun U hU hW => ⟨rfl, by rw [hU], by rw [hU]; exact hP, va_K.moved hW.alike hK, hD.weaken (fun _ _ _ _ => trivial), hE.next hW (fun a h1 h2 => ?_) (gc_free0 hD hS hA)⟩⟩
  rw [hU]
  exact hS.2.1 a h1 h2
theorem gc_preV0 (hK : va_K D cl tys s) (hP : va_P D cl (gw cI cJ ad sg S) H) (hD : va_D A (gw cI cJ ad sg S)) (hS : va_S A s.heap H locs) (hA : ∀ q : Nat, s.heap.size ≤ q → A q) (hE : gc_ex txs nws A s s.heap) {q0 ci : Nat} {q : vw_C} {fs : List (Option Nat)} (hc : cl[ci]? = some q) (hq : q.1 = C) (he : S[q0]? = some (.inl (ci, fs))) :
    PreV s H C (ad q0) (va_Pc (.ref (ad q0) :: As) (gc_pre D cl tys cI cJ txs nws ad S sg H.size)) As := by
  subst hq
  have h := gc_preS0 (As := .ref (ad q0) :: As) hK hP hD hS hA hE
  exact ⟨h.1, va_recv (fs := gw_f ad (sg q0) 0 fs) hK hP hc (gw_at he), h.2⟩
theorem gc_go0 (hr : va_Run p l e R s m args below meth c H locs cells slots mc ms (F0 m pc ls st0) rest (fun st o t => ∃ v, o = .returned v ∧ gc_R D cl tys cI cJ ad S sg H.size post st v t) (va_A (gw cI cJ ad sg S) H.size))
    (hD : va_D A (gw cI cJ ad sg S)) (hS : va_S A s.heap H locs) (hA : ∀ q : Nat, s.heap.size ≤ q → A q)
    (kk : ∀ (v : Option Value) (sg1 : Nat → Nat → Int32) (H1 : Heap) (locs1 : List Loc), post v sg1 → va_P D cl (gw cI cJ ad sg1 S) H1 → va_D A (gw cI cJ ad sg1 S) → va_S A s.heap H1 locs1 →
      W p l e R s m args below meth c H1 locs1 (cells + mc) (slots + ms) Q (F0 m (pc + 3) ls (v.toList ++ rest))) : W p l e R s m args below meth c H locs cells slots Q (F0 m pc ls st0) := by
  have hF := gc_free0 hD hS hA
  intro T hT X
  obtain ⟨v, st₀, t, T', L, h0, X', hL, e1, e2, ⟨v2, hv, ⟨sg1, hp, hP1, -⟩, hz, hk⟩, st⟩ := hr T hT X
  cases hv
  rw [h0] at hz hk
  rw [← e1] at hz hk hP1
  obtain ⟨t2, a1, b1⟩ := kk v sg1 T'.heap (locs ++ L) hp hP1 (gw_D _ hD)
    ⟨Nat.le_trans hS.1 hz, fun q h1 h2 => by rw [hk q (Nat.lt_of_lt_of_le h1 hS.1) (fun z => h2 (hF q z))]; exact hS.2.1 q h1 h2, fun q hq => by
      rcases List.mem_append.mp hq with h | h
      · exact hS.2.2 q h
      · exact hF _ (hL q h)⟩ T' rfl X'
  exact ⟨t2, st t2 a1, b1⟩
/-- another name for the number on top -/
theorem gw_top {x y : Int32} (h : x = y) (k : W p l e R s m args below meth c H locs cells slots Q (F0 m pc ls (.int y :: rest))) : W p l e R s m args below meth c H locs cells slots Q (F0 m pc ls (.int x :: rest)) := by
  rw [h]; exact k
/-- ends of a method that returns: without an answer, an int, a boolean (of one that may throw: bo_ret ahead) -/
theorem gc_vret {sg0 : Nat → Nat → Int32} (hx : p.tables.exec = Jvm.exec) (hb : c.code = cc) (hr : meth.sig.returnType = none) (hlocks : meth.locks = false) (hP : va_P D cl (gw cI cJ ad sg S) H) (hK : va_K D cl tys s) (hS : va_S A s.heap H locs) (hA : A = va_A (gw cI cJ ad sg0 S) sz) (hp : post none sg) (hdg : decode cc pc = .ok (.return_, 1)) :
    W p l e R s m args below meth c H locs cells slots (MQ below (fun _ st o t => ∃ v, o = .returned v ∧ gc_R D cl tys cI cJ ad S sg0 sz post st v t) args s cells slots (va_A (gw cI cJ ad sg0 S) sz)) (F0 m pc ls []) := by
  subst hA
  exact W.vret hx hb hr (fun t ht hW => ⟨none, rfl, ⟨sg, hp, by rw [ht]; exact hP, va_K.moved hW.alike hK⟩, hS.F ht⟩) hS.2.2 hdg hlocks
theorem gc_iret {sg0 : Nat → Nat → Int32} (hx : p.tables.exec = Jvm.exec) (hb : c.code = cc) (hr : meth.sig.returnType = some .int) (hlocks : meth.locks = false) (hP : va_P D cl (gw cI cJ ad sg S) H) (hK : va_K D cl tys s) (hS : va_S A s.heap H locs) (hA : A = va_A (gw cI cJ ad sg0 S) sz) {r : Int32} (hp : post (some (.int r)) sg) (hdg : decode cc pc = .ok (.ireturn, 1)) :
    W p l e R s m args below meth c H locs cells slots (MQ below (fun _ st o t => ∃ v, o = .returned v ∧ gc_R D cl tys cI cJ ad S sg0 sz post st v t) args s cells slots (va_A (gw cI cJ ad sg0 S) sz)) (F0 m pc ls [.int r]) := by
  subst hA
  exact W.iret hx hb hr (fun t ht hW => ⟨some (.int r), rfl, ⟨sg, hp, by rw [ht]; exact hP, va_K.moved hW.alike hK⟩, hS.F ht⟩) hS.2.2 hdg hlocks
theorem gc_zret {sg0 : Nat → Nat → Int32} (hx : p.tables.exec = Jvm.exec) (hb : c.code = cc) (hr : meth.sig.returnType = some .boolean) (hlocks : meth.locks = false) (hP : va_P D cl (gw cI cJ ad sg S) H) (hK : va_K D cl tys s) (hS : va_S A s.heap H locs) (hA : A = va_A (gw cI cJ ad sg0 S) sz) {r : Int32} (hn : narrow .boolean (.int r) = .int r) (hp : post (some (.int r)) sg) (hdg : decode cc pc = .ok (.ireturn, 1)) :
    W p l e R s m args below meth c H locs cells slots (MQ below (fun _ st o t => ∃ v, o = .returned v ∧ gc_R D cl tys cI cJ ad S sg0 sz post st v t) args s cells slots (va_A (gw cI cJ ad sg0 S) sz)) (F0 m pc ls [.int r]) := by
  subst hA
  exact W.zret hx hb hr hn (fun t ht hW => ⟨some (.int r), rfl, ⟨sg, hp, by rw [ht]; exact hP, va_K.moved hW.alike hK⟩, hS.F ht⟩) hS.2.2 hdg hlocks
end GCB
/-! bodies, with their ends as hypotheses (Q is any goal) -/
section GCC
variable {l : Launch} {y : MethodName} {ws ws' : List Cond} {rm : Room} {D : va_G} {cl : List vw_C} {tys : List (ClassId × FieldType)} {cI : ClassId} {cJ : ClassId × ClassId} {S : List gw_K} {txs : List (String × Nat × String)} {nws : List Cond} {av : List Value} {ad : Nat → Nat} {sg : Nat → Nat → Int32} {sz mc ms : Nat} {post : Option Value → (Nat → Nat → Int32) → Prop} {pt : String → (Nat → Nat → Int32) → Prop} {cc : ByteArray} {maxL : Nat}
/-- a return: without an answer, with an int, with a boolean -/
def gc_kv (p : Program) (l : Launch) (e : Env) (R : Room) (s : State) (m : MethodId) (args : Array Value) (below : List Frame) (meth : Method) (c : Code) (D : va_G) (cl : List vw_C) (cI : ClassId) (cJ : ClassId × ClassId) (ad : Nat → Nat) (S : List gw_K) (A : Nat → Prop) (cc : ByteArray) (mc ms : Nat) (post : Option Value → (Nat → Nat → Int32) → Prop) (Q : State → Prop) : Prop :=
  ∀ (sg : Nat → Nat → Int32) (H : Heap) (locs : List Loc) (pc : Nat) (ls : Array Slot), va_P D cl (gw cI cJ ad sg S) H → va_S A s.heap H locs → decode cc pc = .ok (.return_, 1) → post none sg → W p l e R s m args below meth c H locs mc ms Q (F0 m pc ls [])
def gc_ki (p : Program) (l : Launch) (e : Env) (R : Room) (s : State) (m : MethodId) (args : Array Value) (below : List Frame) (meth : Method) (c : Code) (D : va_G) (cl : List vw_C) (cI : ClassId) (cJ : ClassId × ClassId) (ad : Nat → Nat) (S : List gw_K) (A : Nat → Prop) (cc : ByteArray) (mc ms : Nat) (post : Option Value → (Nat → Nat → Int32) → Prop) (Q : State → Prop) : Prop :=
  ∀ (sg : Nat → Nat → Int32) (H : Heap) (locs : List Loc) (pc : Nat) (ls : Array Slot) (r : Int32), va_P D cl (gw cI cJ ad sg S) H → va_S A s.heap H locs → decode cc pc = .ok (.ireturn, 1) → post (some (.int r)) sg → W p l e R s m args below meth c H locs mc ms Q (F0 m pc ls [.int r])
def gc_kz (p : Program) (l : Launch) (e : Env) (R : Room) (s : State) (m : MethodId) (args : Array Value) (below : List Frame) (meth : Method) (c : Code) (D : va_G) (cl : List vw_C) (cI : ClassId) (cJ : ClassId × ClassId) (ad : Nat → Nat) (S : List gw_K) (A : Nat → Prop) (cc : ByteArray) (mc ms : Nat) (post : Option Value → (Nat → Nat → Int32) → Prop) (Q : State → Prop) : Prop :=
  ∀ (sg : Nat → Nat → Int32) (H : Heap) (locs : List Loc) (pc : Nat) (ls : Array Slot) (r : Int32), va_P D cl (gw cI cJ ad sg S) H → va_S A s.heap H locs → decode cc pc = .ok (.ireturn, 1) → narrow .boolean (.int r) = .int r → post (some (.int r)) sg → W p l e R s m args below meth c H locs mc ms Q (F0 m pc ls [.int r])
/-- a throw that goes out -/
def gc_kt (p : Program) (l : Launch) (e : Env) (R : Room) (s : State) (m : MethodId) (args : Array Value) (below : List Frame) (meth : Method) (c : Code) (D : va_G) (cl : List vw_C) (cI : ClassId) (cJ : ClassId × ClassId) (ad : Nat → Nat) (S : List gw_K) (A : Nat → Prop) (mc ms : Nat) (pt : String → (Nat → Nat → Int32) → Prop) (Q : State → Prop) : Prop :=
  ∀ (E : String) (x : Addr) (ce : Cell) (sg : Nat → Nat → Int32) (H : Heap) (locs : List Loc) (cells slots : Nat) (pc : Nat) (ls : Array Slot) (st : List Value), pt E sg → H[x]? = some ce → ce.vm = .none → s.vm.findClass E = some ce.cls → va_P D cl (gw cI cJ ad sg S) H → va_S A s.heap H locs → cells ≤ mc → slots ≤ ms → vx_W p l e R s m args below meth c H locs cells slots Q (F0 m pc ls st) x
theorem gc_Mv_of (hy : plainName y.cls = true) (hw : ws = Cond.code y cc maxL none :: ws') (hn : (lg_sl av).length ≤ maxL)
    (body : ∀ p e s m below meth c A ls Q, gc_In p s m meth c cc maxL none av ws y D cl tys (gw cI cJ ad sg S) A ls → gc_ex txs nws A s s.heap → gc_kv p l e rm s m av.toArray below meth c D cl cI cJ ad S A cc mc ms post Q → W p l e rm s m av.toArray below meth c s.heap [] 0 0 Q (F0 m 0 ls [])) :
    gc_M l y ws rm D cl tys cI cJ txs nws S av ad sg sz mc ms post :=
  gc_M_of hy hw hn (fun p e s m below meth c A ls h hE hA _ => body p e s m below meth c A ls _ h hE
    (fun sg2 H locs pc ls hP hS hdg hp => gc_vret h.1.1 h.1.2.1 h.2.1 h.2.2.1 hP h.2.2.2.2.2.2.1 hS hA hp hdg))
theorem gc_Mi_of (hy : plainName y.cls = true) (hw : ws = Cond.code y cc maxL (some .int) :: ws') (hn : (lg_sl av).length ≤ maxL)
    (body : ∀ p e s m below meth c A ls Q, gc_In p s m meth c cc maxL (some .int) av ws y D cl tys (gw cI cJ ad sg S) A ls → gc_ex txs nws A s s.heap → gc_ki p l e rm s m av.toArray below meth c D cl cI cJ ad S A cc mc ms post Q → W p l e rm s m av.toArray below meth c s.heap [] 0 0 Q (F0 m 0 ls [])) :
    gc_M l y ws rm D cl tys cI cJ txs nws S av ad sg sz mc ms post :=
  gc_M_of hy hw hn (fun p e s m below meth c A ls h hE hA _ => body p e s m below meth c A ls _ h hE
    (fun sg2 H locs pc ls r hP hS hdg hp => gc_iret h.1.1 h.1.2.1 h.2.1 h.2.2.1 hP h.2.2.2.2.2.2.1 hS hA hp hdg))
theorem gc_Mz_of (hy : plainName y.cls = true) (hw : ws = Cond.code y cc maxL (some .boolean) :: ws') (hn : (lg_sl av).length ≤ maxL)
    (body : ∀ p e s m below meth c A ls Q, gc_In p s m meth c cc maxL (some .boolean) av ws y D cl tys (gw cI cJ ad sg S) A ls → gc_ex txs nws A s s.heap → gc_kz p l e rm s m av.toArray below meth c D cl cI cJ ad S A cc mc ms post Q → W p l e rm s m av.toArray below meth c s.heap [] 0 0 Q (F0 m 0 ls [])) :
    gc_M l y ws rm D cl tys cI cJ txs nws S av ad sg sz mc ms post :=
  gc_M_of hy hw hn (fun p e s m below meth c A ls h hE hA _ => body p e s m below meth c A ls _ h hE
    (fun sg2 H locs pc ls r hP hS hdg hnw hp => gc_zret h.1.1 h.1.2.1 h.2.1 h.2.2.1 hP h.2.2.2.2.2.2.1 hS hA hnw hp hdg))
/-- the throw's end of a body -/
theorem gc_kt_of {p : Program} {e : Env} {s : State} {m : MethodId} {args : Array Value} {below : List Frame} {meth : Method} {c : Code} {A : Nat → Prop} {Qc : Array Value → State → Outcome → State → Prop} (hlocks : meth.locks = false) (hnh : ∀ x ∈ c.exceptionTable.toList, False) (hK : va_K D cl tys s) (hA : A = va_A (gw cI cJ ad sg S) sz) :
    gc_kt p l e rm s m args below meth c D cl cI cJ ad S A mc ms pt (vx_MQ below Qc (gc_X D cl tys cI cJ ad S sg sz pt) args s mc ms (va_A (gw cI cJ ad sg S) sz)) := by
  subst hA
  intro E x ce sg2 H locs cells slots pc ls st hp h1 h2 h3 hP hS hc hs
  exact vx_out (E := E) (fun z hz => (hnh z hz).elim) hlocks h1 h2 h3 (fun t ht ha => ⟨⟨sg2, hp, by rw [ht]; exact hP, va_K.moved ha hK⟩, hS.F ht⟩) hS.2.2 hc hs
/-- 'throw new E(text)' in a body's own rows -/
def gc_kx (p : Program) (l : Launch) (e : Env) (R : Room) (s : State) (m : MethodId) (args : Array Value) (below : List Frame) (meth : Method) (c : Code) (D : va_G) (cl : List vw_C) (cI : ClassId) (cJ : ClassId × ClassId) (ad : Nat → Nat) (S : List gw_K) (A : Nat → Prop) (cc : ByteArray) (own : String) (mc ms : Nat) (pt : String → (Nat → Nat → Int32) → Prop) (Q : State → Prop) : Prop :=
  ∀ (E text : String) (names : List String) (ik is ic sa : Nat) (sg : Nat → Nat → Int32) (H : Heap) (locs : List Loc) (cells slots pc : Nat) (ls : Array Slot), l.stackTraces = false → Bundle.fit E = true → (∀ n ∈ names, Bundle.fit n = true) → (Cond.classLink own ik E).before args s = true → (Cond.initialized E).before args s = true → vk_R own is text sa s → (∀ w ∈ vx_atS own ic E names, w.before args s = true) →
    (∀ w ∈ Cond.classLink own ik E :: Cond.initialized E :: vx_atS own ic E names, vx_ot w = true) → ls.size = c.maxLocals → decode cc pc = .ok (.new ik, 3) → decode cc (pc + 3) = .ok (.dup, 1) → decode cc (pc + 4) = .ok (.ldc is, 2) → decode cc (pc + 6) = .ok (.invokespecial ic, 3) → decode cc (pc + 9) = .ok (.athrow, 1) →
    names.length + 3 < R.frames → 13 * (names.length + 1) + 43 ≤ R.locals → cells + 1 ≤ R.cells → slots + 6 ≤ R.slots → cells + 1 ≤ mc → slots + 6 ≤ ms → pt E sg → va_P D cl (gw cI cJ ad sg S) H → va_S A s.heap H locs → W p l e R s m args below meth c H locs cells slots Q (F0 m pc ls [])
theorem gc_kx_of {p : Program} {e : Env} {s : State} {m : MethodId} {args : Array Value} {below : List Frame} {meth : Method} {c : Code} {A : Nat → Prop} {own : String} {Qc : Array Value → State → Outcome → State → Prop} (hx : p.tables.exec = Jvm.exec) (hb : c.code = cc) (hown : s.vm.findClass own = some m.cls) (hlocks : meth.locks = false) (hnh : ∀ x ∈ c.exceptionTable.toList, False) (hK : va_K D cl tys s) (hA : A = va_A (gw cI cJ ad sg S) sz) (hE : gc_ex txs nws A s s.heap) :
    gc_kx p l e rm s m args below meth c D cl cI cJ ad S A cc own mc ms pt (vx_MQ below Qc (gc_X D cl tys cI cJ ad S sg sz pt) args s mc ms (va_A (gw cI cJ ad sg S) sz)) := by
  subst hA
  intro E text names ik is ic sa sg2 H locs cells slots pc ls hl hf hnm hk hini hstr hat hgood hsz d0 d3 d4 d6 d9 r1 r2 r3 r4 r5 r6 hp hP hS
  refine vx_throwS (names := names) hx hb hl hown hf hnm hk hini hstr hat hgood hE.1 hE.2.1 hS hsz d0 d3 d4 d6 d9 (fun z hz => (hnh z hz).elim) r1 (by simpa using r2) r3 r4 hlocks (fun t ha hz hq => ?_) hS.2.2 r5 r6
  refine ⟨⟨sg2, hp, fun k x hx => (hP k x hx).kept (hq _ (hP k x hx).lt), va_K.moved ha hK⟩, Nat.le_trans hS.1 hz, fun q h1 h2 => ?_⟩
  rw [hq q (Nat.lt_of_lt_of_le h1 hS.1)]
  exact hS.2.1 q h1 h2
theorem gc_Bv_of (hy : plainName y.cls = true) (hw : ws = Cond.code y cc maxL none :: ws') (hn : (lg_sl av).length ≤ maxL)
    (body : ∀ p e s m below meth c A ls Q, gc_In p s m meth c cc maxL none av ws y D cl tys (gw cI cJ ad sg S) A ls → gc_ex txs nws A s s.heap → gc_kv p l e rm s m av.toArray below meth c D cl cI cJ ad S A cc mc ms post Q → gc_kt p l e rm s m av.toArray below meth c D cl cI cJ ad S A mc ms pt Q → gc_kx p l e rm s m av.toArray below meth c D cl cI cJ ad S A cc y.cls mc ms pt Q → W p l e rm s m av.toArray below meth c s.heap [] 0 0 Q (F0 m 0 ls [])) :
    gc_B l y ws rm D cl tys cI cJ txs nws S av ad sg sz mc ms post pt :=
  gc_B_of hy hw hn (fun p e s m below meth c A ls h hnh hE hA _ => body p e s m below meth c A ls _ h hE
    (fun sg2 H locs pc ls hP hS hdg hp => vx_ret (gc_vret h.1.1 h.1.2.1 h.2.1 h.2.2.1 hP h.2.2.2.2.2.2.1 hS hA hp hdg))
    (gc_kt_of h.2.2.1 hnh h.2.2.2.2.2.2.1 hA) (gc_kx_of h.1.1 h.1.2.1 h.1.2.2.2.1 h.2.2.1 hnh h.2.2.2.2.2.2.1 hA hE))
theorem gc_Bi_of (hy : plainName y.cls = true) (hw : ws = Cond.code y cc maxL (some .int) :: ws') (hn : (lg_sl av).length ≤ maxL)
    (body : ∀ p e s m below meth c A ls Q, gc_In p s m meth c cc maxL (some .int) av ws y D cl tys (gw cI cJ ad sg S) A ls → gc_ex txs nws A s s.heap → gc_ki p l e rm s m av.toArray below meth c D cl cI cJ ad S A cc mc ms post Q → gc_kt p l e rm s m av.toArray below meth c D cl cI cJ ad S A mc ms pt Q → gc_kx p l e rm s m av.toArray below meth c D cl cI cJ ad S A cc y.cls mc ms pt Q → W p l e rm s m av.toArray below meth c s.heap [] 0 0 Q (F0 m 0 ls [])) :
    gc_B l y ws rm D cl tys cI cJ txs nws S av ad sg sz mc ms post pt :=
  gc_B_of hy hw hn (fun p e s m below meth c A ls h hnh hE hA _ => body p e s m below meth c A ls _ h hE
    (fun sg2 H locs pc ls r hP hS hdg hp => vx_ret (gc_iret h.1.1 h.1.2.1 h.2.1 h.2.2.1 hP h.2.2.2.2.2.2.1 hS hA hp hdg))
    (gc_kt_of h.2.2.1 hnh h.2.2.2.2.2.2.1 hA) (gc_kx_of h.1.1 h.1.2.1 h.1.2.2.2.1 h.2.2.1 hnh h.2.2.2.2.2.2.1 hA hE))
theorem gc_Wi_of {hh : List (Nat × Nat × Nat × Nat)} (hy : plainName y.cls = true) (hw : ws = Cond.codeWith y cc maxL (some .int) hh :: ws') (hn : (lg_sl av).length ≤ maxL)
    (body : ∀ p e s m below meth c A ls Q, gc_In p s m meth c cc maxL (some .int) av ws y D cl tys (gw cI cJ ad sg S) A ls → c.exceptionTable.toList = tableOf hh → gc_ex txs nws A s s.heap → gc_ki p l e rm s m av.toArray below meth c D cl cI cJ ad S A cc mc ms post Q → W p l e rm s m av.toArray below meth c s.heap [] 0 0 Q (F0 m 0 ls [])) :
    gc_M l y ws rm D cl tys cI cJ txs nws S av ad sg sz mc ms post :=
  gc_W_of hy hw hn (fun p e s m below meth c A ls h htab hE hA _ => body p e s m below meth c A ls _ h htab hE
    (fun sg2 H locs pc ls r hP hS hdg hp => gc_iret h.1.1 h.1.2.1 h.2.1 h.2.2.1 hP h.2.2.2.2.2.2.1 hS hA hp hdg))
end GCC
end
section
/-! A ROW FOR 'new int[n][k]' (multianewarray of two dimensions) over the heap. -/
def mu_in (comp : ClassId) (k : Nat) : Cell := { cls := comp, slots := Array.replicate k (.int 0), vm := .none }
def mu_out (cA : ClassId) (n h i : Nat) : Cell := { cls := cA, slots := ((List.range n).map (fun j => if j < i then Value.ref (h + 1 + j) else Value.null)).toArray, vm := .none }
/-- the state with the outer array and i rows -/
def mu_st (s : State) (cA comp : ClassId) (n k : Nat) : Nat → State
  | 0 => s.pushCell (mu_out cA n s.heap.size 0)
  | i + 1 => ((mu_st s cA comp n k i).pushCell (mu_in comp k)).setCell s.heap.size (mu_out cA n s.heap.size (i + 1))
theorem mu_out_size (cA : ClassId) (n h i : Nat) : (mu_out cA n h i).slots.size = n := by simp [mu_out]
theorem mu_out_0 (cA : ClassId) (n h : Nat) : mu_out cA n h 0 = { cls := cA, slots := Array.replicate n Value.null, vm := .none } := by
  unfold mu_out
  congr 1
  apply Array.ext
  · simp
  · intro j h1 h2
    simp
theorem mu_out_s (cA : ClassId) (n h i : Nat) : (mu_out cA n h i).setSlot i (.ref (h + 1 + i)) = mu_out cA n h (i + 1) := by
  unfold mu_out Cell.setSlot
  congr 1
  apply Array.ext
  · simp
  · intro j h1 h2
    by_cases e : i = j
    · subst e
      simp
    · by_cases hj : j < i
      · simp [Array.getElem_setIfInBounds, e, hj, show j < i + 1 by omega]
      · simp [Array.getElem_setIfInBounds, e, hj, show ¬ j < i + 1 by omega]
theorem mu_facts (s : State) (cA comp : ClassId) (n k : Nat) : ∀ i, (mu_st s cA comp n k i).heap.size = s.heap.size + 1 + i ∧ (mu_st s cA comp n k i).heap[s.heap.size]? = some (mu_out cA n s.heap.size i) ∧ (mu_st s cA comp n k i).vm = s.vm ∧ (mu_st s cA comp n k i).slotsUsed = s.slotsUsed + n + i * k
  | 0 => ⟨by simp [mu_st], by simp [mu_st], rfl, by simp [mu_st, mu_out_size]⟩
  | i + 1 => by
    obtain ⟨a, b, d, u⟩ := mu_facts s cA comp n k i
    have hlt : s.heap.size < (mu_st s cA comp n k i).heap.size := by omega
    have hb' : ((mu_st s cA comp n k i).pushCell (mu_in comp k)).heap[s.heap.size]? = some (mu_out cA n s.heap.size i) := by rw [State.heap_pushCell_of_lt (h := hlt)]; exact b
    refine ⟨?_, State.heap_setCell_self hb', by simp [mu_st, d], ?_⟩
    · simp [mu_st, State.setCell, a]; omega
    · simp [mu_st, u, mu_in, Nat.succ_mul]; omega
theorem mu_top (s : State) (f : JFrame) (cA comp : ClassId) (n k : Nat) : ∀ i, mu_st (s.setTop f) cA comp n k i = (mu_st s cA comp n k i).setTop f
  | 0 => rfl
  | i + 1 => by simp only [mu_st, mu_top s f cA comp n k i, State.heap_setTop, State.pushCell_setTop, State.setCell_setTop]
theorem mu_old (s : State) (cA comp : ClassId) (n k : Nat) {a : Addr} (ha : a < s.heap.size) : ∀ i, (mu_st s cA comp n k i).heap[a]? = s.heap[a]?
  | 0 => State.heap_pushCell_of_lt _ _ ha
  | i + 1 => by
    have f1 := (mu_facts s cA comp n k i).1
    have hlt : a < (mu_st s cA comp n k i).heap.size := Nat.lt_of_lt_of_le ha (by rw [f1]; omega)
    show (((mu_st s cA comp n k i).pushCell (mu_in comp k)).setCell s.heap.size _).heap[a]? = _
    rw [State.heap_setCell_other (Nat.ne_of_gt ha), State.heap_pushCell_of_lt (h := hlt)]
    exact mu_old s cA comp n k ha i
theorem mu_row (s : State) (cA comp : ClassId) (n k : Nat) : ∀ i j, j < i → (mu_st s cA comp n k i).heap[s.heap.size + 1 + j]? = some (mu_in comp k)
  | 0, _, h => absurd h (Nat.not_lt_zero _)
  | i + 1, j, h => by
    have f1 := (mu_facts s cA comp n k i).1
    show (((mu_st s cA comp n k i).pushCell (mu_in comp k)).setCell s.heap.size _).heap[s.heap.size + 1 + j]? = _
    rw [State.heap_setCell_other (show s.heap.size ≠ s.heap.size + 1 + j by omega)]
    rcases Nat.lt_or_ge j i with hj | hj
    · have hlt : s.heap.size + 1 + j < (mu_st s cA comp n k i).heap.size := by rw [f1]; omega
      rw [State.heap_pushCell_of_lt (h := hlt)]
      exact mu_row s cA comp n k i j hj
    · have e : j = i := by omega
      subst e
      rw [← f1]
      exact State.heap_pushCell_size _ _
theorem mu_congr {c : ClassId} {N : Nat} {f g : Nat → Value} (h : ∀ j, j < N → f j = g j) : arrV c N f = arrV c N g := by
  unfold arrV
  congr 2
  funext j
  exact h j.val j.isLt
theorem mu_out_arr (cA : ClassId) (n h : Nat) : mu_out cA n h n = arrV cA n (fun j => .ref (h + 1 + j)) := by
  unfold mu_out arrV
  congr 1
  apply Array.ext
  · simp
  · intro j h1 h2
    have hj : j < n := by simpa using h1
    simp [hj]
theorem mu_in_arr (comp : ClassId) (k : Nat) : mu_in comp k = arrV comp k (fun _ => .int 0) := arrV_new comp k (.int 0)
section MUA
variable {E : CtlPost} {e : Env} {d : Bool} {acts : List Action} {s : State}
theorem mu_alloc {c comp : ClassId} {k : Class} {type : FieldType} {len : Nat} {init : Value} (hk : s.vm.classes[c]? = some k) (hkind : k.kind = .array comp type) (hlimit : ¬ len > e.platform.arrayLengthLimit) (hheap : ¬ len * componentBytes type > e.platform.maxHeapBytes) (hfit : fits type init = true) (hdef : init.isDefault = true) {Q : Addr → Pre}
    (h1 : s.heap.size < e.platform.maxCells) (h2 : s.slotsUsed + len ≤ e.platform.maxSlots) (hq : Q s.heap.size d acts (s.pushCell { cls := c, slots := Array.replicate len init, vm := .none })) : wp (Jvm.newArray c len init) Q E e d acts s := by
  have hfits : ∀ i v, (Array.replicate len init)[i]? = some v → s.fitsSlot c .none i v = true := by
    intro i v hv
    simp only [Array.getElem?_replicate] at hv
    split at hv
    · cases hv; simp [State.fitsSlot, State.slotType?, hk, hkind, hfit]
    · cases hv
  have hda : allocActs (Array.replicate len init) s.heap.size acts = acts := by
    have hall : ((Array.replicate len init).all (·.isDefault)) = true := by
      rw [Array.all_replicate]; split <;> simp [hdef]
    unfold allocActs; rw [if_pos hall]
  simp only [Jvm.newArray, Jvm.arrayFits, wp_bind', W.ask, W.ite, hlimit, if_false, wp_pure', W.theClass, hk, hkind, hheap, W.alloc, W.stop, Option.some.injEq, exists_eq_left', Array.size_replicate, hda]
  rw [if_neg (by omega)]
  exact ⟨h1, h2, hfits, hq⟩
theorem mu_make1 {comp cc : ClassId} {kc : Class} {m : Int32} (hkc : s.vm.classes[comp]? = some kc) (hkindc : kc.kind = .array cc .int) (hm : ¬ m < 0) (hl2 : ¬ m.toNatClampNeg > e.platform.arrayLengthLimit) (hh2 : ¬ m.toNatClampNeg * componentBytes .int > e.platform.maxHeapBytes)
    (h1 : s.heap.size < e.platform.maxCells) (h2 : s.slotsUsed + m.toNatClampNeg ≤ e.platform.maxSlots) {Q : Addr → Pre} (hq : Q s.heap.size d acts (s.pushCell (mu_in comp m.toNatClampNeg))) : wp (Op.multianewarray.make comp [m]) Q E e d acts s := by
  rw [Op.multianewarray.make]
  simp only [wp_bind', W.ite, hm, if_false, wp_pure', W.theClass, hkc, hkindc, Option.some.injEq, exists_eq_left']
  exact mu_alloc hkc hkindc hl2 hh2 rfl rfl h1 h2 hq
theorem mu_make2 {c comp cc : ClassId} {k kc : Class} {n m : Int32} (hk : s.vm.classes[c]? = some k) (hkind : k.kind = .array comp (.array .int)) (hkc : s.vm.classes[comp]? = some kc) (hkindc : kc.kind = .array cc .int) (hn : ¬ n < 0) (hm : ¬ m < 0)
    (hl1 : ¬ n.toNatClampNeg > e.platform.arrayLengthLimit) (hh1 : ¬ n.toNatClampNeg * componentBytes (.array .int) > e.platform.maxHeapBytes) (hl2 : ¬ m.toNatClampNeg > e.platform.arrayLengthLimit) (hh2 : ¬ m.toNatClampNeg * componentBytes .int > e.platform.maxHeapBytes)
    (hc : s.heap.size + 1 + n.toNatClampNeg ≤ e.platform.maxCells) (hs : s.slotsUsed + n.toNatClampNeg + n.toNatClampNeg * m.toNatClampNeg ≤ e.platform.maxSlots)
    {Q : Addr → Pre} (hq : ∀ d' acts', Q s.heap.size d' acts' (mu_st s c comp n.toNatClampNeg m.toNatClampNeg n.toNatClampNeg)) : wp (Op.multianewarray.make c [n, m]) Q E e d acts s := by
  have hfind : ([m].find? (· < 0)) = none := by simp [hm]
  rw [Op.multianewarray.make]
  simp only [wp_bind', W.ite, hn, if_false, wp_pure', W.theClass, hk, hkind, Option.some.injEq, exists_eq_left']
  refine mu_alloc hk hkind hl1 hh1 rfl rfl (by omega) (by have := Nat.zero_le (n.toNatClampNeg * m.toNatClampNeg); omega) ?_
  simp only [hfind]
  rw [ite_self, wp_bind', Std.Legacy.Range.forIn_eq_forIn_range']
  have hsz : ([:n.toNatClampNeg] : Std.Legacy.Range).size = n.toNatClampNeg := by simp [Std.Legacy.Range.size]
  rw [hsz]
  show wp (forIn (List.range' 0 n.toNatClampNeg 1) PUnit.unit _) _ E e d acts _
  refine wp_forIn_inv (fun rest s' => ∃ i, i ≤ n.toNatClampNeg ∧ rest = List.range' i (n.toNatClampNeg - i) ∧ s' = mu_st s c comp n.toNatClampNeg m.toNatClampNeg i) _ _ ⟨0, Nat.zero_le _, rfl, by rw [mu_st, mu_out_0]⟩ ?_ ?_
  · rintro x rest s' d' acts' Q' ⟨i, hi, hl, rfl⟩ hnext
    have hlt : i < n.toNatClampNeg := by
      rcases Nat.lt_or_ge i n.toNatClampNeg with h | h
      · exact h
      · rw [show n.toNatClampNeg - i = 0 from by omega] at hl; simp at hl
    obtain ⟨rfl, hrest⟩ : x = i ∧ rest = List.range' (i + 1) (n.toNatClampNeg - (i + 1)) := by
      rw [show n.toNatClampNeg - i = (n.toNatClampNeg - (i + 1)) + 1 from by omega, List.range'_succ] at hl
      exact ⟨(List.cons.inj hl).1, (List.cons.inj hl).2⟩
    obtain ⟨f1, f2, f3, f4⟩ := mu_facts s c comp n.toNatClampNeg m.toNatClampNeg x
    have hmul : x * m.toNatClampNeg + m.toNatClampNeg ≤ n.toNatClampNeg * m.toNatClampNeg := by
      have := Nat.mul_le_mul_right m.toNatClampNeg (show x + 1 ≤ n.toNatClampNeg from hlt)
      rw [Nat.succ_mul] at this; exact this
    simp only [wp_bind']
    refine mu_make1 (by rw [f3]; exact hkc) hkindc hm hl2 hh2 (by rw [f1]; omega) (by rw [f4]; omega) ?_
    have hlt0 : s.heap.size < (mu_st s c comp n.toNatClampNeg m.toNatClampNeg x).heap.size := by rw [f1]; omega
    simp only [wp_bind', W.writeLoc, wp_pure']
    refine ⟨mu_out c n.toNatClampNeg s.heap.size x, by rw [State.heap_pushCell_of_lt (h := hlt0)]; exact f2, by simp [mu_out], by rw [mu_out_size]; exact hlt, ?_, hnext _ _ _ ⟨x + 1, hlt, hrest, ?_⟩⟩
    · simp [mu_out, State.fitsSlot, State.slotType?, f3, hk, hkind, fits]
    · rw [f1, mu_out_s]; rfl
  · rintro s' d' acts' ⟨i, hi, hl, rfl⟩
    have hiN : i = n.toNatClampNeg := by
      rcases Nat.lt_or_ge i n.toNatClampNeg with h | h
      · rw [show n.toNatClampNeg - i = (n.toNatClampNeg - (i + 1)) + 1 from by omega, List.range'_succ] at hl; cases hl
      · omega
    subst hiN
    simp only [wp_pure']
    exact hq _ _
end MUA
section MUB
variable {p : Program} {l : Launch} {e : Env} {R : Room} {s : State} {m : MethodId} {args : Array Value} {below : List Frame} {meth : Method} {c : Code} {H : Heap} {locs : List Loc} {cells slots : Nat} {Q : State → Prop}
theorem mu_stand {T : State} (X : Stand p l e R s m args below meth c T locs cells slots) (cA comp : ClassId) (n k : Nat) : ∀ i, Stand p l e R s m args below meth c (mu_st T cA comp n k i) (locs ++ (List.range i).map fun j => ⟨T.heap.size, j⟩) (cells + 1 + i) (slots + n + i * k)
  | 0 => by
    have h := X.pushed (mu_out cA n T.heap.size 0)
    rw [mu_out_size] at h
    simpa [mu_st] using h
  | i + 1 => by
    have Xi := mu_stand X cA comp n k i
    obtain ⟨f1, f2, f3, f4⟩ := mu_facts T cA comp n k i
    have hlt0 : T.heap.size < (mu_st T cA comp n k i).heap.size := by rw [f1]; omega
    have hcell : ((mu_st T cA comp n k i).pushCell (mu_in comp k)).heap[T.heap.size]? = some (mu_out cA n T.heap.size i) := by rw [State.heap_pushCell_of_lt (h := hlt0)]; exact f2
    have h := (Xi.pushed (mu_in comp k)).stored hcell i (.ref (T.heap.size + 1 + i))
    rw [mu_out_s] at h
    have e1 : (mu_in comp k).slots.size = k := by simp [mu_in]
    rw [e1] at h
    have e2 : (locs ++ (List.range (i + 1)).map fun j => (⟨T.heap.size, j⟩ : Loc)) = (locs ++ (List.range i).map fun j => (⟨T.heap.size, j⟩ : Loc)) ++ [⟨T.heap.size, i⟩] := by simp [List.range_succ, List.append_assoc]
    have e3 : slots + n + (i + 1) * k = slots + n + i * k + k := by rw [Nat.succ_mul]; omega
    rw [e2, e3]
    exact h
/-- what the tables say of the class of int[][] -/
def mu_A (s : State) (cJ cI : ClassId) : Prop := ∃ kA : Class, s.vm.findClass "[I" = some cI ∧ s.vm.classes[cJ]? = some kA ∧ kA.kind = .array cI (.array .int) ∧ s.vm.findClass "[[I" = some cJ
theorem mu_W {cc : ByteArray} {own : String} {index : Nat} {cI cJ : ClassId} (hx : p.tables.exec = Jvm.exec) (hb : c.code = cc) (hown : s.vm.findClass own = some m.cls) (hclink : (Cond.classLink own index "[[I").before args s = true) (hover : mu_A s cJ cI) (harr : (Cond.arrayClass .int).before args s = true)
    {pc : Nat} {ls : Array Slot} {rest : List Value} (hdg : decode cc pc = .ok (.multianewarray index 2, 4)) (hcells : cells + 7 ≤ R.cells) (hslots : slots + 30 ≤ R.slots)
    (kk : ∀ H1 : Heap, H1.size = H.size + 7 → H1[H.size]? = some (arrV cJ 6 (fun j => .ref (H.size + 1 + j))) → (∀ j, j < 6 → H1[H.size + 1 + j]? = some (arrV cI 4 (fun _ => .int 0))) → (∀ q, q < H.size → H1[q]? = H[q]?) →
      W p l e R s m args below meth c H1 (locs ++ (List.range 6).map fun j => ⟨H.size, j⟩) (cells + 7) (slots + 30) Q (F0 m (pc + 4) ls (.ref H.size :: rest))) :
    W p l e R s m args below meth c H locs cells slots Q (F0 m pc ls (.int (nI 4) :: .int (nI 6) :: rest)) := by
  intro T hT X
  subst hT
  obtain ⟨kA, hcomp, hkA, hkindA, hnameA⟩ := hover
  obtain ⟨comp', kC, c9, hcomp', hkC, hkindC⟩ := Cond.arrayClass_spec harr
  have ecomp : comp' = cI := Option.some.inj (hcomp'.symm.trans hcomp)
  subst ecomp
  have hpl : e.platform.magicAccessors = ({} : Platform).magicAccessors := by rw [X.admits.platform]
  obtain ⟨c0, hfc0, hcl⟩ := Cond.classLink_spec hown hclink e.platform hpl
  cases hnameA.symm.trans hfc0
  obtain ⟨hg₁, hwarm₁, hready₁⟩ := State.classEntry (e := e) X.warmed hcl
  generalize T.vm.noted m.cls index (.cls cJ) = vm₁ at hg₁ hwarm₁ hready₁
  have hal : s.vm.Alike vm₁ := hwarm₁.alike
  obtain ⟨kA₁, hkA₁, heA⟩ := hal.2.2 _ _ hkA
  obtain ⟨kC₁, hkC₁, heC⟩ := hal.2.2 _ _ hkC
  have hkindA₁ : kA₁.kind = .array comp' (.array .int) := by rw [heA]; exact hkindA
  have hkindC₁ : kC₁.kind = .array c9 .int := by rw [heC]; exact hkindC
  have X₁ := X.noted hwarm₁
  have n6 : (nI 6).toNatClampNeg = 6 := nI_clamp (by decide)
  have n4 : (nI 4).toNatClampNeg = 4 := nI_clamp (by decide)
  obtain ⟨hr1, hr2⟩ := X.roomAbove hcells hslots
  have XF := mu_stand X₁ cJ comp' 6 4 6
  obtain ⟨f1, f2, f3, f4⟩ := mu_facts (T.setVm vm₁) cJ comp' 6 4 6
  obtain ⟨t, a1, b1⟩ := kk (mu_st (T.setVm vm₁) cJ comp' 6 4 6).heap (by rw [f1]; rfl)
    (by
      show (mu_st (T.setVm vm₁) cJ comp' 6 4 6).heap[(T.setVm vm₁).heap.size]? = _
      rw [f2, mu_out_arr]
      rfl)
    (fun j hj => by
      show (mu_st (T.setVm vm₁) cJ comp' 6 4 6).heap[(T.setVm vm₁).heap.size + 1 + j]? = _
      rw [mu_row _ _ _ _ _ 6 j hj, mu_in_arr])
    (fun q hq => mu_old (T.setVm vm₁) cJ comp' 6 4 hq 6) _ rfl XF
  refine ⟨t, ?_, b1⟩
  have hl1 : ¬ (nI 6).toNatClampNeg > e.platform.arrayLengthLimit := by rw [Launch.admits_arrayLengthLimit X.admits, n6]; decide
  have hh1 : ¬ (nI 6).toNatClampNeg * componentBytes (.array .int) > e.platform.maxHeapBytes := by rw [Launch.admits_maxHeapBytes X.admits, n6]; decide
  have hl2 : ¬ (nI 4).toNatClampNeg > e.platform.arrayLengthLimit := by rw [Launch.admits_arrayLengthLimit X.admits, n4]; decide
  have hh2 : ¬ (nI 4).toNatClampNeg * componentBytes .int > e.platform.maxHeapBytes := by rw [Launch.admits_maxHeapBytes X.admits, n4]; decide
  have hdg' : decode c.code (F0 m pc ls (.int (nI 4) :: .int (nI 6) :: rest)).pc = .ok (.multianewarray index 2, 4) := by rw [hb]; exact hdg
  jvm_step X.here [hx, hdg']
  simp only [Op.multianewarray.sem, wp_bind', W.resolveClassAt_links (State.method?_setTop (F0 m pc ls (.int (nI 4) :: .int (nI 6) :: rest)) X.here.top) hg₁]
  rw [W.popN, if_neg (by decide)]
  refine ⟨F0 m pc ls (.int (nI 4) :: .int (nI 6) :: rest), State.topJava?_setTop' (s := T.setVm vm₁) (F0 m pc ls (.int (nI 4) :: .int (nI 6) :: rest)) X.here.top, [.int (nI 6), .int (nI 4)], rest, rfl, rfl, ?_⟩
  simp only [List.mapM_cons, List.mapM_nil, wp_bind', wp_pure']
  refine mu_make2 (k := kA₁) (kc := kC₁) (comp := comp') (cc := c9) hkA₁ hkindA₁ hkC₁ hkindC₁ (nI_pos (by decide)) (nI_pos (by decide)) hl1 hh1 hl2 hh2 (by rw [n6]; show T.heap.size + 1 + 6 ≤ _; omega) (by rw [n6, n4]; show T.slotsUsed + 6 + 6 * 4 ≤ _; omega) (fun d' acts' => ?_)
  rw [n6, n4]
  have eS : ((T.setTop (F0 m pc ls (.int (nI 4) :: .int (nI 6) :: rest))).setVm vm₁).setTop { F0 m pc ls (.int (nI 4) :: .int (nI 6) :: rest) with stack := rest } = (T.setVm vm₁).setTop { F0 m pc ls (.int (nI 4) :: .int (nI 6) :: rest) with stack := rest } := by
    show ((T.setVm vm₁).setTop _).setTop _ = _
    rw [State.setTop_setTop]
  rw [eS, mu_top]
  simp only [wp_bind', W.mark, W.pushRef, State.topJava?_setTop' _ XF.here.top, Option.some.injEq, exists_eq_left', State.setTop_setTop, State.heap_setTop]
  intro acts
  simp [jvm, XF.here.top]
  exact a1
end MUB
end
section
/-! Numbers in ranges, the codes that a first call gives, the fresh state. -/
abbrev tyS (cI : ClassId) (cJ : ClassId × ClassId) : List (ClassId × FieldType) := [(cI, .int), (cJ.1, .array .int), (cJ.2, .long)]
theorem i_nlt {a b : Int32} : ¬ a < b ↔ b ≤ a := by rw [Int32.lt_iff_toInt_lt, Int32.le_iff_toInt_le]; omega
theorem i_nle {a b : Int32} : ¬ a ≤ b ↔ b < a := by rw [Int32.lt_iff_toInt_lt, Int32.le_iff_toInt_le]; omega
def inR (v lo hi : Int32) : Prop := ¬ v < lo ∧ ¬ hi < v
def inX (i n : Int32) : Prop := ¬ i < 0 ∧ i < n
theorem ix_of {a : Int32} {n : Nat} (hn : n + 1 < 2 ^ 31) : inX a (nI (n + 1)) ↔ inR a (nI 0) (nI n) := by
  unfold inX inR
  rw [nI_0]
  rw [Int32.lt_iff_toInt_lt, Int32.lt_iff_toInt_lt, Int32.lt_iff_toInt_lt, nI_toInt hn, nI_toInt (by omega : n < 2 ^ 31)]
  omega
theorem ix4 {a : Int32} : inX a (nI 4) ↔ inR a (nI 0) (nI 3) := ix_of (by decide)
theorem ix3 {a : Int32} : inX a (nI 3) ↔ inR a (nI 0) (nI 2) := ix_of (by decide)
theorem ix6 {a : Int32} : inX a (nI 6) ↔ inR a (nI 0) (nI 5) := ix_of (by decide)
theorem ix0 {a : Int32} : ¬ inX a (nI 0) := fun h => h.1 h.2
theorem in_nat {a : Int32} {n : Nat} (hn : n < 2 ^ 31) (h : inR a (nI 0) (nI n)) : ∃ j : Nat, j < n + 1 ∧ a = nI j := by
  obtain ⟨j, h1, h2⟩ := nI_of2 (x := a) (M := nI n) (n := n) (nI_toInt hn) (by have := h.1; rwa [nI_0] at this) (i_nlt.mp h.2)
  exact ⟨j, by omega, h2⟩
theorem inof3 {a : Int32} (h : inR a (nI 0) (nI 3)) : ∃ j : Nat, j < 4 ∧ a = nI j := in_nat (by decide) h
theorem inof5 {a : Int32} (h : inR a (nI 0) (nI 5)) : ∃ j : Nat, j < 6 ∧ a = nI j := in_nat (by decide) h
theorem ixof4 {a : Int32} (h : inX a (nI 4)) : ∃ j : Nat, j < 4 ∧ a = nI j := inof3 (ix4.mp h)
theorem ixof6 {a : Int32} (h : inX a (nI 6)) : ∃ j : Nat, j < 6 ∧ a = nI j := inof5 (ix6.mp h)
theorem ixof3 {a : Int32} (h : inX a (nI 3)) : ∃ j : Nat, j < 3 ∧ a = nI j := in_nat (n := 2) (by decide) (ix3.mp h)
theorem ixofN {a : Int32} {N : Nat} (hN : N ≤ 6) (h : inX a (nI N)) : ∃ j : Nat, j < N ∧ a = nI j := by
  cases N with
  | zero => exact absurd h ix0
  | succ n => exact in_nat (by omega) ((ix_of (by omega)).mp h)
theorem nI_ne6 {N : Nat} (h : N < 6) : ¬ nI N = nI 6 := fun q => by
  have := (nI_eq (a := N) (b := 6) (by omega) (by decide)).mp q
  omega
theorem nI_sub {j : Nat} (h : 2 ≤ j) : nI j - nI 2 = nI (j - 2) := by
  obtain ⟨k, rfl⟩ : ∃ k, j = k + 2 := ⟨j - 2, by omega⟩
  rw [show k + 2 - 2 = k by omega, ← nI_add, Int32.add_sub_cancel]
theorem mill_off {j : Nat} (h1 : j < 6) (h2 : 2 ≤ j) : Op.lookupswitch.offset [(0, 25), (1, 30)] 35 (nI j).toInt = 35 := by
  rw [nI_toInt (by omega)]
  rcases (show j = 2 ∨ j = 3 ∨ j = 4 ∨ j = 5 by omega) with rfl | rfl | rfl | rfl <;> rfl
noncomputable def kif (c : Prop) (a b : Int32) : Int32 := @ite Int32 c (Classical.propDecidable c) a b
noncomputable def kLogs (a b c : Int32) : Int32 := kif (inR a (nI 0) (nI 3)) (kif (inR b (nI 0) (nI 1000) ∧ inR c (nI 0) (nI 100000)) (nI 0) (nI 2)) (nI 1)
noncomputable def kPattern (P a b : Int32) : Int32 := kif (inR a (nI 0) (nI 3)) (kif (inR b (nI 1) (nI 480)) (kif (P = nI 6) (nI 3) (nI 0)) (nI 2)) (nI 1)
noncomputable def kGives (P a b c : Int32) : Int32 := kif (inX a P ∧ inR b (nI 0) (nI 3)) (kif (inR c (nI 0) (nI 9)) (nI 0) (nI 2)) (nI 1)
noncomputable def kOrder (a b c d : Int32) : Int32 := kif (inR a (nI 0) (nI 3)) (kif (inR b (nI 0) (nI 1000) ∧ inR c b (nI 1000) ∧ inR d (nI 0) (nI 1000)) (nI 0) (nI 2)) (nI 1)
noncomputable def kHours (a b : Int32) : Int32 := kif (inR a (nI 0) (nI 1440) ∧ inR b (nI 0) (nI 1440)) (nI 0) (nI 1)
noncomputable def kRun (a : Int32) : Int32 := kif (inR a (nI 0) (nI 20000)) (nI 0) (nI 1)
noncomputable def kSearch (a : Int32) : Int32 := kif (inR a (nI 0) (nI 3)) (nI 2) (nI 1)
noncomputable def kBest (a : Int32) : Int32 := kif (inR a (nI 0) (nI 2)) (nI 2) (nI 1)
noncomputable def kMade (a : Int32) : Int32 := kif (inR a (nI 0) (nI 3)) (nI 2) (nI 1)
noncomputable def kMill (a : Int32) : Int32 := kif (inR a (nI 0) (nI 5)) (nI 0) (nI 1)
noncomputable def kCost (a b : Int32) : Int32 := kif (inR a (nI 0) (nI 3)) (kif (inR b (nI 0) (nI 20000)) (nI 0) (nI 2)) (nI 1)
def fr (k j : Nat) : Int32 := if k = 1 then (if j = 10 then nI 480 else nI 0) else nI 0
def fm (k j : Nat) : Int32 := if k = 0 then (if j = 11 then nI 480 else nI 0) else nI 0
/-- a search's world of zeros; the reference's -/
def ZSS (sg : Nat → Nat → Int32) : Prop := (∀ k : Nat, k < 24 → k ≠ 0 → k ≠ 8 → ∀ i : Nat, sg k i = nI 0) ∧ sg 8 9 = nI 0 ∧ sg 0 5 = nI 0
theorem ZSS.wa {sg : Nat → Nat → Int32} (h : ZSS sg) (k : Nat) (h0 : k ≠ 0) (h8 : k ≠ 8) (i : Nat) : ZSS (gw_u sg k (upd (sg k) i (nI 0))) := by
  refine ⟨fun k' a1 a2 a3 j => ?_, ?_, ?_⟩
  · by_cases e : k' = k
    · subst e
      rw [gw_u_s]
      unfold upd
      split
      · rfl
      · exact h.1 k' a1 a2 a3 j
    · rw [gw_u_n _ _ e]
      exact h.1 k' a1 a2 a3 j
  · rw [gw_u_n _ _ (Ne.symm h8)]; exact h.2.1
  · rw [gw_u_n _ _ (Ne.symm h0)]; exact h.2.2
theorem ZSS.wf {sg : Nat → Nat → Int32} (h : ZSS sg) {j : Nat} (hj : j ≠ 5) (x : Int32) : ZSS (gw_u sg 0 (upd (sg 0) j x)) := by
  refine ⟨fun k' a1 a2 a3 i => ?_, ?_, ?_⟩
  · rw [gw_u_n _ _ a2]; exact h.1 k' a1 a2 a3 i
  · rw [gw_u_n _ _ (by decide)]; exact h.2.1
  · rw [gw_u_s]
    unfold upd
    rw [if_neg (Ne.symm hj)]
    exact h.2.2
theorem ZSS.wc {sg : Nat → Nat → Int32} (h : ZSS sg) : ZSS (gw_u sg 0 (upd (sg 0) 5 (nI 0))) := by
  refine ⟨fun k' a1 a2 a3 i => ?_, ?_, ?_⟩
  · rw [gw_u_n _ _ a2]; exact h.1 k' a1 a2 a3 i
  · rw [gw_u_n _ _ (by decide)]; exact h.2.1
  · rw [gw_u_s]
    unfold upd
    rw [if_pos rfl]
theorem ZSS.wcp {sg : Nat → Nat → Int32} (h : ZSS sg) (k d n : Nat) (hk : k < 24) (hk0 : k ≠ 0) (hk8 : k ≠ 8) (hd : d < 24) (hd0 : d ≠ 0) (hd8 : d ≠ 8) : ZSS (gw_u sg d (va_cpy (sg k) (sg d) 0 0 n)) := by
  refine ⟨fun k' a1 a2 a3 i => ?_, ?_, ?_⟩
  · by_cases e : k' = d
    · subst e
      rw [gw_u_s]
      unfold va_cpy
      split
      · exact h.1 k hk hk0 hk8 _
      · exact h.1 k' a1 a2 a3 i
    · rw [gw_u_n _ _ e]
      exact h.1 k' a1 a2 a3 i
  · rw [gw_u_n _ _ (Ne.symm hd8)]; exact h.2.1
  · rw [gw_u_n _ _ (Ne.symm hd0)]; exact h.2.2
def ZSM (sg : Nat → Nat → Int32) : Prop := (∀ k : Nat, k < 13 → k ≠ 0 → ∀ i : Nat, sg k i = nI 0) ∧ sg 0 3 = nI 0
theorem ZSM.wa {sg : Nat → Nat → Int32} (h : ZSM sg) (k : Nat) (h0 : k ≠ 0) (i : Nat) : ZSM (gw_u sg k (upd (sg k) i (nI 0))) := by
  refine ⟨fun k' a1 a2 j => ?_, ?_⟩
  · by_cases e : k' = k
    · subst e
      rw [gw_u_s]
      unfold upd
      split
      · rfl
      · exact h.1 k' a1 a2 j
    · rw [gw_u_n _ _ e]
      exact h.1 k' a1 a2 j
  · rw [gw_u_n _ _ (Ne.symm h0)]; exact h.2
theorem ZSM.wf {sg : Nat → Nat → Int32} (h : ZSM sg) {j : Nat} (hj : j ≠ 3) (x : Int32) : ZSM (gw_u sg 0 (upd (sg 0) j x)) := by
  refine ⟨fun k' a1 a2 i => ?_, ?_⟩
  · rw [gw_u_n _ _ a2]; exact h.1 k' a1 a2 i
  · rw [gw_u_s]
    unfold upd
    rw [if_neg (Ne.symm hj)]
    exact h.2
theorem zm_fresh {sg : Nat → Nat → Int32} (h : ∀ k j : Nat, k < 13 → sg k j = fm k j) : ZSM sg := by
  refine ⟨fun k h1 h2 i => ?_, ?_⟩
  · rw [h k i h1]; simp [fm, h2]
  · rw [h 0 _ (by decide)]; rfl
theorem zs_of {sg : Nat → Nat → Int32} (pl : List Nat) (hpl : ∀ k, k < 24 → gw_p pl k < 33 ∧ (k ≠ 8 → gw_p pl k ≠ 1)) (h8 : gw_p pl 8 = 1) (h0 : gw_p pl 0 ≠ 1) (h : ∀ k j : Nat, k < 33 → sg k j = fr k j) : ZSS (fun j => sg (gw_p pl j)) := by
  refine ⟨fun k h1 h2 h3 i => ?_, ?_, ?_⟩
  · show sg (gw_p pl k) i = _
    rw [h _ i (hpl k h1).1]; simp [fr, (hpl k h1).2 h3]
  · show sg (gw_p pl 8) _ = _
    rw [h8, h 1 _ (by decide)]; rfl
  · show sg (gw_p pl 0) _ = _
    rw [h _ _ (hpl 0 (by decide)).1]; simp [fr, h0]
theorem zs_latest {sg : Nat → Nat → Int32} (h : ∀ k j : Nat, k < 33 → sg k j = fr k j) : ZSS (fun j => sg (gw_p [2, 19, 20, 21, 22, 23, 24, 25, 1, 4, 5, 6, 7, 8, 9, 10, 11, 12, 13, 14, 15, 16, 17, 18] j)) := zs_of _ (by decide) (by decide) (by decide) h
theorem zs_trial {sg : Nat → Nat → Int32} (h : ∀ k j : Nat, k < 33 → sg k j = fr k j) : ZSS (fun j => sg (gw_p [3, 26, 27, 28, 29, 30, 31, 32, 1, 4, 5, 6, 7, 8, 9, 10, 11, 12, 13, 14, 15, 16, 17, 18] j)) := zs_of _ (by decide) (by decide) (by decide) h
theorem zs_back {pl : List Nat} {n : Nat} {sg1 sg2 : Nat → Nat → Int32} (h1 : ∀ j, j < n → sg2 (gw_p pl j) = sg1 j) (hn : n = 24) (h : ZSS sg1) : ZSS (fun j => sg2 (gw_p pl j)) := by
  subst hn
  refine ⟨fun k a1 a2 a3 i => ?_, ?_, ?_⟩
  · show sg2 (gw_p pl k) i = _
    rw [h1 k a1]; exact h.1 k a1 a2 a3 i
  · show sg2 (gw_p pl 8) _ = _
    rw [h1 8 (by decide)]; exact h.2.1
  · show sg2 (gw_p pl 0) _ = _
    rw [h1 0 (by decide)]; exact h.2.2
theorem gw_same {pl : List Nat} {n : Nat} {sg sg1 sg2 : Nat → Nat → Int32} (hs : sg1 = fun j => sg (gw_p pl j)) (h1 : ∀ j, j < n → sg2 (gw_p pl j) = sg1 j) (h2 : ∀ k, k ∉ pl → sg2 k = sg k) (hn : pl.length = n) : sg2 = sg := by
  funext k
  by_cases hk : k ∈ pl
  · obtain ⟨j, hj⟩ := List.getElem?_of_mem hk
    have hj2 : j < pl.length := (List.getElem?_eq_some_iff.mp hj).1
    have e : gw_p pl j = k := Option.some.inj ((gw_pat hj2).symm.trans hj)
    rw [← e, h1 j (by omega), hs]
  · exact h2 k hk
theorem wr_at {sg : Nat → Nat → Int32} (h : ∀ k j : Nat, k < 33 → sg k j = fr k j) (k j : Nat) (hk : k < 33) : (fun j => sg (gw_p [0, 1, 2, 3, 4, 5, 6, 7, 8, 9, 10, 11, 12, 13, 14, 15, 16, 17, 18, 19, 20, 21, 22, 23, 24, 25, 26, 27, 28, 29, 30, 31, 32] j)) k j = fr k j := by
  have e : gw_p [0, 1, 2, 3, 4, 5, 6, 7, 8, 9, 10, 11, 12, 13, 14, 15, 16, 17, 18, 19, 20, 21, 22, 23, 24, 25, 26, 27, 28, 29, 30, 31, 32] k = k := by revert k; decide
  show sg (gw_p [0, 1, 2, 3, 4, 5, 6, 7, 8, 9, 10, 11, 12, 13, 14, 15, 16, 17, 18, 19, 20, 21, 22, 23, 24, 25, 26, 27, 28, 29, 30, 31, 32] k) j = _
  rw [e]
  exact h k j hk
def SS : List gw_K := [.inl (0, [some 8, some 1, some 2, some 3, none, none, some 4, some 5, some 6, none, none, none, none, none, some 7]), .inr (6, none), .inr (4, none), .inr (4, none), .inr (4, none), .inr (4, none), .inr (4, none), .inr (6, none), .inl (1, [some 9, some 10, some 11, some 12, some 13, some 14, some 15, some 16, some 17, none, none, none]), .inr (4, none), .inr (4, none), .inr (6, none), .inr (6, none), .inr (6, some (some 18)), .inr (4, none), .inr (4, none), .inr (4, none), .inr (4, none), .inr (4, none), .inr (4, none), .inr (4, none), .inr (4, none), .inr (4, none), .inr (4, none)]
def SC : List gw_K := [.inl (2, [some 1, some 2, some 3, none, none, none]), .inl (1, [some 4, some 5, some 6, some 7, some 8, some 9, some 10, some 11, some 12, none, none, none]), .inl (0, [some 1, some 19, some 20, some 21, none, none, some 22, some 23, some 24, none, none, none, none, none, some 25]), .inl (0, [some 1, some 26, some 27, some 28, none, none, some 29, some 30, some 31, none, none, none, none, none, some 32]), .inr (4, none), .inr (4, none), .inr (6, none), .inr (6, none), .inr (6, some (some 13)), .inr (4, none), .inr (4, none), .inr (4, none), .inr (4, none), .inr (4, none), .inr (4, none), .inr (4, none), .inr (4, none), .inr (4, none), .inr (4, none), .inr (6, none), .inr (4, none), .inr (4, none), .inr (4, none), .inr (4, none), .inr (4, none), .inr (6, none), .inr (6, none), .inr (4, none), .inr (4, none), .inr (4, none), .inr (4, none), .inr (4, none), .inr (6, none)]
def SW : List gw_K := [.inl (2, [some 1, some 2, some 3, none, none, none]), .inl (1, [some 4, some 5, some 6, some 7, some 8, some 9, some 10, some 11, some 12, none, none, none]), .inl (0, [some 1, some 19, some 20, some 21, none, none, some 22, some 23, some 24, none, none, none, none, none, some 25]), .inl (0, [some 1, some 26, some 27, some 28, none, none, some 29, some 30, some 31, none, none, none, none, none, some 32]), .inr (4, none), .inr (4, none), .inr (6, none), .inr (6, none), .inr (6, some (some 13)), .inr (4, none), .inr (4, none), .inr (4, none), .inr (4, none), .inr (4, none), .inr (4, none), .inr (4, none), .inr (4, none), .inr (4, none), .inr (4, none), .inr (6, none), .inr (4, none), .inr (4, none), .inr (4, none), .inr (4, none), .inr (4, none), .inr (6, none), .inr (6, none), .inr (4, none), .inr (4, none), .inr (4, none), .inr (4, none), .inr (4, none), .inr (6, none), .inr (1, some none)]
def SM : List gw_K := [.inl (3, [none, some 1, some 2, none, some 3, some 4, some 5, some 6, some 7, some 8, some 9, none, none, none, none, none, none, none, none, some 10, none, some 11, some 12, none, none, none, none]), .inr (4, none), .inr (4, none), .inr (6, none), .inr (6, none), .inr (24, none), .inr (4, none), .inr (4, none), .inr (4, none), .inr (4, none), .inr (6, none), .inr (6, none), .inr (6, none)]
def SE : List gw_K := []
def SL : List gw_K := [.inl (2, [some 1, some 2, some 3, none, none, none]), .inl (1, [some 4, some 5, some 6, some 7, some 8, some 9, some 10, some 11, some 12, none, none, none]), .inl (0, [some 1, some 19, some 20, some 21, none, none, some 22, some 23, some 24, none, none, none, none, none, some 25]), .inl (0, [some 1, some 26, some 27, some 28, none, none, some 29, some 30, some 31, none, none, none, none, none, some 32]), .inr (4, none), .inr (4, none), .inr (6, none), .inr (6, none), .inr (6, some (some 13)), .inr (4, none), .inr (4, none), .inr (4, none), .inr (4, none), .inr (4, none), .inr (4, none), .inr (4, none), .inr (4, none), .inr (4, none), .inr (4, none), .inr (6, none), .inr (4, none), .inr (4, none), .inr (4, none), .inr (4, none), .inr (4, none), .inr (6, none), .inr (6, none), .inr (4, none), .inr (4, none), .inr (4, none), .inr (4, none), .inr (4, none), .inr (6, none), .inr (1, some none), .inl (3, [none, some 35, some 36, none, some 37, some 38, some 39, some 40, some 41, some 42, some 43, none, none, none, none, none, none, none, none, some 44, none, some 45, some 46, none, none, none, none]), .inr (4, none), .inr (4, none), .inr (6, none), .inr (6, none), .inr (24, none), .inr (4, none), .inr (4, none), .inr (4, none), .inr (4, none), .inr (6, none), .inr (6, none), .inr (6, none)]
def SY : List gw_K := [.inl (1, [some 1, some 2, some 3, some 4, some 5, some 6, some 7, some 8, some 9, none, none, none]), .inr (4, none), .inr (4, none), .inr (6, none), .inr (6, none), .inr (6, some (some 10)), .inr (4, none), .inr (4, none), .inr (4, none), .inr (4, none), .inr (4, none), .inr (4, none), .inr (4, none), .inr (4, none), .inr (4, none), .inr (4, none), .inr (6, none)]
def frY (k j : Nat) : Int32 := if k = 0 then (if j = 10 then nI 480 else nI 0) else nI 0
def frZ (_ _ : Nat) : Int32 := nI 0
def gxT : List (String × Nat × String) := [(RX2, 145, "there is no such number"), (RX2, 150, "a number is out of its range"), (RX2, 153, "there is no best plan"), (RX2, 53, "there is no room for a pattern more"), (RX2, 96, "there was no search since something was told")]
def gxN : List Cond := [.castable "java/lang/IllegalArgumentException" "java/lang/IllegalArgumentException", .castable "java/lang/IllegalStateException" "java/lang/IllegalStateException", .castable "java/lang/IndexOutOfBoundsException" "java/lang/IndexOutOfBoundsException", .declares ⟨"java/lang/Exception", "<init>", "(Ljava/lang/String;)V"⟩, .declares ⟨"java/lang/RuntimeException", "<init>", "(Ljava/lang/String;)V"⟩, .declares ⟨"java/lang/Throwable", "<init>", "(Ljava/lang/String;)V"⟩, .fieldLinkNest RX0 100 RX1 "classOf" "[I" RX2, .fieldLinkNest RX0 107 RX1 "minutesALog" "[I" RX2, .fieldLinkNest RX0 110 RX1 "change" "I" RX2, .fieldLinkNest RX0 113 RX1 "centsALog" "[I" RX2, .fieldLinkNest RX0 116 RX1 "boardsALog" "[[I" RX2, .fieldLinkNest RX0 61 RX1 "logsLeft" "[I" RX2, .fieldLinkNest RX0 66 RX1 "stock" "[I" RX2, .fieldLinkNest RX0 69 RX1 "minutesADay" "I" RX2, .fieldLinkNest RX0 78 RX1 "least" "[I" RX2, .fieldLinkNest RX0 79 RX1 "most" "[I" RX2, .fieldLinkNest RX0 80 RX1 "worth" "[I" RX2, .fieldLinkNest RX0 81 RX1 "patterns" "I" RX2, .fieldLinkNest RX2 109 RX0 "bestCounts" "[I" RX2, .fieldLinkNest RX2 112 RX0 "bestGain" "I" RX2, .fieldLinkNest RX2 136 RX1 "stock" "[I" RX2, .fieldLinkNest RX2 37 RX1 "logsLeft" "[I" RX2, .fieldLinkNest RX2 41 RX1 "centsALog" "[I" RX2, .fieldLinkNest RX2 47 RX1 "patterns" "I" RX2, .fieldLinkNest RX2 58 RX1 "classOf" "[I" RX2, .fieldLinkNest RX2 61 RX1 "minutesALog" "[I" RX2, .fieldLinkNest RX2 64 RX1 "boardsALog" "[[I" RX2, .fieldLinkNest RX2 68 RX1 "least" "[I" RX2, .fieldLinkNest RX2 71 RX1 "most" "[I" RX2, .fieldLinkNest RX2 74 RX1 "worth" "[I" RX2, .fieldLinkNest RX2 77 RX1 "minutesADay" "I" RX2, .fieldLinkNest RX2 80 RX1 "change" "I" RX2, .fieldLinkNest RX2 90 RX0 "spent" "Z" RX2, .fieldLinkNest RX2 93 RX0 "found" "Z" RX2, .fieldLinkNest RX2 98 RX0 "steps" "I" RX2, .methodLinkNest RX2 101 yX1_boundOfGain RX2, .methodLinkNest RX2 115 yX1_minutesOf RX2, .methodLinkNest RX2 119 yX1_patternsUsedIn RX2, .methodLinkNest RX2 122 yX1_madeBy RX2, .methodLinkNest RX2 126 yX1_doPlan RX2, .methodLinkNest RX2 83 yX0_goThroughPlans RX2]
theorem vxDN : ∀ w ∈ vxD, w ∈ gxN := by decide +kernel
end
section
/-! THE INVARIANT: the number of patterns is at most 6, the classes of patterns are below 4. -/
theorem nI_mul (a b : Nat) : nI a * nI b = nI (a * b) := (Int32.ofNat_mul a b).symm
def IvG (y kp c : Nat) (sg : Nat → Nat → Int32) : Prop := (∃ N : Nat, N ≤ 6 ∧ sg y kp = nI N) ∧ ∀ i : Nat, i < 6 → ∃ f : Nat, f < 4 ∧ sg c i = nI f
def KG (y kp c : Nat) (a b : Nat → Nat → Int32) : Prop := IvG y kp c b ∧ b y kp = a y kp
theorem KG.refl {y kp c : Nat} {a : Nat → Nat → Int32} (h : IvG y kp c a) : KG y kp c a a := ⟨h, rfl⟩
theorem KG.trans {y kp c : Nat} {a b d : Nat → Nat → Int32} (h : KG y kp c a b) (h2 : KG y kp c b d) : KG y kp c a d := ⟨h2.1, h2.2.trans h.2⟩
theorem KG.wa {y kp c : Nat} {a b : Nat → Nat → Int32} (h : KG y kp c a b) (k : Nat) (h1 : k ≠ y) (h2 : k ≠ c) (f : Nat → Int32) : KG y kp c a (gw_u b k f) := by
  refine ⟨⟨?_, ?_⟩, ?_⟩
  · rw [gw_u_n b f (Ne.symm h1)]; exact h.1.1
  · rw [gw_u_n b f (Ne.symm h2)]; exact h.1.2
  · rw [gw_u_n b f (Ne.symm h1)]; exact h.2
theorem KG.wf {y kp c : Nat} {a b : Nat → Nat → Int32} (h : KG y kp c a b) {j : Nat} (hj : j ≠ kp) (x : Int32) (hyc : y ≠ c := by decide) : KG y kp c a (gw_u b y (upd (b y) j x)) := by
  have e : gw_u b y (upd (b y) j x) y kp = b y kp := by
    rw [gw_u_s]
    unfold upd
    rw [if_neg (Ne.symm hj)]
  refine ⟨⟨?_, ?_⟩, ?_⟩
  · rw [e]; exact h.1.1
  · rw [gw_u_n b _ (Ne.symm hyc)]; exact h.1.2
  · rw [e]; exact h.2
theorem KG.wc {y kp c : Nat} {a b : Nat → Nat → Int32} (h : KG y kp c a b) (i : Nat) {f : Nat} (hf : f < 4) (hyc : y ≠ c := by decide) : KG y kp c a (gw_u b c (upd (b c) i (nI f))) := by
  refine ⟨⟨?_, fun k hk => ?_⟩, ?_⟩
  · rw [gw_u_n b _ hyc]; exact h.1.1
  · rw [gw_u_s]
    unfold upd
    split
    · exact ⟨f, hf, rfl⟩
    · exact h.1.2 k hk
  · rw [gw_u_n b _ hyc]; exact h.2
theorem KG.wp {y kp c : Nat} {a b : Nat → Nat → Int32} (h : KG y kp c a b) {n : Nat} (hn : n ≤ 6) (hyc : y ≠ c := by decide) : IvG y kp c (gw_u b y (upd (b y) kp (nI n))) := by
  refine ⟨⟨n, hn, ?_⟩, ?_⟩
  · rw [gw_u_s]
    unfold upd
    rw [if_pos rfl]
  · rw [gw_u_n b _ (Ne.symm hyc)]; exact h.1.2
theorem KG.back {y kp c n : Nat} {pl : List Nat} {sg sg1 sg2 : Nat → Nat → Int32} (h : KG y kp c (fun j => sg (gw_p pl j)) sg1) (h1 : ∀ j, j < n → sg2 (gw_p pl j) = sg1 j) (hy : y < n) (hc : c < n) : KG (gw_p pl y) kp (gw_p pl c) sg sg2 := by
  refine ⟨⟨?_, ?_⟩, ?_⟩
  · rw [h1 y hy]; exact h.1.1
  · rw [h1 c hc]; exact h.1.2
  · rw [h1 y hy]; exact h.2
theorem rowSS : ∀ i, i < 6 → SS[18 + i]? = some (.inr (4, none)) := fun i hi => by rcases (show i = 0 ∨ i = 1 ∨ i = 2 ∨ i = 3 ∨ i = 4 ∨ i = 5 by omega) with rfl | rfl | rfl | rfl | rfl | rfl <;> rfl
theorem rowSY : ∀ i, i < 6 → SY[10 + i]? = some (.inr (4, none)) := fun i hi => by rcases (show i = 0 ∨ i = 1 ∨ i = 2 ∨ i = 3 ∨ i = 4 ∨ i = 5 by omega) with rfl | rfl | rfl | rfl | rfl | rfl <;> rfl
theorem rowSC : ∀ i, i < 6 → SC[13 + i]? = some (.inr (4, none)) := fun i hi => by rcases (show i = 0 ∨ i = 1 ∨ i = 2 ∨ i = 3 ∨ i = 4 ∨ i = 5 by omega) with rfl | rfl | rfl | rfl | rfl | rfl <;> rfl
/-- the reference's: besides, two of its fields are 0 or 1 -/
def IvM (sg : Nat → Nat → Int32) : Prop := (∃ N : Nat, N ≤ 6 ∧ sg 0 3 = nI N) ∧ (∀ i : Nat, i < 6 → ∃ f : Nat, f < 4 ∧ sg 3 i = nI f) ∧ (sg 0 23 = nI 0 ∨ sg 0 23 = nI 1) ∧ (sg 0 24 = nI 0 ∨ sg 0 24 = nI 1)
def KM (a b : Nat → Nat → Int32) : Prop := IvM b ∧ b 0 3 = a 0 3
theorem KM.refl {a : Nat → Nat → Int32} (h : IvM a) : KM a a := ⟨h, rfl⟩
theorem KM.trans {a b d : Nat → Nat → Int32} (h : KM a b) (h2 : KM b d) : KM a d := ⟨h2.1, h2.2.trans h.2⟩
theorem KM.wa {a b : Nat → Nat → Int32} (h : KM a b) (k : Nat) (h1 : k ≠ 0) (h2 : k ≠ 3) (f : Nat → Int32) : KM a (gw_u b k f) := by
  refine ⟨⟨?_, ?_, ?_, ?_⟩, ?_⟩
  · rw [gw_u_n b f (Ne.symm h1)]; exact h.1.1
  · rw [gw_u_n b f (Ne.symm h2)]; exact h.1.2.1
  · rw [gw_u_n b f (Ne.symm h1)]; exact h.1.2.2.1
  · rw [gw_u_n b f (Ne.symm h1)]; exact h.1.2.2.2
  · rw [gw_u_n b f (Ne.symm h1)]; exact h.2
theorem m_upd {b : Nat → Nat → Int32} {j k : Nat} (x : Int32) (h : k ≠ j) : gw_u b 0 (upd (b 0) j x) 0 k = b 0 k := by
  rw [gw_u_s]
  unfold upd
  rw [if_neg h]
theorem m_upd_s (b : Nat → Nat → Int32) (j : Nat) (x : Int32) : gw_u b 0 (upd (b 0) j x) 0 j = x := by
  rw [gw_u_s]
  unfold upd
  rw [if_pos rfl]
theorem KM.wf {a b : Nat → Nat → Int32} (h : KM a b) {j : Nat} (h1 : j ≠ 3) (h2 : j ≠ 23) (h3 : j ≠ 24) (x : Int32) : KM a (gw_u b 0 (upd (b 0) j x)) := by
  refine ⟨⟨?_, ?_, ?_, ?_⟩, ?_⟩
  · rw [m_upd x (Ne.symm h1)]; exact h.1.1
  · rw [gw_u_n b _ (by decide)]; exact h.1.2.1
  · rw [m_upd x (Ne.symm h2)]; exact h.1.2.2.1
  · rw [m_upd x (Ne.symm h3)]; exact h.1.2.2.2
  · rw [m_upd x (Ne.symm h1)]; exact h.2
theorem KM.wh {a b : Nat → Nat → Int32} (h : KM a b) {x : Int32} (hx : x = nI 0 ∨ x = nI 1) : KM a (gw_u b 0 (upd (b 0) 23 x)) := by
  refine ⟨⟨?_, ?_, ?_, ?_⟩, ?_⟩
  · rw [m_upd x (by decide)]; exact h.1.1
  · rw [gw_u_n b _ (by decide)]; exact h.1.2.1
  · rw [m_upd_s]; exact hx
  · rw [m_upd x (by decide)]; exact h.1.2.2.2
  · rw [m_upd x (by decide)]; exact h.2
theorem KM.ww {a b : Nat → Nat → Int32} (h : KM a b) {x : Int32} (hx : x = nI 0 ∨ x = nI 1) : KM a (gw_u b 0 (upd (b 0) 24 x)) := by
  refine ⟨⟨?_, ?_, ?_, ?_⟩, ?_⟩
  · rw [m_upd x (by decide)]; exact h.1.1
  · rw [gw_u_n b _ (by decide)]; exact h.1.2.1
  · rw [m_upd x (by decide)]; exact h.1.2.2.1
  · rw [m_upd_s]; exact hx
  · rw [m_upd x (by decide)]; exact h.2
theorem KM.wc {a b : Nat → Nat → Int32} (h : KM a b) (i : Nat) {f : Nat} (hf : f < 4) : KM a (gw_u b 3 (upd (b 3) i (nI f))) := by
  refine ⟨⟨?_, fun k hk => ?_, ?_, ?_⟩, ?_⟩
  · rw [gw_u_n b _ (by decide)]; exact h.1.1
  · rw [gw_u_s]
    unfold upd
    split
    · exact ⟨f, hf, rfl⟩
    · exact h.1.2.1 k hk
  · rw [gw_u_n b _ (by decide)]; exact h.1.2.2.1
  · rw [gw_u_n b _ (by decide)]; exact h.1.2.2.2
  · rw [gw_u_n b _ (by decide)]; exact h.2
theorem KM.wp {a b : Nat → Nat → Int32} (h : KM a b) {n : Nat} (hn : n ≤ 6) : IvM (gw_u b 0 (upd (b 0) 3 (nI n))) := by
  refine ⟨⟨n, hn, m_upd_s _ _ _⟩, ?_, ?_, ?_⟩
  · rw [gw_u_n b _ (by decide)]; exact h.1.2.1
  · rw [m_upd _ (by decide)]; exact h.1.2.2.1
  · rw [m_upd _ (by decide)]; exact h.1.2.2.2
theorem nb {x : Int32} (h : x = nI 0 ∨ x = nI 1) : narrow .boolean (.int x) = .int x := by rcases h with rfl | rfl <;> rfl
theorem nbf {x : Int32} (h : x = nI 0 ∨ x = nI 1) : fits .boolean (.int x) = true := by rcases h with rfl | rfl <;> rfl
theorem nI_sub1 {j : Nat} (h : 1 ≤ j) : nI j - nI 1 = nI (j - 1) := by
  obtain ⟨k, rfl⟩ : ∃ k, j = k + 1 := ⟨j - 1, by omega⟩
  exact nI_pred k
theorem nI_m1 {j : Nat} (h : 1 ≤ j) : nI j + Int32.ofInt (-1) = nI (j - 1) := by
  rw [← nI_sub1 h, Int32.sub_eq_add_neg]
  rfl
theorem inof20000 {a : Int32} (h : inR a (nI 0) (nI 20000)) : ∃ j : Nat, j < 20001 ∧ a = nI j := in_nat (by decide) h
end
section
abbrev rmX2_needIndex : Room := { frames := 6, cells := 1, slots := 6, locals := 82 }
set_option maxRecDepth 100000 in
set_option maxHeartbeats 4000000 in
theorem m_X2_needIndex (l : Launch) (hl9 : l.stackTraces = false) (D : va_G) (cI : ClassId) (cJ : ClassId × ClassId) (ad : Nat → Nat) (sg0 : Nat → Nat → Int32) (sz : Nat) (x0 : Int32) (x1 : Int32) : gc_B l yX2_needIndex wsX2_needIndex rmX2_needIndex D vwCl (tyS cI cJ) cI cJ gxT gxN SE [.int x0, .int x1] ad sg0 sz 1 6 (fun v sg2 => v = none ∧ inX x0 x1) (fun E sg2 => E = "java/lang/IndexOutOfBoundsException" ∧ ¬ inX x0 x1) := by
  refine gc_Bv_of (cc := cX2_needIndex) (maxL := 2) (by decide) rfl (Nat.le_of_ble_eq_true rfl) ?_
  intro p e s m below meth c A ls Q hin hE hret kt kx
  obtain ⟨⟨hx, hb, hml, hown, hts⟩, -, hlocks, -, hA, hP, hK, hD, hS, hl⟩ := hin
  have hts : ∀ w ∈ wsAll, w.before ([.int x0, .int x1] : List Value).toArray s = true := fun w h => hts w (List.mem_cons_of_mem _ h)
  have hl : lv_has ls 2 [(0, .int x0), (1, .int x1)] := hl
  refine lv_iload_n hx hb dX2_needIndex_0 rfl (lv_at hl 0 rfl) ?_
  refine lv_if_lt (tgt := 9) hx hb dX2_needIndex_1 (by decide) (fun h1 => ?_) (fun h1 => ?_)
  · obtain ⟨sa9, hstr⟩ := hE.2.2.1 (RX2, 145, "there is no such number") (by decide)
    exact kx "java/lang/IndexOutOfBoundsException" "there is no such number" ["java/lang/RuntimeException", "java/lang/Exception"] 143 145 147 sa9 _ _ _ _ _ 9 ls hl9 (by decide) (by decide) (hts _ a0) (hts _ a1) hstr (vx_hat (B := .castable "java/lang/IndexOutOfBoundsException" "java/lang/IndexOutOfBoundsException" :: vxD) (fun w hw => hts w (vxg_147 w hw)) vxb_147 (vx_c (hE.nest _ (.castable "java/lang/IndexOutOfBoundsException" "java/lang/IndexOutOfBoundsException") (by decide) rfl) (fun w hw => hE.nest _ w (vxDN w hw) (vxDT w hw)))) (by decide +kernel) (hl.1.trans hml.symm) dX2_needIndex_9 dX2_needIndex_12 dX2_needIndex_13 dX2_needIndex_15 dX2_needIndex_18 (by decide) (by decide) (by decide) (by decide) (by decide) (by decide) (show _ = _ ∧ _ from ⟨rfl, by first | exact fun q => q.1 h1 | exact fun q => h6 q.2⟩) hP hS
  · refine lv_iload_n hx hb dX2_needIndex_4 rfl (lv_at hl 0 rfl) ?_
    refine lv_iload_n hx hb dX2_needIndex_5 rfl (lv_at hl 1 rfl) ?_
    refine lv_icmp_lt (tgt := 19) hx hb dX2_needIndex_6 (by decide) (fun h6 => ?_) (fun h6 => ?_)
    · refine W.widen (k := 1) (n := 6) (by decide) (by decide) ?_
      exact hret _ _ _ _ _ hP hS dX2_needIndex_19 (⟨rfl, h1, h6⟩)
    · obtain ⟨sa9, hstr⟩ := hE.2.2.1 (RX2, 145, "there is no such number") (by decide)
      exact kx "java/lang/IndexOutOfBoundsException" "there is no such number" ["java/lang/RuntimeException", "java/lang/Exception"] 143 145 147 sa9 _ _ _ _ _ 9 ls hl9 (by decide) (by decide) (hts _ a0) (hts _ a1) hstr (vx_hat (B := .castable "java/lang/IndexOutOfBoundsException" "java/lang/IndexOutOfBoundsException" :: vxD) (fun w hw => hts w (vxg_147 w hw)) vxb_147 (vx_c (hE.nest _ (.castable "java/lang/IndexOutOfBoundsException" "java/lang/IndexOutOfBoundsException") (by decide) rfl) (fun w hw => hE.nest _ w (vxDN w hw) (vxDT w hw)))) (by decide +kernel) (hl.1.trans hml.symm) dX2_needIndex_9 dX2_needIndex_12 dX2_needIndex_13 dX2_needIndex_15 dX2_needIndex_18 (by decide) (by decide) (by decide) (by decide) (by decide) (by decide) (show _ = _ ∧ _ from ⟨rfl, by first | exact fun q => q.1 h1 | exact fun q => h6 q.2⟩) hP hS
abbrev rmX2_needRange : Room := { frames := 6, cells := 1, slots := 6, locals := 82 }
set_option maxRecDepth 100000 in
set_option maxHeartbeats 4000000 in
theorem m_X2_needRange (l : Launch) (hl9 : l.stackTraces = false) (D : va_G) (cI : ClassId) (cJ : ClassId × ClassId) (ad : Nat → Nat) (sg0 : Nat → Nat → Int32) (sz : Nat) (x0 : Int32) (x1 : Int32) (x2 : Int32) : gc_B l yX2_needRange wsX2_needRange rmX2_needRange D vwCl (tyS cI cJ) cI cJ gxT gxN SE [.int x0, .int x1, .int x2] ad sg0 sz 1 6 (fun v sg2 => v = none ∧ inR x0 x1 x2) (fun E sg2 => E = "java/lang/IllegalArgumentException" ∧ ¬ inR x0 x1 x2) := by
  refine gc_Bv_of (cc := cX2_needRange) (maxL := 3) (by decide) rfl (Nat.le_of_ble_eq_true rfl) ?_
  intro p e s m below meth c A ls Q hin hE hret kt kx
  obtain ⟨⟨hx, hb, hml, hown, hts⟩, -, hlocks, -, hA, hP, hK, hD, hS, hl⟩ := hin
  have hts : ∀ w ∈ wsAll, w.before ([.int x0, .int x1, .int x2] : List Value).toArray s = true := fun w h => hts w (List.mem_cons_of_mem _ h)
  have hl : lv_has ls 3 [(0, .int x0), (1, .int x1), (2, .int x2)] := hl
  refine lv_iload_n hx hb dX2_needRange_0 rfl (lv_at hl 0 rfl) ?_
  refine lv_iload_n hx hb dX2_needRange_1 rfl (lv_at hl 1 rfl) ?_
  refine lv_icmp_lt (tgt := 10) hx hb dX2_needRange_2 (by decide) (fun h1 => ?_) (fun h1 => ?_)
  · obtain ⟨sa9, hstr⟩ := hE.2.2.1 (RX2, 150, "a number is out of its range") (by decide)
    exact kx "java/lang/IllegalArgumentException" "a number is out of its range" ["java/lang/RuntimeException", "java/lang/Exception"] 148 150 152 sa9 _ _ _ _ _ 10 ls hl9 (by decide) (by decide) (hts _ a2) (hts _ a3) hstr (vx_hat (B := .castable "java/lang/IllegalArgumentException" "java/lang/IllegalArgumentException" :: vxD) (fun w hw => hts w (vxg_152 w hw)) vxb_152 (vx_c (hE.nest _ (.castable "java/lang/IllegalArgumentException" "java/lang/IllegalArgumentException") (by decide) rfl) (fun w hw => hE.nest _ w (vxDN w hw) (vxDT w hw)))) (by decide +kernel) (hl.1.trans hml.symm) dX2_needRange_10 dX2_needRange_13 dX2_needRange_14 dX2_needRange_16 dX2_needRange_19 (by decide) (by decide) (by decide) (by decide) (by decide) (by decide) (show _ = _ ∧ _ from ⟨rfl, by first | exact fun q => q.1 h1 | exact fun q => h6 (i_nlt.mp q.2)⟩) hP hS
  · refine lv_iload_n hx hb dX2_needRange_5 rfl (lv_at hl 0 rfl) ?_
    refine lv_iload_n hx hb dX2_needRange_6 rfl (lv_at hl 2 rfl) ?_
    refine lv_icmp_le (tgt := 20) hx hb dX2_needRange_7 (by decide) (fun h6 => ?_) (fun h6 => ?_)
    · refine W.widen (k := 1) (n := 6) (by decide) (by decide) ?_
      exact hret _ _ _ _ _ hP hS dX2_needRange_20 (⟨rfl, h1, i_nlt.mpr h6⟩)
    · obtain ⟨sa9, hstr⟩ := hE.2.2.1 (RX2, 150, "a number is out of its range") (by decide)
      exact kx "java/lang/IllegalArgumentException" "a number is out of its range" ["java/lang/RuntimeException", "java/lang/Exception"] 148 150 152 sa9 _ _ _ _ _ 10 ls hl9 (by decide) (by decide) (hts _ a2) (hts _ a3) hstr (vx_hat (B := .castable "java/lang/IllegalArgumentException" "java/lang/IllegalArgumentException" :: vxD) (fun w hw => hts w (vxg_152 w hw)) vxb_152 (vx_c (hE.nest _ (.castable "java/lang/IllegalArgumentException" "java/lang/IllegalArgumentException") (by decide) rfl) (fun w hw => hE.nest _ w (vxDN w hw) (vxDT w hw)))) (by decide +kernel) (hl.1.trans hml.symm) dX2_needRange_10 dX2_needRange_13 dX2_needRange_14 dX2_needRange_16 dX2_needRange_19 (by decide) (by decide) (by decide) (by decide) (by decide) (by decide) (show _ = _ ∧ _ from ⟨rfl, by first | exact fun q => q.1 h1 | exact fun q => h6 (i_nlt.mp q.2)⟩) hP hS
abbrev rmX2_needBest : Room := { frames := 6, cells := 1, slots := 6, locals := 82 }
set_option maxRecDepth 100000 in
set_option maxHeartbeats 4000000 in
theorem m_X2_needBest (l : Launch) (hl9 : l.stackTraces = false) (D : va_G) (cI : ClassId) (cJ : ClassId × ClassId) (ad : Nat → Nat) (sg0 : Nat → Nat → Int32) (sz : Nat) : gc_B l yX2_needBest wsX2_needBest rmX2_needBest D vwCl (tyS cI cJ) cI cJ gxT gxN SS [.ref (ad 0)] ad sg0 sz 1 6 (fun v sg2 => v = none ∧ sg2 = sg0 ∧ ¬ sg0 0 12 = 0) (fun E sg2 => E = "java/lang/IllegalStateException" ∧ sg2 = sg0 ∧ sg0 0 12 = 0) := by
  refine gc_Bv_of (cc := cX2_needBest) (maxL := 1) (by decide) rfl (Nat.le_of_ble_eq_true rfl) ?_
  intro p e s m below meth c A ls Q hin hE hret kt kx
  obtain ⟨⟨hx, hb, hml, hown, hts⟩, -, hlocks, -, hA, hP, hK, hD, hS, hl⟩ := hin
  have hts : ∀ w ∈ wsAll, w.before ([.ref (ad 0)] : List Value).toArray s = true := fun w h => hts w (List.mem_cons_of_mem _ h)
  have hl : lv_has ls 1 [(0, .ref (ad 0))] := hl
  refine lv_aload_n hx hb dX2_needBest_0 rfl (lv_at hl 0 rfl) ?_
  refine gw_getiN (C := RX0) (T := TX0) (N := 15) hx hb hts inwX0 hown hK hP 0 12 rfl rfl rfl (by decide) (hE.nest _ (.fieldLinkNest RX2 93 RX0 "found" "Z" RX2) (by decide +kernel) rfl) (fun _ h9 => h9) dX2_needBest_1 ?_
  refine lv_topi (fun v1 hv1 => ?_)
  refine lv_if_ne (tgt := 17) hx hb dX2_needBest_4 (by decide) (fun h1 => ?_) (fun h1 => ?_)
  · refine W.widen (k := 1) (n := 6) (by decide) (by decide) ?_
    exact hret _ _ _ _ _ hP hS dX2_needBest_17 (⟨rfl, rfl, by rw [← hv1]; exact h1⟩)
  · obtain ⟨sa9, hstr⟩ := hE.2.2.1 (RX2, 153, "there is no best plan") (by decide)
    exact kx "java/lang/IllegalStateException" "there is no best plan" ["java/lang/RuntimeException", "java/lang/Exception"] 51 153 55 sa9 _ _ _ _ _ 7 ls hl9 (by decide) (by decide) (hts _ a4) (hts _ a5) hstr (vx_hat (B := .castable "java/lang/IllegalStateException" "java/lang/IllegalStateException" :: vxD) (fun w hw => hts w (vxg_55 w hw)) vxb_55 (vx_c (hE.nest _ (.castable "java/lang/IllegalStateException" "java/lang/IllegalStateException") (by decide) rfl) (fun w hw => hE.nest _ w (vxDN w hw) (vxDT w hw)))) (by decide +kernel) (hl.1.trans hml.symm) dX2_needBest_7 dX2_needBest_10 dX2_needBest_11 dX2_needBest_13 dX2_needBest_16 (by decide) (by decide) (by decide) (by decide) (by decide) (by decide) (show _ = _ ∧ _ from ⟨rfl, rfl, by rw [← hv1]; exact h1⟩) hP hS
end
section
abbrev rmX0_startWithEmptyPlan : Room := { frames := 0, cells := 0, slots := 0, locals := 0 }
set_option maxRecDepth 100000 in
set_option maxHeartbeats 4000000 in
theorem m_X0_startWithEmptyPlan (l : Launch) (hl9 : l.stackTraces = false) (D : va_G) (cI : ClassId) (cJ : ClassId × ClassId) (ad : Nat → Nat) (sg0 : Nat → Nat → Int32) (sz : Nat) (hI : IvG 8 9 11 sg0) : gc_M l yX0_startWithEmptyPlan wsX0_startWithEmptyPlan rmX0_startWithEmptyPlan D vwCl (tyS cI cJ) cI cJ gxT gxN SS [.ref (ad 0)] ad sg0 sz 0 0 (fun v sg2 => KG 8 9 11 sg0 sg2 ∧ v = none) := by
  refine gc_Mv_of (cc := cX0_startWithEmptyPlan) (maxL := 2) (by decide) rfl (Nat.le_of_ble_eq_true rfl) ?_
  intro p e s m below meth c A ls Q hin hE hret
  obtain ⟨⟨hx, hb, hml, hown, hts⟩, -, hlocks, -, hA, hP, hK, hD, hS, hl⟩ := hin
  have hts : ∀ w ∈ wsAll, w.before ([.ref (ad 0)] : List Value).toArray s = true := fun w h => hts w (List.mem_cons_of_mem _ h)
  have hl : lv_has ls 2 [(0, .ref (ad 0))] := hl
  have hk := KG.refl hI
  have c51 : ∀ (n9 : Nat) (i : Nat) (sg : Nat → Nat → Int32) (H : Heap) (locs : List Loc) (ls : Array Slot), 4 - i = n9 → i ≤ 4 → KG 8 9 11 sg0 sg → va_P D vwCl (gw cI cJ ad sg SS) H → va_D A (gw cI cJ ad sg SS) → va_S A s.heap H locs → lv_has ls 2 [(1, .int (nI i)), (0, .ref (ad 0))] → W p l e rmX0_startWithEmptyPlan s m ([.ref (ad 0)] : List Value).toArray below meth c H locs 0 0 Q (F0 m 51 ls []) := by
    intro n9
    induction n9 using Nat.strongRecOn with
    | ind n9 ih =>
    intro i sg H locs ls hn h1 hk hP hD hS hl
    subst hn
    refine lv_iload_n hx hb dX0_startWithEmptyPlan_51 rfl (lv_at hl 0 rfl) ?_
    refine lv_iconst (v := (nI 4)) hx hb dX0_startWithEmptyPlan_52 (by decide) ?_
    refine lv_icmp_ge (tgt := 77) hx hb dX0_startWithEmptyPlan_53 (by decide) (fun hc1 => ?_) (fun hc1 => ?_)
    · have hc1 : 4 ≤ i := (nI_leI (a := 4) (b := i) (by omega) (by omega)).mp hc1
      refine lv_aload_n hx hb dX0_startWithEmptyPlan_77 rfl (lv_at hl 1 rfl) ?_
      refine lv_aload_n hx hb dX0_startWithEmptyPlan_78 rfl (lv_at hl 1 rfl) ?_
      refine gw_getr (C := RX0) (T := TX0) (N := 15) hx hb hts inwX0 hown hK hP 0 0 8 rfl rfl rfl (by decide) (hts _ a6) (fun _ h9 => h9) dX0_startWithEmptyPlan_79 ?_
      refine gw_getiN (C := RX1) (T := TX1) (N := 12) hx hb hts inwX1 hown hK hP 8 10 rfl rfl rfl (by decide) (hE.nest _ (.fieldLinkNest RX0 69 RX1 "minutesADay" "I" RX2) (by decide +kernel) rfl) (fun _ h9 => h9) dX0_startWithEmptyPlan_82 ?_
      refine lv_topi (fun v2 hv2 => ?_)
      refine gw_put (C := RX0) (T := TX0) (N := 15) (ty := .int) hx hb hts inwX0 tyX0 tyX0_ok nmX0 hown hK hP hD hS 0 4 rfl rfl rfl (by decide) (hts _ a7) (fun _ h9 => h9) rfl (by decide +kernel) rfl rfl dX0_startWithEmptyPlan_85 (fun H locs hP hD hS => ?_)
      obtain ⟨sg3, esg3⟩ : ∃ z : Nat → Nat → Int32, z = gw_u sg 0 (upd (sg 0) 4 v2) := ⟨_, rfl⟩
      rw [← esg3] at hP hD
      have hk : KG 8 9 11 sg0 sg3 := by rw [esg3]; exact hk.wa 0 (by omega) (by omega) _
      refine lv_aload_n hx hb dX0_startWithEmptyPlan_88 rfl (lv_at hl 1 rfl) ?_
      refine lv_iconst (v := (nI 0)) hx hb dX0_startWithEmptyPlan_89 (by decide) ?_
      refine gw_put (C := RX0) (T := TX0) (N := 15) (ty := .int) hx hb hts inwX0 tyX0 tyX0_ok nmX0 hown hK hP hD hS 0 5 rfl rfl rfl (by decide) (hts _ a8) (fun _ h9 => h9) rfl (by decide +kernel) rfl rfl dX0_startWithEmptyPlan_90 (fun H locs hP hD hS => ?_)
      obtain ⟨sg4, esg4⟩ : ∃ z : Nat → Nat → Int32, z = gw_u sg3 0 (upd (sg3 0) 5 (nI 0)) := ⟨_, rfl⟩
      rw [← esg4] at hP hD
      have hk : KG 8 9 11 sg0 sg4 := by rw [esg4]; exact hk.wa 0 (by omega) (by omega) _
      exact hret _ _ _ _ _ hP hS dX0_startWithEmptyPlan_93 (⟨hk, rfl⟩)
    · have hc1 : ¬ (4 ≤ i) := fun q => hc1 ((nI_leI (a := 4) (b := i) (by omega) (by omega)).mpr q)
      refine lv_aload_n hx hb dX0_startWithEmptyPlan_56 rfl (lv_at hl 1 rfl) ?_
      refine gw_getr (C := RX0) (T := TX0) (N := 15) hx hb hts inwX0 hown hK hP 0 3 3 rfl rfl rfl (by decide) (hts _ a9) (fun _ h9 => h9) dX0_startWithEmptyPlan_57 ?_
      refine lv_iload_n hx hb dX0_startWithEmptyPlan_60 rfl (lv_at hl 0 rfl) ?_
      refine lv_aload_n hx hb dX0_startWithEmptyPlan_61 rfl (lv_at hl 1 rfl) ?_
      refine gw_getr (C := RX0) (T := TX0) (N := 15) hx hb hts inwX0 hown hK hP 0 0 8 rfl rfl rfl (by decide) (hts _ a6) (fun _ h9 => h9) dX0_startWithEmptyPlan_62 ?_
      refine gw_getrN (C := RX1) (T := TX1) (N := 12) hx hb hts inwX1 hown hK hP 8 8 17 rfl rfl rfl (by decide) (hE.nest _ (.fieldLinkNest RX0 66 RX1 "stock" "[I" RX2) (by decide +kernel) rfl) (fun _ h9 => h9) dX0_startWithEmptyPlan_65 ?_
      refine lv_iload_n hx hb dX0_startWithEmptyPlan_68 rfl (lv_at hl 0 rfl) ?_
      refine gw_ald hx hb hK hP 17 0 (n := 4) rfl rfl (i := i) (by omega) (by decide) dX0_startWithEmptyPlan_69 ?_
      refine lv_topi (fun v5 hv5 => ?_)
      refine gw_ast hx hb hK hP hD hS 3 0 (n := 4) rfl rfl (i := i) (by omega) (by decide) dX0_startWithEmptyPlan_70 (fun H locs hP hD hS => ?_)
      obtain ⟨sg6, esg6⟩ : ∃ z : Nat → Nat → Int32, z = gw_u sg 3 (upd (sg 3) i v5) := ⟨_, rfl⟩
      rw [← esg6] at hP hD
      have hk : KG 8 9 11 sg0 sg6 := by rw [esg6]; exact hk.wa 3 (by omega) (by omega) _
      refine lv_iinc (k := 0) (v := (nI (i + 1))) (lv' := [(1, .int (nI (i + 1))), (0, .ref (ad 0))]) hx hb dX0_startWithEmptyPlan_71 hl rfl (nI_1 _) (by decide) rfl (fun ls hl => ?_)
      refine lv_goto (tgt := 51) hx hb dX0_startWithEmptyPlan_74 (by decide) ?_
      exact ih _ (by omega) (i + 1) _ _ _ _ rfl (by omega) hk hP hD hS (lv_sub hl [0, 1] rfl)
  have c23 : ∀ (n9 : Nat) (i : Nat) (sg : Nat → Nat → Int32) (H : Heap) (locs : List Loc) (ls : Array Slot), 4 - i = n9 → i ≤ 4 → KG 8 9 11 sg0 sg → va_P D vwCl (gw cI cJ ad sg SS) H → va_D A (gw cI cJ ad sg SS) → va_S A s.heap H locs → lv_has ls 2 [(1, .int (nI i)), (0, .ref (ad 0))] → W p l e rmX0_startWithEmptyPlan s m ([.ref (ad 0)] : List Value).toArray below meth c H locs 0 0 Q (F0 m 23 ls []) := by
    intro n9
    induction n9 using Nat.strongRecOn with
    | ind n9 ih =>
    intro i sg H locs ls hn h1 hk hP hD hS hl
    subst hn
    refine lv_iload_n hx hb dX0_startWithEmptyPlan_23 rfl (lv_at hl 0 rfl) ?_
    refine lv_iconst (v := (nI 4)) hx hb dX0_startWithEmptyPlan_24 (by decide) ?_
    refine lv_icmp_ge (tgt := 49) hx hb dX0_startWithEmptyPlan_25 (by decide) (fun hc7 => ?_) (fun hc7 => ?_)
    · have hc7 : 4 ≤ i := (nI_leI (a := 4) (b := i) (by omega) (by omega)).mp hc7
      refine lv_iconst (v := (nI 0)) hx hb dX0_startWithEmptyPlan_49 (by decide) ?_
      refine lv_istore_n (lv' := [(1, .int (nI 0)), (0, .ref (ad 0))]) hx hb dX0_startWithEmptyPlan_50 rfl hl (by decide) rfl (fun ls hl => ?_)
      exact c51 _ 0 _ _ _ _ rfl (by omega) hk hP hD hS (lv_sub hl [0, 1] rfl)
    · have hc7 : ¬ (4 ≤ i) := fun q => hc7 ((nI_leI (a := 4) (b := i) (by omega) (by omega)).mpr q)
      refine lv_aload_n hx hb dX0_startWithEmptyPlan_28 rfl (lv_at hl 1 rfl) ?_
      refine gw_getr (C := RX0) (T := TX0) (N := 15) hx hb hts inwX0 hown hK hP 0 2 2 rfl rfl rfl (by decide) (hts _ a10) (fun _ h9 => h9) dX0_startWithEmptyPlan_29 ?_
      refine lv_iload_n hx hb dX0_startWithEmptyPlan_32 rfl (lv_at hl 0 rfl) ?_
      refine lv_aload_n hx hb dX0_startWithEmptyPlan_33 rfl (lv_at hl 1 rfl) ?_
      refine gw_getr (C := RX0) (T := TX0) (N := 15) hx hb hts inwX0 hown hK hP 0 0 8 rfl rfl rfl (by decide) (hts _ a6) (fun _ h9 => h9) dX0_startWithEmptyPlan_34 ?_
      refine gw_getrN (C := RX1) (T := TX1) (N := 12) hx hb hts inwX1 hown hK hP 8 0 9 rfl rfl rfl (by decide) (hE.nest _ (.fieldLinkNest RX0 61 RX1 "logsLeft" "[I" RX2) (by decide +kernel) rfl) (fun _ h9 => h9) dX0_startWithEmptyPlan_37 ?_
      refine lv_iload_n hx hb dX0_startWithEmptyPlan_40 rfl (lv_at hl 0 rfl) ?_
      refine gw_ald hx hb hK hP 9 0 (n := 4) rfl rfl (i := i) (by omega) (by decide) dX0_startWithEmptyPlan_41 ?_
      refine lv_topi (fun v8 hv8 => ?_)
      refine gw_ast hx hb hK hP hD hS 2 0 (n := 4) rfl rfl (i := i) (by omega) (by decide) dX0_startWithEmptyPlan_42 (fun H locs hP hD hS => ?_)
      obtain ⟨sg9, esg9⟩ : ∃ z : Nat → Nat → Int32, z = gw_u sg 2 (upd (sg 2) i v8) := ⟨_, rfl⟩
      rw [← esg9] at hP hD
      have hk : KG 8 9 11 sg0 sg9 := by rw [esg9]; exact hk.wa 2 (by omega) (by omega) _
      refine lv_iinc (k := 0) (v := (nI (i + 1))) (lv' := [(1, .int (nI (i + 1))), (0, .ref (ad 0))]) hx hb dX0_startWithEmptyPlan_43 hl rfl (nI_1 _) (by decide) rfl (fun ls hl => ?_)
      refine lv_goto (tgt := 23) hx hb dX0_startWithEmptyPlan_46 (by decide) ?_
      exact ih _ (by omega) (i + 1) _ _ _ _ rfl (by omega) hk hP hD hS (lv_sub hl [0, 1] rfl)
  have c2 : ∀ (n9 : Nat) (i : Nat) (sg : Nat → Nat → Int32) (H : Heap) (locs : List Loc) (ls : Array Slot), 6 - i = n9 → i ≤ 6 → KG 8 9 11 sg0 sg → va_P D vwCl (gw cI cJ ad sg SS) H → va_D A (gw cI cJ ad sg SS) → va_S A s.heap H locs → lv_has ls 2 [(1, .int (nI i)), (0, .ref (ad 0))] → W p l e rmX0_startWithEmptyPlan s m ([.ref (ad 0)] : List Value).toArray below meth c H locs 0 0 Q (F0 m 2 ls []) := by
    intro n9
    induction n9 using Nat.strongRecOn with
    | ind n9 ih =>
    intro i sg H locs ls hn h1 hk hP hD hS hl
    subst hn
    refine lv_iload_n hx hb dX0_startWithEmptyPlan_2 rfl (lv_at hl 0 rfl) ?_
    refine lv_bipush (v := (nI 6)) hx hb dX0_startWithEmptyPlan_3 (by decide) ?_
    refine lv_icmp_ge (tgt := 21) hx hb dX0_startWithEmptyPlan_5 (by decide) (fun hc10 => ?_) (fun hc10 => ?_)
    · have hc10 : 6 ≤ i := (nI_leI (a := 6) (b := i) (by omega) (by omega)).mp hc10
      refine lv_iconst (v := (nI 0)) hx hb dX0_startWithEmptyPlan_21 (by decide) ?_
      refine lv_istore_n (lv' := [(1, .int (nI 0)), (0, .ref (ad 0))]) hx hb dX0_startWithEmptyPlan_22 rfl hl (by decide) rfl (fun ls hl => ?_)
      exact c23 _ 0 _ _ _ _ rfl (by omega) hk hP hD hS (lv_sub hl [0, 1] rfl)
    · have hc10 : ¬ (6 ≤ i) := fun q => hc10 ((nI_leI (a := 6) (b := i) (by omega) (by omega)).mpr q)
      refine lv_aload_n hx hb dX0_startWithEmptyPlan_8 rfl (lv_at hl 1 rfl) ?_
      refine gw_getr (C := RX0) (T := TX0) (N := 15) hx hb hts inwX0 hown hK hP 0 1 1 rfl rfl rfl (by decide) (hts _ a11) (fun _ h9 => h9) dX0_startWithEmptyPlan_9 ?_
      refine lv_iload_n hx hb dX0_startWithEmptyPlan_12 rfl (lv_at hl 0 rfl) ?_
      refine lv_iconst (v := (nI 0)) hx hb dX0_startWithEmptyPlan_13 (by decide) ?_
      refine gw_ast hx hb hK hP hD hS 1 0 (n := 6) rfl rfl (i := i) (by omega) (by decide) dX0_startWithEmptyPlan_14 (fun H locs hP hD hS => ?_)
      obtain ⟨sg11, esg11⟩ : ∃ z : Nat → Nat → Int32, z = gw_u sg 1 (upd (sg 1) i (nI 0)) := ⟨_, rfl⟩
      rw [← esg11] at hP hD
      have hk : KG 8 9 11 sg0 sg11 := by rw [esg11]; exact hk.wa 1 (by omega) (by omega) _
      refine lv_iinc (k := 0) (v := (nI (i + 1))) (lv' := [(1, .int (nI (i + 1))), (0, .ref (ad 0))]) hx hb dX0_startWithEmptyPlan_15 hl rfl (nI_1 _) (by decide) rfl (fun ls hl => ?_)
      refine lv_goto (tgt := 2) hx hb dX0_startWithEmptyPlan_18 (by decide) ?_
      exact ih _ (by omega) (i + 1) _ _ _ _ rfl (by omega) hk hP hD hS (lv_sub hl [0, 1] rfl)
  refine lv_iconst (v := (nI 0)) hx hb dX0_startWithEmptyPlan_0 (by decide) ?_
  refine lv_istore_n (lv' := [(1, .int (nI 0)), (0, .ref (ad 0))]) hx hb dX0_startWithEmptyPlan_1 rfl hl (by decide) rfl (fun ls hl => ?_)
  exact c2 _ 0 _ _ _ _ rfl (by omega) hk hP hD hS (lv_sub hl [0, 1] rfl)
abbrev rmX0_takeOrders : Room := { frames := 0, cells := 0, slots := 0, locals := 0 }
set_option maxRecDepth 100000 in
set_option maxHeartbeats 4000000 in
theorem m_X0_takeOrders (l : Launch) (hl9 : l.stackTraces = false) (D : va_G) (cI : ClassId) (cJ : ClassId × ClassId) (ad : Nat → Nat) (sg0 : Nat → Nat → Int32) (sz : Nat) (x1 : Int32) (hI : IvG 8 9 11 sg0) : gc_M l yX0_takeOrders wsX0_takeOrders rmX0_takeOrders D vwCl (tyS cI cJ) cI cJ gxT gxN SS [.ref (ad 0), .int x1] ad sg0 sz 0 0 (fun v sg2 => KG 8 9 11 sg0 sg2 ∧ v = none) := by
  refine gc_Mv_of (cc := cX0_takeOrders) (maxL := 4) (by decide) rfl (Nat.le_of_ble_eq_true rfl) ?_
  intro p e s m below meth c A ls Q hin hE hret
  obtain ⟨⟨hx, hb, hml, hown, hts⟩, -, hlocks, -, hA, hP, hK, hD, hS, hl⟩ := hin
  have hts : ∀ w ∈ wsAll, w.before ([.ref (ad 0), .int x1] : List Value).toArray s = true := fun w h => hts w (List.mem_cons_of_mem _ h)
  have hl : lv_has ls 4 [(0, .ref (ad 0)), (1, .int x1)] := hl
  have hk := KG.refl hI
  have c2 : ∀ (n9 : Nat) (i : Nat) (sg : Nat → Nat → Int32) (H : Heap) (locs : List Loc) (ls : Array Slot), 4 - i = n9 → i ≤ 4 → KG 8 9 11 sg0 sg → va_P D vwCl (gw cI cJ ad sg SS) H → va_D A (gw cI cJ ad sg SS) → va_S A s.heap H locs → lv_has ls 4 [(2, .int (nI i)), (0, .ref (ad 0)), (1, .int x1)] → W p l e rmX0_takeOrders s m ([.ref (ad 0), .int x1] : List Value).toArray below meth c H locs 0 0 Q (F0 m 2 ls []) := by
    intro n9
    induction n9 using Nat.strongRecOn with
    | ind n9 ih =>
    intro i sg H locs ls hn h1 hk hP hD hS hl
    subst hn
    refine lv_iload_n hx hb dX0_takeOrders_2 rfl (lv_at hl 0 rfl) ?_
    refine lv_iconst (v := (nI 4)) hx hb dX0_takeOrders_3 (by decide) ?_
    refine lv_icmp_ge (tgt := 93) hx hb dX0_takeOrders_4 (by decide) (fun hc1 => ?_) (fun hc1 => ?_)
    · have hc1 : 4 ≤ i := (nI_leI (a := 4) (b := i) (by omega) (by omega)).mp hc1
      exact hret _ _ _ _ _ hP hS dX0_takeOrders_93 (⟨hk, rfl⟩)
    · have hc1 : ¬ (4 ≤ i) := fun q => hc1 ((nI_leI (a := 4) (b := i) (by omega) (by omega)).mpr q)
      refine lv_iload_n hx hb dX0_takeOrders_7 rfl (lv_at hl 0 rfl) ?_
      refine lv_iload_n hx hb dX0_takeOrders_8 rfl (lv_at hl 2 rfl) ?_
      refine lv_icmp_eq (tgt := 16) hx hb dX0_takeOrders_9 (by decide) (fun hc2 => ?_) (fun hc2 => ?_)
      · refine lv_iconst (v := (nI 0)) hx hb dX0_takeOrders_16 (by decide) ?_
        refine lv_istore_n (lv' := [(3, .int (nI 0)), (2, .int (nI i)), (0, .ref (ad 0)), (1, .int x1)]) hx hb dX0_takeOrders_17 rfl hl (by decide) rfl (fun ls hl => ?_)
        refine lv_aload_n hx hb dX0_takeOrders_18 rfl (lv_at hl 2 rfl) ?_
        refine gw_getr (C := RX0) (T := TX0) (N := 15) hx hb hts inwX0 hown hK hP 0 6 4 rfl rfl rfl (by decide) (hts _ a12) (fun _ h9 => h9) dX0_takeOrders_19 ?_
        refine lv_iload_n hx hb dX0_takeOrders_22 rfl (lv_at hl 1 rfl) ?_
        refine lv_iload_n hx hb dX0_takeOrders_23 rfl (lv_at hl 0 rfl) ?_
        refine lv_if_eq (tgt := 39) hx hb dX0_takeOrders_24 (by decide) (fun hc3 => ?_) (fun hc3 => ?_)
        · refine lv_iconst (v := (nI 0)) hx hb dX0_takeOrders_39 (by decide) ?_
          refine gw_ast hx hb hK hP hD hS 4 0 (n := 4) rfl rfl (i := i) (by omega) (by decide) dX0_takeOrders_40 (fun H locs hP hD hS => ?_)
          obtain ⟨sg4, esg4⟩ : ∃ z : Nat → Nat → Int32, z = gw_u sg 4 (upd (sg 4) i (nI 0)) := ⟨_, rfl⟩
          rw [← esg4] at hP hD
          have hk : KG 8 9 11 sg0 sg4 := by rw [esg4]; exact hk.wa 4 (by omega) (by omega) _
          refine lv_aload_n hx hb dX0_takeOrders_41 rfl (lv_at hl 2 rfl) ?_
          refine gw_getr (C := RX0) (T := TX0) (N := 15) hx hb hts inwX0 hown hK hP 0 7 5 rfl rfl rfl (by decide) (hts _ a13) (fun _ h9 => h9) dX0_takeOrders_42 ?_
          refine lv_iload_n hx hb dX0_takeOrders_45 rfl (lv_at hl 1 rfl) ?_
          refine lv_iload_n hx hb dX0_takeOrders_46 rfl (lv_at hl 0 rfl) ?_
          refine lv_if_eq (tgt := 62) hx hb dX0_takeOrders_47 (by decide) (fun hc5 => ?_) (fun hc5 => ?_)
          · refine lv_iconst (v := (nI 0)) hx hb dX0_takeOrders_62 (by decide) ?_
            refine gw_ast hx hb hK hP hD hS 5 0 (n := 4) rfl rfl (i := i) (by omega) (by decide) dX0_takeOrders_63 (fun H locs hP hD hS => ?_)
            obtain ⟨sg6, esg6⟩ : ∃ z : Nat → Nat → Int32, z = gw_u sg4 5 (upd (sg4 5) i (nI 0)) := ⟨_, rfl⟩
            rw [← esg6] at hP hD
            have hk : KG 8 9 11 sg0 sg6 := by rw [esg6]; exact hk.wa 5 (by omega) (by omega) _
            refine lv_aload_n hx hb dX0_takeOrders_64 rfl (lv_at hl 2 rfl) ?_
            refine gw_getr (C := RX0) (T := TX0) (N := 15) hx hb hts inwX0 hown hK hP 0 8 6 rfl rfl rfl (by decide) (hts _ a14) (fun _ h9 => h9) dX0_takeOrders_65 ?_
            refine lv_iload_n hx hb dX0_takeOrders_68 rfl (lv_at hl 1 rfl) ?_
            refine lv_iload_n hx hb dX0_takeOrders_69 rfl (lv_at hl 0 rfl) ?_
            refine lv_if_eq (tgt := 85) hx hb dX0_takeOrders_70 (by decide) (fun hc7 => ?_) (fun hc7 => ?_)
            · refine lv_iconst (v := (nI 0)) hx hb dX0_takeOrders_85 (by decide) ?_
              refine gw_ast hx hb hK hP hD hS 6 0 (n := 4) rfl rfl (i := i) (by omega) (by decide) dX0_takeOrders_86 (fun H locs hP hD hS => ?_)
              obtain ⟨sg8, esg8⟩ : ∃ z : Nat → Nat → Int32, z = gw_u sg6 6 (upd (sg6 6) i (nI 0)) := ⟨_, rfl⟩
              rw [← esg8] at hP hD
              have hk : KG 8 9 11 sg0 sg8 := by rw [esg8]; exact hk.wa 6 (by omega) (by omega) _
              refine lv_iinc (k := 1) (v := (nI (i + 1))) (lv' := [(2, .int (nI (i + 1))), (3, .int (nI 0)), (0, .ref (ad 0)), (1, .int x1)]) hx hb dX0_takeOrders_87 hl rfl (nI_1 _) (by decide) rfl (fun ls hl => ?_)
              refine lv_goto (tgt := 2) hx hb dX0_takeOrders_90 (by decide) ?_
              exact ih _ (by omega) (i + 1) _ _ _ _ rfl (by omega) hk hP hD hS (lv_sub hl [0, 2, 3] rfl)
            · exact absurd hc7 (by decide)
          · exact absurd hc5 (by decide)
        · exact absurd hc3 (by decide)
      · refine lv_iconst (v := (nI 1)) hx hb dX0_takeOrders_12 (by decide) ?_
        refine lv_goto (tgt := 17) hx hb dX0_takeOrders_13 (by decide) ?_
        refine lv_istore_n (lv' := [(3, .int (nI 1)), (2, .int (nI i)), (0, .ref (ad 0)), (1, .int x1)]) hx hb dX0_takeOrders_17 rfl hl (by decide) rfl (fun ls hl => ?_)
        refine lv_aload_n hx hb dX0_takeOrders_18 rfl (lv_at hl 2 rfl) ?_
        refine gw_getr (C := RX0) (T := TX0) (N := 15) hx hb hts inwX0 hown hK hP 0 6 4 rfl rfl rfl (by decide) (hts _ a12) (fun _ h9 => h9) dX0_takeOrders_19 ?_
        refine lv_iload_n hx hb dX0_takeOrders_22 rfl (lv_at hl 1 rfl) ?_
        refine lv_iload_n hx hb dX0_takeOrders_23 rfl (lv_at hl 0 rfl) ?_
        refine lv_if_eq (tgt := 39) hx hb dX0_takeOrders_24 (by decide) (fun hc9 => ?_) (fun hc9 => ?_)
        · exact absurd hc9 (by decide)
        · refine lv_aload_n hx hb dX0_takeOrders_27 rfl (lv_at hl 2 rfl) ?_
          refine gw_getr (C := RX0) (T := TX0) (N := 15) hx hb hts inwX0 hown hK hP 0 0 8 rfl rfl rfl (by decide) (hts _ a6) (fun _ h9 => h9) dX0_takeOrders_28 ?_
          refine gw_getrN (C := RX1) (T := TX1) (N := 12) hx hb hts inwX1 hown hK hP 8 5 14 rfl rfl rfl (by decide) (hE.nest _ (.fieldLinkNest RX0 78 RX1 "least" "[I" RX2) (by decide +kernel) rfl) (fun _ h9 => h9) dX0_takeOrders_31 ?_
          refine lv_iload_n hx hb dX0_takeOrders_34 rfl (lv_at hl 1 rfl) ?_
          refine gw_ald hx hb hK hP 14 0 (n := 4) rfl rfl (i := i) (by omega) (by decide) dX0_takeOrders_35 ?_
          refine lv_topi (fun v10 hv10 => ?_)
          refine lv_goto (tgt := 40) hx hb dX0_takeOrders_36 (by decide) ?_
          refine gw_ast hx hb hK hP hD hS 4 0 (n := 4) rfl rfl (i := i) (by omega) (by decide) dX0_takeOrders_40 (fun H locs hP hD hS => ?_)
          obtain ⟨sg11, esg11⟩ : ∃ z : Nat → Nat → Int32, z = gw_u sg 4 (upd (sg 4) i v10) := ⟨_, rfl⟩
          rw [← esg11] at hP hD
          have hk : KG 8 9 11 sg0 sg11 := by rw [esg11]; exact hk.wa 4 (by omega) (by omega) _
          refine lv_aload_n hx hb dX0_takeOrders_41 rfl (lv_at hl 2 rfl) ?_
          refine gw_getr (C := RX0) (T := TX0) (N := 15) hx hb hts inwX0 hown hK hP 0 7 5 rfl rfl rfl (by decide) (hts _ a13) (fun _ h9 => h9) dX0_takeOrders_42 ?_
          refine lv_iload_n hx hb dX0_takeOrders_45 rfl (lv_at hl 1 rfl) ?_
          refine lv_iload_n hx hb dX0_takeOrders_46 rfl (lv_at hl 0 rfl) ?_
          refine lv_if_eq (tgt := 62) hx hb dX0_takeOrders_47 (by decide) (fun hc12 => ?_) (fun hc12 => ?_)
          · exact absurd hc12 (by decide)
          · refine lv_aload_n hx hb dX0_takeOrders_50 rfl (lv_at hl 2 rfl) ?_
            refine gw_getr (C := RX0) (T := TX0) (N := 15) hx hb hts inwX0 hown hK hP 0 0 8 rfl rfl rfl (by decide) (hts _ a6) (fun _ h9 => h9) dX0_takeOrders_51 ?_
            refine gw_getrN (C := RX1) (T := TX1) (N := 12) hx hb hts inwX1 hown hK hP 8 6 15 rfl rfl rfl (by decide) (hE.nest _ (.fieldLinkNest RX0 79 RX1 "most" "[I" RX2) (by decide +kernel) rfl) (fun _ h9 => h9) dX0_takeOrders_54 ?_
            refine lv_iload_n hx hb dX0_takeOrders_57 rfl (lv_at hl 1 rfl) ?_
            refine gw_ald hx hb hK hP 15 0 (n := 4) rfl rfl (i := i) (by omega) (by decide) dX0_takeOrders_58 ?_
            refine lv_topi (fun v13 hv13 => ?_)
            refine lv_goto (tgt := 63) hx hb dX0_takeOrders_59 (by decide) ?_
            refine gw_ast hx hb hK hP hD hS 5 0 (n := 4) rfl rfl (i := i) (by omega) (by decide) dX0_takeOrders_63 (fun H locs hP hD hS => ?_)
            obtain ⟨sg14, esg14⟩ : ∃ z : Nat → Nat → Int32, z = gw_u sg11 5 (upd (sg11 5) i v13) := ⟨_, rfl⟩
            rw [← esg14] at hP hD
            have hk : KG 8 9 11 sg0 sg14 := by rw [esg14]; exact hk.wa 5 (by omega) (by omega) _
            refine lv_aload_n hx hb dX0_takeOrders_64 rfl (lv_at hl 2 rfl) ?_
            refine gw_getr (C := RX0) (T := TX0) (N := 15) hx hb hts inwX0 hown hK hP 0 8 6 rfl rfl rfl (by decide) (hts _ a14) (fun _ h9 => h9) dX0_takeOrders_65 ?_
            refine lv_iload_n hx hb dX0_takeOrders_68 rfl (lv_at hl 1 rfl) ?_
            refine lv_iload_n hx hb dX0_takeOrders_69 rfl (lv_at hl 0 rfl) ?_
            refine lv_if_eq (tgt := 85) hx hb dX0_takeOrders_70 (by decide) (fun hc15 => ?_) (fun hc15 => ?_)
            · exact absurd hc15 (by decide)
            · refine lv_aload_n hx hb dX0_takeOrders_73 rfl (lv_at hl 2 rfl) ?_
              refine gw_getr (C := RX0) (T := TX0) (N := 15) hx hb hts inwX0 hown hK hP 0 0 8 rfl rfl rfl (by decide) (hts _ a6) (fun _ h9 => h9) dX0_takeOrders_74 ?_
              refine gw_getrN (C := RX1) (T := TX1) (N := 12) hx hb hts inwX1 hown hK hP 8 7 16 rfl rfl rfl (by decide) (hE.nest _ (.fieldLinkNest RX0 80 RX1 "worth" "[I" RX2) (by decide +kernel) rfl) (fun _ h9 => h9) dX0_takeOrders_77 ?_
              refine lv_iload_n hx hb dX0_takeOrders_80 rfl (lv_at hl 1 rfl) ?_
              refine gw_ald hx hb hK hP 16 0 (n := 4) rfl rfl (i := i) (by omega) (by decide) dX0_takeOrders_81 ?_
              refine lv_topi (fun v16 hv16 => ?_)
              refine lv_goto (tgt := 86) hx hb dX0_takeOrders_82 (by decide) ?_
              refine gw_ast hx hb hK hP hD hS 6 0 (n := 4) rfl rfl (i := i) (by omega) (by decide) dX0_takeOrders_86 (fun H locs hP hD hS => ?_)
              obtain ⟨sg17, esg17⟩ : ∃ z : Nat → Nat → Int32, z = gw_u sg14 6 (upd (sg14 6) i v16) := ⟨_, rfl⟩
              rw [← esg17] at hP hD
              have hk : KG 8 9 11 sg0 sg17 := by rw [esg17]; exact hk.wa 6 (by omega) (by omega) _
              refine lv_iinc (k := 1) (v := (nI (i + 1))) (lv' := [(2, .int (nI (i + 1))), (3, .int (nI 1)), (0, .ref (ad 0)), (1, .int x1)]) hx hb dX0_takeOrders_87 hl rfl (nI_1 _) (by decide) rfl (fun ls hl => ?_)
              refine lv_goto (tgt := 2) hx hb dX0_takeOrders_90 (by decide) ?_
              exact ih _ (by omega) (i + 1) _ _ _ _ rfl (by omega) hk hP hD hS (lv_sub hl [0, 2, 3] rfl)
  refine lv_iconst (v := (nI 0)) hx hb dX0_takeOrders_0 (by decide) ?_
  refine lv_istore_n (lv' := [(2, .int (nI 0)), (0, .ref (ad 0)), (1, .int x1)]) hx hb dX0_takeOrders_1 rfl hl (by decide) rfl (fun ls hl => ?_)
  exact c2 _ 0 _ _ _ _ rfl (by omega) hk hP hD hS (lv_sub hl [0, 1, 2] rfl)
abbrev rmX0_minutesOfNextLog : Room := { frames := 0, cells := 0, slots := 0, locals := 0 }
set_option maxRecDepth 100000 in
set_option maxHeartbeats 4000000 in
theorem m_X0_minutesOfNextLog (l : Launch) (hl9 : l.stackTraces = false) (D : va_G) (cI : ClassId) (cJ : ClassId × ClassId) (ad : Nat → Nat) (sg0 : Nat → Nat → Int32) (sz : Nat) (pn : Nat) (hpn : pn < 6) (hI : IvG 8 9 11 sg0) : gc_M l yX0_minutesOfNextLog wsX0_minutesOfNextLog rmX0_minutesOfNextLog D vwCl (tyS cI cJ) cI cJ gxT gxN SS [.ref (ad 0), .int (nI pn)] ad sg0 sz 0 0 (fun v sg2 => KG 8 9 11 sg0 sg2 ∧ ∃ r : Int32, v = some (.int r)) := by
  refine gc_Mi_of (cc := cX0_minutesOfNextLog) (maxL := 3) (by decide) rfl (Nat.le_of_ble_eq_true rfl) ?_
  intro p e s m below meth c A ls Q hin hE hret
  obtain ⟨⟨hx, hb, hml, hown, hts⟩, -, hlocks, -, hA, hP, hK, hD, hS, hl⟩ := hin
  have hts : ∀ w ∈ wsAll, w.before ([.ref (ad 0), .int (nI pn)] : List Value).toArray s = true := fun w h => hts w (List.mem_cons_of_mem _ h)
  have hl : lv_has ls 3 [(0, .ref (ad 0)), (1, .int (nI pn))] := hl
  have hk := KG.refl hI
  refine lv_aload_n hx hb dX0_minutesOfNextLog_0 rfl (lv_at hl 0 rfl) ?_
  refine gw_getr (C := RX0) (T := TX0) (N := 15) hx hb hts inwX0 hown hK hP 0 0 8 rfl rfl rfl (by decide) (hts _ a6) (fun _ h9 => h9) dX0_minutesOfNextLog_1 ?_
  refine gw_getrN (C := RX1) (T := TX1) (N := 12) hx hb hts inwX1 hown hK hP 8 3 12 rfl rfl rfl (by decide) (hE.nest _ (.fieldLinkNest RX0 107 RX1 "minutesALog" "[I" RX2) (by decide +kernel) rfl) (fun _ h9 => h9) dX0_minutesOfNextLog_4 ?_
  refine lv_iload_n hx hb dX0_minutesOfNextLog_7 rfl (lv_at hl 1 rfl) ?_
  refine gw_ald hx hb hK hP 12 0 (n := 6) rfl rfl (i := pn) (by omega) (by decide) dX0_minutesOfNextLog_8 ?_
  refine lv_topi (fun v1 hv1 => ?_)
  refine lv_istore_n (lv' := [(2, .int v1), (0, .ref (ad 0)), (1, .int (nI pn))]) hx hb dX0_minutesOfNextLog_9 rfl hl (by decide) rfl (fun ls hl => ?_)
  refine lv_aload_n hx hb dX0_minutesOfNextLog_10 rfl (lv_at hl 1 rfl) ?_
  refine gw_getr (C := RX0) (T := TX0) (N := 15) hx hb hts inwX0 hown hK hP 0 1 1 rfl rfl rfl (by decide) (hts _ a11) (fun _ h9 => h9) dX0_minutesOfNextLog_11 ?_
  refine lv_iload_n hx hb dX0_minutesOfNextLog_14 rfl (lv_at hl 2 rfl) ?_
  refine gw_ald hx hb hK hP 1 0 (n := 6) rfl rfl (i := pn) (by omega) (by decide) dX0_minutesOfNextLog_15 ?_
  refine lv_topi (fun v2 hv2 => ?_)
  refine lv_if_ne (tgt := 31) hx hb dX0_minutesOfNextLog_16 (by decide) (fun hc3 => ?_) (fun hc3 => ?_)
  · refine lv_iload_n hx hb dX0_minutesOfNextLog_31 rfl (lv_at hl 0 rfl) ?_
    exact hret _ _ _ _ _ _ hP hS dX0_minutesOfNextLog_32 (⟨hk, _, rfl⟩)
  · refine lv_iload_n hx hb dX0_minutesOfNextLog_19 rfl (lv_at hl 0 rfl) ?_
    refine lv_aload_n hx hb dX0_minutesOfNextLog_20 rfl (lv_at hl 1 rfl) ?_
    refine gw_getr (C := RX0) (T := TX0) (N := 15) hx hb hts inwX0 hown hK hP 0 0 8 rfl rfl rfl (by decide) (hts _ a6) (fun _ h9 => h9) dX0_minutesOfNextLog_21 ?_
    refine gw_getiN (C := RX1) (T := TX1) (N := 12) hx hb hts inwX1 hown hK hP 8 11 rfl rfl rfl (by decide) (hE.nest _ (.fieldLinkNest RX0 110 RX1 "change" "I" RX2) (by decide +kernel) rfl) (fun _ h9 => h9) dX0_minutesOfNextLog_24 ?_
    refine lv_topi (fun v4 hv4 => ?_)
    refine lv_iadd hx hb dX0_minutesOfNextLog_27 ?_
    refine lv_topi (fun v5 hv5 => ?_)
    refine lv_goto (tgt := 32) hx hb dX0_minutesOfNextLog_28 (by decide) ?_
    exact hret _ _ _ _ _ _ hP hS dX0_minutesOfNextLog_32 (⟨hk, _, rfl⟩)
abbrev rmX0_oneLogMoreFits : Room := { frames := 1, cells := 0, slots := 0, locals := 22 }
set_option maxRecDepth 100000 in
set_option maxHeartbeats 4000000 in
theorem m_X0_oneLogMoreFits (l : Launch) (hl9 : l.stackTraces = false) (D : va_G) (cI : ClassId) (cJ : ClassId × ClassId) (ad : Nat → Nat) (sg0 : Nat → Nat → Int32) (sz : Nat) (pn : Nat) (hpn : pn < 6) (hI : IvG 8 9 11 sg0) : gc_M l yX0_oneLogMoreFits wsX0_oneLogMoreFits rmX0_oneLogMoreFits D vwCl (tyS cI cJ) cI cJ gxT gxN SS [.ref (ad 0), .int (nI pn)] ad sg0 sz 0 0 (fun v sg2 => KG 8 9 11 sg0 sg2 ∧ ∃ r : Int32, v = some (.int r)) := by
  refine gc_Mz_of (cc := cX0_oneLogMoreFits) (maxL := 2) (by decide) rfl (Nat.le_of_ble_eq_true rfl) ?_
  intro p e s m below meth c A ls Q hin hE hret
  obtain ⟨⟨hx, hb, hml, hown, hts⟩, -, hlocks, -, hA, hP, hK, hD, hS, hl⟩ := hin
  have hts : ∀ w ∈ wsAll, w.before ([.ref (ad 0), .int (nI pn)] : List Value).toArray s = true := fun w h => hts w (List.mem_cons_of_mem _ h)
  have hl : lv_has ls 2 [(0, .ref (ad 0)), (1, .int (nI pn))] := hl
  have hk := KG.refl hI
  refine lv_aload_n hx hb dX0_oneLogMoreFits_0 rfl (lv_at hl 0 rfl) ?_
  refine gw_getr (C := RX0) (T := TX0) (N := 15) hx hb hts inwX0 hown hK hP 0 2 2 rfl rfl rfl (by decide) (hts _ a10) (fun _ h9 => h9) dX0_oneLogMoreFits_1 ?_
  refine lv_aload_n hx hb dX0_oneLogMoreFits_4 rfl (lv_at hl 0 rfl) ?_
  refine gw_getr (C := RX0) (T := TX0) (N := 15) hx hb hts inwX0 hown hK hP 0 0 8 rfl rfl rfl (by decide) (hts _ a6) (fun _ h9 => h9) dX0_oneLogMoreFits_5 ?_
  refine gw_getrN (C := RX1) (T := TX1) (N := 12) hx hb hts inwX1 hown hK hP 8 2 11 rfl rfl rfl (by decide) (hE.nest _ (.fieldLinkNest RX0 100 RX1 "classOf" "[I" RX2) (by decide +kernel) rfl) (fun _ h9 => h9) dX0_oneLogMoreFits_8 ?_
  refine lv_iload_n hx hb dX0_oneLogMoreFits_11 rfl (lv_at hl 1 rfl) ?_
  refine gw_ald hx hb hK hP 11 0 (n := 6) rfl rfl (i := pn) (by omega) (by decide) dX0_oneLogMoreFits_12 ?_
  obtain ⟨cf1, hcf1, ecf1⟩ := hk.1.2 pn (by omega)
  refine gw_top (y := (nI cf1)) (ecf1) ?_
  refine gw_ald hx hb hK hP 2 0 (n := 4) rfl rfl (i := cf1) (by omega) (by decide) dX0_oneLogMoreFits_13 ?_
  refine lv_topi (fun v2 hv2 => ?_)
  refine lv_if_le (tgt := 33) hx hb dX0_oneLogMoreFits_14 (by decide) (fun hc3 => ?_) (fun hc3 => ?_)
  · refine lv_iconst (v := (nI 0)) hx hb dX0_oneLogMoreFits_33 (by decide) ?_
    exact hret _ _ _ _ _ _ hP hS dX0_oneLogMoreFits_34 rfl (⟨hk, _, rfl⟩)
  · refine lv_aload_n hx hb dX0_oneLogMoreFits_17 rfl (lv_at hl 0 rfl) ?_
    refine lv_iload_n hx hb dX0_oneLogMoreFits_18 rfl (lv_at hl 1 rfl) ?_
    refine gc_go0 (va_runV (As := [.int (nI pn)]) (rest := []) ⟨hx, hb, hml, hown, hts⟩ (m_X0_minutesOfNextLog l hl9 D cI cJ ad sg0 _ pn (by omega) hk.1) (cwV 1 hts (gwV a15 a16 a17 a18 a19) rfl rfl rfl (by decide +kernel) ⟨by decide, by decide⟩) (gc_preV0 hK hP hD hS hA hE rfl rfl rfl) rfl rfl hl.1 rfl (lv_room (Nat.le_of_ble_eq_true rfl)) dX0_oneLogMoreFits_19 ⟨by decide, by decide⟩) hD hS hA (fun v4 sg6 H locs hp7 hP hD hS => ?_)
    obtain ⟨hk1, r10, rfl⟩ := hp7
    have hk := hk.trans hk1
    refine W.eq (g2 := F0 m 22 ls [.int r10]) rfl ?_
    refine lv_aload_n hx hb dX0_oneLogMoreFits_22 rfl (lv_at hl 0 rfl) ?_
    refine gw_geti (C := RX0) (T := TX0) (N := 15) hx hb hts inwX0 hown hK hP 0 4 rfl rfl rfl (by decide) (hts _ a7) (fun _ h9 => h9) dX0_oneLogMoreFits_23 ?_
    refine lv_topi (fun v11 hv11 => ?_)
    refine lv_icmp_gt (tgt := 33) hx hb dX0_oneLogMoreFits_26 (by decide) (fun hc12 => ?_) (fun hc12 => ?_)
    · refine lv_iconst (v := (nI 0)) hx hb dX0_oneLogMoreFits_33 (by decide) ?_
      exact hret _ _ _ _ _ _ hP hS dX0_oneLogMoreFits_34 rfl (⟨hk, _, rfl⟩)
    · refine lv_iconst (v := (nI 1)) hx hb dX0_oneLogMoreFits_29 (by decide) ?_
      refine lv_goto (tgt := 34) hx hb dX0_oneLogMoreFits_30 (by decide) ?_
      exact hret _ _ _ _ _ _ hP hS dX0_oneLogMoreFits_34 rfl (⟨hk, _, rfl⟩)
abbrev rmX0_addLog : Room := { frames := 1, cells := 0, slots := 0, locals := 22 }
set_option maxRecDepth 100000 in
set_option maxHeartbeats 4000000 in
theorem m_X0_addLog (l : Launch) (hl9 : l.stackTraces = false) (D : va_G) (cI : ClassId) (cJ : ClassId × ClassId) (ad : Nat → Nat) (sg0 : Nat → Nat → Int32) (sz : Nat) (pn : Nat) (hpn : pn < 6) (hI : IvG 8 9 11 sg0) : gc_M l yX0_addLog wsX0_addLog rmX0_addLog D vwCl (tyS cI cJ) cI cJ gxT gxN SS [.ref (ad 0), .int (nI pn)] ad sg0 sz 0 0 (fun v sg2 => KG 8 9 11 sg0 sg2 ∧ v = none) := by
  refine gc_Mv_of (cc := cX0_addLog) (maxL := 4) (by decide) rfl (Nat.le_of_ble_eq_true rfl) ?_
  intro p e s m below meth c A ls Q hin hE hret
  obtain ⟨⟨hx, hb, hml, hown, hts⟩, -, hlocks, -, hA, hP, hK, hD, hS, hl⟩ := hin
  have hts : ∀ w ∈ wsAll, w.before ([.ref (ad 0), .int (nI pn)] : List Value).toArray s = true := fun w h => hts w (List.mem_cons_of_mem _ h)
  have hl : lv_has ls 4 [(0, .ref (ad 0)), (1, .int (nI pn))] := hl
  have hk := KG.refl hI
  have c64 : ∀ (n9 : Nat) (i : Nat) (sg : Nat → Nat → Int32) (H : Heap) (locs : List Loc) (ls : Array Slot), 4 - i = n9 → i ≤ 4 → KG 8 9 11 sg0 sg → va_P D vwCl (gw cI cJ ad sg SS) H → va_D A (gw cI cJ ad sg SS) → va_S A s.heap H locs → lv_has ls 4 [(3, .int (nI i)), (0, .ref (ad 0)), (1, .int (nI pn))] → W p l e rmX0_addLog s m ([.ref (ad 0), .int (nI pn)] : List Value).toArray below meth c H locs 0 0 Q (F0 m 64 ls []) := by
    intro n9
    induction n9 using Nat.strongRecOn with
    | ind n9 ih =>
    intro i sg H locs ls hn h1 hk hP hD hS hl
    subst hn
    refine lv_iload_n hx hb dX0_addLog_64 rfl (lv_at hl 0 rfl) ?_
    refine lv_iconst (v := (nI 4)) hx hb dX0_addLog_65 (by decide) ?_
    refine lv_icmp_ge (tgt := 95) hx hb dX0_addLog_66 (by decide) (fun hc1 => ?_) (fun hc1 => ?_)
    · have hc1 : 4 ≤ i := (nI_leI (a := 4) (b := i) (by omega) (by omega)).mp hc1
      exact hret _ _ _ _ _ hP hS dX0_addLog_95 (⟨hk, rfl⟩)
    · have hc1 : ¬ (4 ≤ i) := fun q => hc1 ((nI_leI (a := 4) (b := i) (by omega) (by omega)).mpr q)
      refine lv_aload_n hx hb dX0_addLog_69 rfl (lv_at hl 1 rfl) ?_
      refine gw_getr (C := RX0) (T := TX0) (N := 15) hx hb hts inwX0 hown hK hP 0 3 3 rfl rfl rfl (by decide) (hts _ a9) (fun _ h9 => h9) dX0_addLog_70 ?_
      refine lv_iload_n hx hb dX0_addLog_73 rfl (lv_at hl 0 rfl) ?_
      refine lv_dup2_11 hx hb dX0_addLog_74 rfl rfl ?_
      refine gw_ald hx hb hK hP 3 0 (n := 4) rfl rfl (i := i) (by omega) (by decide) dX0_addLog_75 ?_
      refine lv_topi (fun v2 hv2 => ?_)
      refine lv_aload_n hx hb dX0_addLog_76 rfl (lv_at hl 1 rfl) ?_
      refine gw_getr (C := RX0) (T := TX0) (N := 15) hx hb hts inwX0 hown hK hP 0 0 8 rfl rfl rfl (by decide) (hts _ a6) (fun _ h9 => h9) dX0_addLog_77 ?_
      refine gw_getrN (C := RX1) (T := TX1) (N := 12) hx hb hts inwX1 hown hK hP 8 4 13 rfl rfl rfl (by decide) (hE.nest _ (.fieldLinkNest RX0 116 RX1 "boardsALog" "[[I" RX2) (by decide +kernel) rfl) (fun _ h9 => h9) dX0_addLog_80 ?_
      refine lv_iload_n hx hb dX0_addLog_83 rfl (lv_at hl 2 rfl) ?_
      refine gw_aald hx hb hK hP 13 1 (n := 6) (b := 18) rfl rfl rfl (i := pn) (by omega) (by decide) dX0_addLog_84 ?_
      refine lv_iload_n hx hb dX0_addLog_85 rfl (lv_at hl 0 rfl) ?_
      refine gw_ald hx hb hK hP (18 + pn) 0 (n := 4) (rowSS _ (by omega)) rfl (i := i) (by omega) (by decide) dX0_addLog_86 ?_
      refine lv_topi (fun v3 hv3 => ?_)
      refine lv_iadd hx hb dX0_addLog_87 ?_
      refine lv_topi (fun v4 hv4 => ?_)
      refine gw_ast hx hb hK hP hD hS 3 0 (n := 4) rfl rfl (i := i) (by omega) (by decide) dX0_addLog_88 (fun H locs hP hD hS => ?_)
      obtain ⟨sg5, esg5⟩ : ∃ z : Nat → Nat → Int32, z = gw_u sg 3 (upd (sg 3) i v4) := ⟨_, rfl⟩
      rw [← esg5] at hP hD
      have hk : KG 8 9 11 sg0 sg5 := by rw [esg5]; exact hk.wa 3 (by omega) (by omega) _
      refine lv_iinc (k := 0) (v := (nI (i + 1))) (lv' := [(3, .int (nI (i + 1))), (0, .ref (ad 0)), (1, .int (nI pn))]) hx hb dX0_addLog_89 hl rfl (nI_1 _) (by decide) rfl (fun ls hl => ?_)
      refine lv_goto (tgt := 64) hx hb dX0_addLog_92 (by decide) ?_
      exact ih _ (by omega) (i + 1) _ _ _ _ rfl (by omega) hk hP hD hS (lv_sub hl [0, 1, 2] rfl)
  refine lv_aload_n hx hb dX0_addLog_0 rfl (lv_at hl 0 rfl) ?_
  refine gw_getr (C := RX0) (T := TX0) (N := 15) hx hb hts inwX0 hown hK hP 0 0 8 rfl rfl rfl (by decide) (hts _ a6) (fun _ h9 => h9) dX0_addLog_1 ?_
  refine gw_getrN (C := RX1) (T := TX1) (N := 12) hx hb hts inwX1 hown hK hP 8 2 11 rfl rfl rfl (by decide) (hE.nest _ (.fieldLinkNest RX0 100 RX1 "classOf" "[I" RX2) (by decide +kernel) rfl) (fun _ h9 => h9) dX0_addLog_4 ?_
  refine lv_iload_n hx hb dX0_addLog_7 rfl (lv_at hl 1 rfl) ?_
  refine gw_ald hx hb hK hP 11 0 (n := 6) rfl rfl (i := pn) (by omega) (by decide) dX0_addLog_8 ?_
  obtain ⟨cf6, hcf6, ecf6⟩ := hk.1.2 pn (by omega)
  refine gw_top (y := (nI cf6)) (ecf6) ?_
  refine lv_istore_n (lv' := [(2, .int (nI cf6)), (0, .ref (ad 0)), (1, .int (nI pn))]) hx hb dX0_addLog_9 rfl hl (by decide) rfl (fun ls hl => ?_)
  refine lv_aload_n hx hb dX0_addLog_10 rfl (lv_at hl 1 rfl) ?_
  refine lv_dup hx hb dX0_addLog_11 rfl ?_
  refine gw_geti (C := RX0) (T := TX0) (N := 15) hx hb hts inwX0 hown hK hP 0 4 rfl rfl rfl (by decide) (hts _ a7) (fun _ h9 => h9) dX0_addLog_12 ?_
  refine lv_topi (fun v7 hv7 => ?_)
  refine lv_aload_n hx hb dX0_addLog_15 rfl (lv_at hl 1 rfl) ?_
  refine lv_iload_n hx hb dX0_addLog_16 rfl (lv_at hl 2 rfl) ?_
  refine gc_go0 (va_runV (As := [.int (nI pn)]) (rest := [.int v7, .ref (ad 0)]) ⟨hx, hb, hml, hown, hts⟩ (m_X0_minutesOfNextLog l hl9 D cI cJ ad sg0 _ pn (by omega) hk.1) (cwV 1 hts (gwV a15 a16 a17 a18 a19) rfl rfl rfl (by decide +kernel) ⟨by decide, by decide⟩) (gc_preV0 hK hP hD hS hA hE rfl rfl rfl) rfl rfl hl.1 rfl (lv_room (Nat.le_of_ble_eq_true rfl)) dX0_addLog_17 ⟨by decide, by decide⟩) hD hS hA (fun v8 sg10 H locs hp11 hP hD hS => ?_)
  obtain ⟨hk1, r14, rfl⟩ := hp11
  have hk := hk.trans hk1
  refine W.eq (g2 := F0 m 20 ls [.int r14, .int v7, .ref (ad 0)]) rfl ?_
  refine lv_isub hx hb dX0_addLog_20 ?_
  refine lv_topi (fun v15 hv15 => ?_)
  refine gw_put (C := RX0) (T := TX0) (N := 15) (ty := .int) hx hb hts inwX0 tyX0 tyX0_ok nmX0 hown hK hP hD hS 0 4 rfl rfl rfl (by decide) (hts _ a7) (fun _ h9 => h9) rfl (by decide +kernel) rfl rfl dX0_addLog_21 (fun H locs hP hD hS => ?_)
  obtain ⟨sg16, esg16⟩ : ∃ z : Nat → Nat → Int32, z = gw_u sg10 0 (upd (sg10 0) 4 v15) := ⟨_, rfl⟩
  rw [← esg16] at hP hD
  have hk : KG 8 9 11 sg0 sg16 := by rw [esg16]; exact hk.wa 0 (by omega) (by omega) _
  refine lv_aload_n hx hb dX0_addLog_24 rfl (lv_at hl 1 rfl) ?_
  refine gw_getr (C := RX0) (T := TX0) (N := 15) hx hb hts inwX0 hown hK hP 0 2 2 rfl rfl rfl (by decide) (hts _ a10) (fun _ h9 => h9) dX0_addLog_25 ?_
  refine lv_iload_n hx hb dX0_addLog_28 rfl (lv_at hl 0 rfl) ?_
  refine lv_dup2_11 hx hb dX0_addLog_29 rfl rfl ?_
  refine gw_ald hx hb hK hP 2 0 (n := 4) rfl rfl (i := cf6) (by omega) (by decide) dX0_addLog_30 ?_
  refine lv_topi (fun v17 hv17 => ?_)
  refine lv_iconst (v := (nI 1)) hx hb dX0_addLog_31 (by decide) ?_
  refine lv_isub hx hb dX0_addLog_32 ?_
  refine lv_topi (fun v18 hv18 => ?_)
  refine gw_ast hx hb hK hP hD hS 2 0 (n := 4) rfl rfl (i := cf6) (by omega) (by decide) dX0_addLog_33 (fun H locs hP hD hS => ?_)
  obtain ⟨sg19, esg19⟩ : ∃ z : Nat → Nat → Int32, z = gw_u sg16 2 (upd (sg16 2) cf6 v18) := ⟨_, rfl⟩
  rw [← esg19] at hP hD
  have hk : KG 8 9 11 sg0 sg19 := by rw [esg19]; exact hk.wa 2 (by omega) (by omega) _
  refine lv_aload_n hx hb dX0_addLog_34 rfl (lv_at hl 1 rfl) ?_
  refine lv_dup hx hb dX0_addLog_35 rfl ?_
  refine gw_geti (C := RX0) (T := TX0) (N := 15) hx hb hts inwX0 hown hK hP 0 5 rfl rfl rfl (by decide) (hts _ a8) (fun _ h9 => h9) dX0_addLog_36 ?_
  refine lv_topi (fun v20 hv20 => ?_)
  refine lv_aload_n hx hb dX0_addLog_39 rfl (lv_at hl 1 rfl) ?_
  refine gw_getr (C := RX0) (T := TX0) (N := 15) hx hb hts inwX0 hown hK hP 0 0 8 rfl rfl rfl (by decide) (hts _ a6) (fun _ h9 => h9) dX0_addLog_40 ?_
  refine gw_getrN (C := RX1) (T := TX1) (N := 12) hx hb hts inwX1 hown hK hP 8 1 10 rfl rfl rfl (by decide) (hE.nest _ (.fieldLinkNest RX0 113 RX1 "centsALog" "[I" RX2) (by decide +kernel) rfl) (fun _ h9 => h9) dX0_addLog_43 ?_
  refine lv_iload_n hx hb dX0_addLog_46 rfl (lv_at hl 0 rfl) ?_
  refine gw_ald hx hb hK hP 10 0 (n := 4) rfl rfl (i := cf6) (by omega) (by decide) dX0_addLog_47 ?_
  refine lv_topi (fun v21 hv21 => ?_)
  refine lv_iadd hx hb dX0_addLog_48 ?_
  refine lv_topi (fun v22 hv22 => ?_)
  refine gw_put (C := RX0) (T := TX0) (N := 15) (ty := .int) hx hb hts inwX0 tyX0 tyX0_ok nmX0 hown hK hP hD hS 0 5 rfl rfl rfl (by decide) (hts _ a8) (fun _ h9 => h9) rfl (by decide +kernel) rfl rfl dX0_addLog_49 (fun H locs hP hD hS => ?_)
  obtain ⟨sg23, esg23⟩ : ∃ z : Nat → Nat → Int32, z = gw_u sg19 0 (upd (sg19 0) 5 v22) := ⟨_, rfl⟩
  rw [← esg23] at hP hD
  have hk : KG 8 9 11 sg0 sg23 := by rw [esg23]; exact hk.wa 0 (by omega) (by omega) _
  refine lv_aload_n hx hb dX0_addLog_52 rfl (lv_at hl 1 rfl) ?_
  refine gw_getr (C := RX0) (T := TX0) (N := 15) hx hb hts inwX0 hown hK hP 0 1 1 rfl rfl rfl (by decide) (hts _ a11) (fun _ h9 => h9) dX0_addLog_53 ?_
  refine lv_iload_n hx hb dX0_addLog_56 rfl (lv_at hl 2 rfl) ?_
  refine lv_dup2_11 hx hb dX0_addLog_57 rfl rfl ?_
  refine gw_ald hx hb hK hP 1 0 (n := 6) rfl rfl (i := pn) (by omega) (by decide) dX0_addLog_58 ?_
  refine lv_topi (fun v24 hv24 => ?_)
  refine lv_iconst (v := (nI 1)) hx hb dX0_addLog_59 (by decide) ?_
  refine lv_iadd hx hb dX0_addLog_60 ?_
  refine lv_topi (fun v25 hv25 => ?_)
  refine gw_ast hx hb hK hP hD hS 1 0 (n := 6) rfl rfl (i := pn) (by omega) (by decide) dX0_addLog_61 (fun H locs hP hD hS => ?_)
  obtain ⟨sg26, esg26⟩ : ∃ z : Nat → Nat → Int32, z = gw_u sg23 1 (upd (sg23 1) pn v25) := ⟨_, rfl⟩
  rw [← esg26] at hP hD
  have hk : KG 8 9 11 sg0 sg26 := by rw [esg26]; exact hk.wa 1 (by omega) (by omega) _
  refine lv_iconst (v := (nI 0)) hx hb dX0_addLog_62 (by decide) ?_
  refine lv_istore_n (lv' := [(3, .int (nI 0)), (2, .int (nI cf6)), (0, .ref (ad 0)), (1, .int (nI pn))]) hx hb dX0_addLog_63 rfl hl (by decide) rfl (fun ls hl => ?_)
  exact c64 _ 0 _ _ _ _ rfl (by omega) hk hP hD hS (lv_sub hl [0, 2, 3] rfl)
abbrev rmX0_takeLogsBack : Room := { frames := 0, cells := 0, slots := 0, locals := 0 }
set_option maxRecDepth 100000 in
set_option maxHeartbeats 4000000 in
theorem m_X0_takeLogsBack (l : Launch) (hl9 : l.stackTraces = false) (D : va_G) (cI : ClassId) (cJ : ClassId × ClassId) (ad : Nat → Nat) (sg0 : Nat → Nat → Int32) (sz : Nat) (pn : Nat) (hpn : pn < 6) (hI : IvG 8 9 11 sg0) : gc_M l yX0_takeLogsBack wsX0_takeLogsBack rmX0_takeLogsBack D vwCl (tyS cI cJ) cI cJ gxT gxN SS [.ref (ad 0), .int (nI pn)] ad sg0 sz 0 0 (fun v sg2 => KG 8 9 11 sg0 sg2 ∧ v = none) := by
  refine gc_Mv_of (cc := cX0_takeLogsBack) (maxL := 5) (by decide) rfl (Nat.le_of_ble_eq_true rfl) ?_
  intro p e s m below meth c A ls Q hin hE hret
  obtain ⟨⟨hx, hb, hml, hown, hts⟩, -, hlocks, -, hA, hP, hK, hD, hS, hl⟩ := hin
  have hts : ∀ w ∈ wsAll, w.before ([.ref (ad 0), .int (nI pn)] : List Value).toArray s = true := fun w h => hts w (List.mem_cons_of_mem _ h)
  have hl : lv_has ls 5 [(0, .ref (ad 0)), (1, .int (nI pn))] := hl
  have hk := KG.refl hI
  have c90 : ∀ (n9 : Nat) (i : Nat) (x2 : Int32) (sg : Nat → Nat → Int32) (H : Heap) (locs : List Loc) (ls : Array Slot), 4 - i = n9 → i ≤ 4 → KG 8 9 11 sg0 sg → va_P D vwCl (gw cI cJ ad sg SS) H → va_D A (gw cI cJ ad sg SS) → va_S A s.heap H locs → lv_has ls 5 [(4, .int (nI i)), (0, .ref (ad 0)), (1, .int (nI pn)), (2, .int x2)] → W p l e rmX0_takeLogsBack s m ([.ref (ad 0), .int (nI pn)] : List Value).toArray below meth c H locs 0 0 Q (F0 m 90 ls []) := by
    intro n9
    induction n9 using Nat.strongRecOn with
    | ind n9 ih =>
    intro i x2 sg H locs ls hn h1 hk hP hD hS hl
    subst hn
    refine lv_iload hx hb dX0_takeLogsBack_90 (lv_at hl 0 rfl) ?_
    refine lv_iconst (v := (nI 4)) hx hb dX0_takeLogsBack_92 (by decide) ?_
    refine lv_icmp_ge (tgt := 126) hx hb dX0_takeLogsBack_93 (by decide) (fun hc1 => ?_) (fun hc1 => ?_)
    · have hc1 : 4 ≤ i := (nI_leI (a := 4) (b := i) (by omega) (by omega)).mp hc1
      exact hret _ _ _ _ _ hP hS dX0_takeLogsBack_126 (⟨hk, rfl⟩)
    · have hc1 : ¬ (4 ≤ i) := fun q => hc1 ((nI_leI (a := 4) (b := i) (by omega) (by omega)).mpr q)
      refine lv_aload_n hx hb dX0_takeLogsBack_96 rfl (lv_at hl 1 rfl) ?_
      refine gw_getr (C := RX0) (T := TX0) (N := 15) hx hb hts inwX0 hown hK hP 0 3 3 rfl rfl rfl (by decide) (hts _ a9) (fun _ h9 => h9) dX0_takeLogsBack_97 ?_
      refine lv_iload hx hb dX0_takeLogsBack_100 (lv_at hl 0 rfl) ?_
      refine lv_dup2_11 hx hb dX0_takeLogsBack_102 rfl rfl ?_
      refine gw_ald hx hb hK hP 3 0 (n := 4) rfl rfl (i := i) (by omega) (by decide) dX0_takeLogsBack_103 ?_
      refine lv_topi (fun v2 hv2 => ?_)
      refine lv_iload_n hx hb dX0_takeLogsBack_104 rfl (lv_at hl 3 rfl) ?_
      refine lv_aload_n hx hb dX0_takeLogsBack_105 rfl (lv_at hl 1 rfl) ?_
      refine gw_getr (C := RX0) (T := TX0) (N := 15) hx hb hts inwX0 hown hK hP 0 0 8 rfl rfl rfl (by decide) (hts _ a6) (fun _ h9 => h9) dX0_takeLogsBack_106 ?_
      refine gw_getrN (C := RX1) (T := TX1) (N := 12) hx hb hts inwX1 hown hK hP 8 4 13 rfl rfl rfl (by decide) (hE.nest _ (.fieldLinkNest RX0 116 RX1 "boardsALog" "[[I" RX2) (by decide +kernel) rfl) (fun _ h9 => h9) dX0_takeLogsBack_109 ?_
      refine lv_iload_n hx hb dX0_takeLogsBack_112 rfl (lv_at hl 2 rfl) ?_
      refine gw_aald hx hb hK hP 13 1 (n := 6) (b := 18) rfl rfl rfl (i := pn) (by omega) (by decide) dX0_takeLogsBack_113 ?_
      refine lv_iload hx hb dX0_takeLogsBack_114 (lv_at hl 0 rfl) ?_
      refine gw_ald hx hb hK hP (18 + pn) 0 (n := 4) (rowSS _ (by omega)) rfl (i := i) (by omega) (by decide) dX0_takeLogsBack_116 ?_
      refine lv_topi (fun v3 hv3 => ?_)
      refine lv_imul hx hb dX0_takeLogsBack_117 ?_
      refine lv_topi (fun v4 hv4 => ?_)
      refine lv_isub hx hb dX0_takeLogsBack_118 ?_
      refine lv_topi (fun v5 hv5 => ?_)
      refine gw_ast hx hb hK hP hD hS 3 0 (n := 4) rfl rfl (i := i) (by omega) (by decide) dX0_takeLogsBack_119 (fun H locs hP hD hS => ?_)
      obtain ⟨sg6, esg6⟩ : ∃ z : Nat → Nat → Int32, z = gw_u sg 3 (upd (sg 3) i v5) := ⟨_, rfl⟩
      rw [← esg6] at hP hD
      have hk : KG 8 9 11 sg0 sg6 := by rw [esg6]; exact hk.wa 3 (by omega) (by omega) _
      refine lv_iinc (k := 0) (v := (nI (i + 1))) (lv' := [(4, .int (nI (i + 1))), (0, .ref (ad 0)), (1, .int (nI pn)), (2, .int x2)]) hx hb dX0_takeLogsBack_120 hl rfl (nI_1 _) (by decide) rfl (fun ls hl => ?_)
      refine lv_goto (tgt := 90) hx hb dX0_takeLogsBack_123 (by decide) ?_
      exact ih _ (by omega) (i + 1) x2 _ _ _ _ rfl (by omega) hk hP hD hS (lv_sub hl [0, 1, 2, 3] rfl)
  refine lv_aload_n hx hb dX0_takeLogsBack_0 rfl (lv_at hl 0 rfl) ?_
  refine gw_getr (C := RX0) (T := TX0) (N := 15) hx hb hts inwX0 hown hK hP 0 1 1 rfl rfl rfl (by decide) (hts _ a11) (fun _ h9 => h9) dX0_takeLogsBack_1 ?_
  refine lv_iload_n hx hb dX0_takeLogsBack_4 rfl (lv_at hl 1 rfl) ?_
  refine gw_ald hx hb hK hP 1 0 (n := 6) rfl rfl (i := pn) (by omega) (by decide) dX0_takeLogsBack_5 ?_
  refine lv_topi (fun v7 hv7 => ?_)
  refine lv_istore_n (lv' := [(2, .int v7), (0, .ref (ad 0)), (1, .int (nI pn))]) hx hb dX0_takeLogsBack_6 rfl hl (by decide) rfl (fun ls hl => ?_)
  refine lv_iload_n hx hb dX0_takeLogsBack_7 rfl (lv_at hl 0 rfl) ?_
  refine lv_if_ne (tgt := 12) hx hb dX0_takeLogsBack_8 (by decide) (fun hc8 => ?_) (fun hc8 => ?_)
  · refine lv_aload_n hx hb dX0_takeLogsBack_12 rfl (lv_at hl 1 rfl) ?_
    refine gw_getr (C := RX0) (T := TX0) (N := 15) hx hb hts inwX0 hown hK hP 0 0 8 rfl rfl rfl (by decide) (hts _ a6) (fun _ h9 => h9) dX0_takeLogsBack_13 ?_
    refine gw_getrN (C := RX1) (T := TX1) (N := 12) hx hb hts inwX1 hown hK hP 8 2 11 rfl rfl rfl (by decide) (hE.nest _ (.fieldLinkNest RX0 100 RX1 "classOf" "[I" RX2) (by decide +kernel) rfl) (fun _ h9 => h9) dX0_takeLogsBack_16 ?_
    refine lv_iload_n hx hb dX0_takeLogsBack_19 rfl (lv_at hl 2 rfl) ?_
    refine gw_ald hx hb hK hP 11 0 (n := 6) rfl rfl (i := pn) (by omega) (by decide) dX0_takeLogsBack_20 ?_
    obtain ⟨cf9, hcf9, ecf9⟩ := hk.1.2 pn (by omega)
    refine gw_top (y := (nI cf9)) (ecf9) ?_
    refine lv_istore_n (lv' := [(3, .int (nI cf9)), (2, .int v7), (0, .ref (ad 0)), (1, .int (nI pn))]) hx hb dX0_takeLogsBack_21 rfl hl (by decide) rfl (fun ls hl => ?_)
    refine lv_aload_n hx hb dX0_takeLogsBack_22 rfl (lv_at hl 2 rfl) ?_
    refine lv_dup hx hb dX0_takeLogsBack_23 rfl ?_
    refine gw_geti (C := RX0) (T := TX0) (N := 15) hx hb hts inwX0 hown hK hP 0 4 rfl rfl rfl (by decide) (hts _ a7) (fun _ h9 => h9) dX0_takeLogsBack_24 ?_
    refine lv_topi (fun v10 hv10 => ?_)
    refine lv_iload_n hx hb dX0_takeLogsBack_27 rfl (lv_at hl 1 rfl) ?_
    refine lv_aload_n hx hb dX0_takeLogsBack_28 rfl (lv_at hl 2 rfl) ?_
    refine gw_getr (C := RX0) (T := TX0) (N := 15) hx hb hts inwX0 hown hK hP 0 0 8 rfl rfl rfl (by decide) (hts _ a6) (fun _ h9 => h9) dX0_takeLogsBack_29 ?_
    refine gw_getrN (C := RX1) (T := TX1) (N := 12) hx hb hts inwX1 hown hK hP 8 3 12 rfl rfl rfl (by decide) (hE.nest _ (.fieldLinkNest RX0 107 RX1 "minutesALog" "[I" RX2) (by decide +kernel) rfl) (fun _ h9 => h9) dX0_takeLogsBack_32 ?_
    refine lv_iload_n hx hb dX0_takeLogsBack_35 rfl (lv_at hl 3 rfl) ?_
    refine gw_ald hx hb hK hP 12 0 (n := 6) rfl rfl (i := pn) (by omega) (by decide) dX0_takeLogsBack_36 ?_
    refine lv_topi (fun v11 hv11 => ?_)
    refine lv_imul hx hb dX0_takeLogsBack_37 ?_
    refine lv_topi (fun v12 hv12 => ?_)
    refine lv_aload_n hx hb dX0_takeLogsBack_38 rfl (lv_at hl 2 rfl) ?_
    refine gw_getr (C := RX0) (T := TX0) (N := 15) hx hb hts inwX0 hown hK hP 0 0 8 rfl rfl rfl (by decide) (hts _ a6) (fun _ h9 => h9) dX0_takeLogsBack_39 ?_
    refine gw_getiN (C := RX1) (T := TX1) (N := 12) hx hb hts inwX1 hown hK hP 8 11 rfl rfl rfl (by decide) (hE.nest _ (.fieldLinkNest RX0 110 RX1 "change" "I" RX2) (by decide +kernel) rfl) (fun _ h9 => h9) dX0_takeLogsBack_42 ?_
    refine lv_topi (fun v13 hv13 => ?_)
    refine lv_iadd hx hb dX0_takeLogsBack_45 ?_
    refine lv_topi (fun v14 hv14 => ?_)
    refine lv_iadd hx hb dX0_takeLogsBack_46 ?_
    refine lv_topi (fun v15 hv15 => ?_)
    refine gw_put (C := RX0) (T := TX0) (N := 15) (ty := .int) hx hb hts inwX0 tyX0 tyX0_ok nmX0 hown hK hP hD hS 0 4 rfl rfl rfl (by decide) (hts _ a7) (fun _ h9 => h9) rfl (by decide +kernel) rfl rfl dX0_takeLogsBack_47 (fun H locs hP hD hS => ?_)
    obtain ⟨sg16, esg16⟩ : ∃ z : Nat → Nat → Int32, z = gw_u sg0 0 (upd (sg0 0) 4 v15) := ⟨_, rfl⟩
    rw [← esg16] at hP hD
    have hk : KG 8 9 11 sg0 sg16 := by rw [esg16]; exact hk.wa 0 (by omega) (by omega) _
    refine lv_aload_n hx hb dX0_takeLogsBack_50 rfl (lv_at hl 2 rfl) ?_
    refine gw_getr (C := RX0) (T := TX0) (N := 15) hx hb hts inwX0 hown hK hP 0 2 2 rfl rfl rfl (by decide) (hts _ a10) (fun _ h9 => h9) dX0_takeLogsBack_51 ?_
    refine lv_iload_n hx hb dX0_takeLogsBack_54 rfl (lv_at hl 0 rfl) ?_
    refine lv_dup2_11 hx hb dX0_takeLogsBack_55 rfl rfl ?_
    refine gw_ald hx hb hK hP 2 0 (n := 4) rfl rfl (i := cf9) (by omega) (by decide) dX0_takeLogsBack_56 ?_
    refine lv_topi (fun v17 hv17 => ?_)
    refine lv_iload_n hx hb dX0_takeLogsBack_57 rfl (lv_at hl 1 rfl) ?_
    refine lv_iadd hx hb dX0_takeLogsBack_58 ?_
    refine lv_topi (fun v18 hv18 => ?_)
    refine gw_ast hx hb hK hP hD hS 2 0 (n := 4) rfl rfl (i := cf9) (by omega) (by decide) dX0_takeLogsBack_59 (fun H locs hP hD hS => ?_)
    obtain ⟨sg19, esg19⟩ : ∃ z : Nat → Nat → Int32, z = gw_u sg16 2 (upd (sg16 2) cf9 v18) := ⟨_, rfl⟩
    rw [← esg19] at hP hD
    have hk : KG 8 9 11 sg0 sg19 := by rw [esg19]; exact hk.wa 2 (by omega) (by omega) _
    refine lv_aload_n hx hb dX0_takeLogsBack_60 rfl (lv_at hl 2 rfl) ?_
    refine lv_dup hx hb dX0_takeLogsBack_61 rfl ?_
    refine gw_geti (C := RX0) (T := TX0) (N := 15) hx hb hts inwX0 hown hK hP 0 5 rfl rfl rfl (by decide) (hts _ a8) (fun _ h9 => h9) dX0_takeLogsBack_62 ?_
    refine lv_topi (fun v20 hv20 => ?_)
    refine lv_iload_n hx hb dX0_takeLogsBack_65 rfl (lv_at hl 1 rfl) ?_
    refine lv_aload_n hx hb dX0_takeLogsBack_66 rfl (lv_at hl 2 rfl) ?_
    refine gw_getr (C := RX0) (T := TX0) (N := 15) hx hb hts inwX0 hown hK hP 0 0 8 rfl rfl rfl (by decide) (hts _ a6) (fun _ h9 => h9) dX0_takeLogsBack_67 ?_
    refine gw_getrN (C := RX1) (T := TX1) (N := 12) hx hb hts inwX1 hown hK hP 8 1 10 rfl rfl rfl (by decide) (hE.nest _ (.fieldLinkNest RX0 113 RX1 "centsALog" "[I" RX2) (by decide +kernel) rfl) (fun _ h9 => h9) dX0_takeLogsBack_70 ?_
    refine lv_iload_n hx hb dX0_takeLogsBack_73 rfl (lv_at hl 0 rfl) ?_
    refine gw_ald hx hb hK hP 10 0 (n := 4) rfl rfl (i := cf9) (by omega) (by decide) dX0_takeLogsBack_74 ?_
    refine lv_topi (fun v21 hv21 => ?_)
    refine lv_imul hx hb dX0_takeLogsBack_75 ?_
    refine lv_topi (fun v22 hv22 => ?_)
    refine lv_isub hx hb dX0_takeLogsBack_76 ?_
    refine lv_topi (fun v23 hv23 => ?_)
    refine gw_put (C := RX0) (T := TX0) (N := 15) (ty := .int) hx hb hts inwX0 tyX0 tyX0_ok nmX0 hown hK hP hD hS 0 5 rfl rfl rfl (by decide) (hts _ a8) (fun _ h9 => h9) rfl (by decide +kernel) rfl rfl dX0_takeLogsBack_77 (fun H locs hP hD hS => ?_)
    obtain ⟨sg24, esg24⟩ : ∃ z : Nat → Nat → Int32, z = gw_u sg19 0 (upd (sg19 0) 5 v23) := ⟨_, rfl⟩
    rw [← esg24] at hP hD
    have hk : KG 8 9 11 sg0 sg24 := by rw [esg24]; exact hk.wa 0 (by omega) (by omega) _
    refine lv_aload_n hx hb dX0_takeLogsBack_80 rfl (lv_at hl 2 rfl) ?_
    refine gw_getr (C := RX0) (T := TX0) (N := 15) hx hb hts inwX0 hown hK hP 0 1 1 rfl rfl rfl (by decide) (hts _ a11) (fun _ h9 => h9) dX0_takeLogsBack_81 ?_
    refine lv_iload_n hx hb dX0_takeLogsBack_84 rfl (lv_at hl 3 rfl) ?_
    refine lv_iconst (v := (nI 0)) hx hb dX0_takeLogsBack_85 (by decide) ?_
    refine gw_ast hx hb hK hP hD hS 1 0 (n := 6) rfl rfl (i := pn) (by omega) (by decide) dX0_takeLogsBack_86 (fun H locs hP hD hS => ?_)
    obtain ⟨sg25, esg25⟩ : ∃ z : Nat → Nat → Int32, z = gw_u sg24 1 (upd (sg24 1) pn (nI 0)) := ⟨_, rfl⟩
    rw [← esg25] at hP hD
    have hk : KG 8 9 11 sg0 sg25 := by rw [esg25]; exact hk.wa 1 (by omega) (by omega) _
    refine lv_iconst (v := (nI 0)) hx hb dX0_takeLogsBack_87 (by decide) ?_
    refine lv_istore (lv' := [(4, .int (nI 0)), (3, .int (nI cf9)), (2, .int v7), (0, .ref (ad 0)), (1, .int (nI pn))]) hx hb dX0_takeLogsBack_88 hl (by decide) rfl (fun ls hl => ?_)
    exact c90 _ 0 v7 _ _ _ _ rfl (by omega) hk hP hD hS (lv_sub hl [0, 3, 4, 2] rfl)
  · exact hret _ _ _ _ _ hP hS dX0_takeLogsBack_11 (⟨hk, rfl⟩)
abbrev rmX0_fillsOrders : Room := { frames := 0, cells := 0, slots := 0, locals := 0 }
set_option maxRecDepth 100000 in
set_option maxHeartbeats 4000000 in
theorem m_X0_fillsOrders (l : Launch) (hl9 : l.stackTraces = false) (D : va_G) (cI : ClassId) (cJ : ClassId × ClassId) (ad : Nat → Nat) (sg0 : Nat → Nat → Int32) (sz : Nat) (hI : IvG 8 9 11 sg0) : gc_M l yX0_fillsOrders wsX0_fillsOrders rmX0_fillsOrders D vwCl (tyS cI cJ) cI cJ gxT gxN SS [.ref (ad 0)] ad sg0 sz 0 0 (fun v sg2 => KG 8 9 11 sg0 sg2 ∧ ∃ r : Int32, v = some (.int r)) := by
  refine gc_Mz_of (cc := cX0_fillsOrders) (maxL := 2) (by decide) rfl (Nat.le_of_ble_eq_true rfl) ?_
  intro p e s m below meth c A ls Q hin hE hret
  obtain ⟨⟨hx, hb, hml, hown, hts⟩, -, hlocks, -, hA, hP, hK, hD, hS, hl⟩ := hin
  have hts : ∀ w ∈ wsAll, w.before ([.ref (ad 0)] : List Value).toArray s = true := fun w h => hts w (List.mem_cons_of_mem _ h)
  have hl : lv_has ls 2 [(0, .ref (ad 0))] := hl
  have hk := KG.refl hI
  have c2 : ∀ (n9 : Nat) (i : Nat) (sg : Nat → Nat → Int32) (H : Heap) (locs : List Loc) (ls : Array Slot), 4 - i = n9 → i ≤ 4 → KG 8 9 11 sg0 sg → va_P D vwCl (gw cI cJ ad sg SS) H → va_D A (gw cI cJ ad sg SS) → va_S A s.heap H locs → lv_has ls 2 [(1, .int (nI i)), (0, .ref (ad 0))] → W p l e rmX0_fillsOrders s m ([.ref (ad 0)] : List Value).toArray below meth c H locs 0 0 Q (F0 m 2 ls []) := by
    intro n9
    induction n9 using Nat.strongRecOn with
    | ind n9 ih =>
    intro i sg H locs ls hn h1 hk hP hD hS hl
    subst hn
    refine lv_iload_n hx hb dX0_fillsOrders_2 rfl (lv_at hl 0 rfl) ?_
    refine lv_iconst (v := (nI 4)) hx hb dX0_fillsOrders_3 (by decide) ?_
    refine lv_icmp_ge (tgt := 30) hx hb dX0_fillsOrders_4 (by decide) (fun hc1 => ?_) (fun hc1 => ?_)
    · have hc1 : 4 ≤ i := (nI_leI (a := 4) (b := i) (by omega) (by omega)).mp hc1
      refine lv_iconst (v := (nI 1)) hx hb dX0_fillsOrders_30 (by decide) ?_
      exact hret _ _ _ _ _ _ hP hS dX0_fillsOrders_31 rfl (⟨hk, _, rfl⟩)
    · have hc1 : ¬ (4 ≤ i) := fun q => hc1 ((nI_leI (a := 4) (b := i) (by omega) (by omega)).mpr q)
      refine lv_aload_n hx hb dX0_fillsOrders_7 rfl (lv_at hl 1 rfl) ?_
      refine gw_getr (C := RX0) (T := TX0) (N := 15) hx hb hts inwX0 hown hK hP 0 3 3 rfl rfl rfl (by decide) (hts _ a9) (fun _ h9 => h9) dX0_fillsOrders_8 ?_
      refine lv_iload_n hx hb dX0_fillsOrders_11 rfl (lv_at hl 0 rfl) ?_
      refine gw_ald hx hb hK hP 3 0 (n := 4) rfl rfl (i := i) (by omega) (by decide) dX0_fillsOrders_12 ?_
      refine lv_topi (fun v2 hv2 => ?_)
      refine lv_aload_n hx hb dX0_fillsOrders_13 rfl (lv_at hl 1 rfl) ?_
      refine gw_getr (C := RX0) (T := TX0) (N := 15) hx hb hts inwX0 hown hK hP 0 6 4 rfl rfl rfl (by decide) (hts _ a12) (fun _ h9 => h9) dX0_fillsOrders_14 ?_
      refine lv_iload_n hx hb dX0_fillsOrders_17 rfl (lv_at hl 0 rfl) ?_
      refine gw_ald hx hb hK hP 4 0 (n := 4) rfl rfl (i := i) (by omega) (by decide) dX0_fillsOrders_18 ?_
      refine lv_topi (fun v3 hv3 => ?_)
      refine lv_icmp_ge (tgt := 24) hx hb dX0_fillsOrders_19 (by decide) (fun hc4 => ?_) (fun hc4 => ?_)
      · refine lv_iinc (k := 0) (v := (nI (i + 1))) (lv' := [(1, .int (nI (i + 1))), (0, .ref (ad 0))]) hx hb dX0_fillsOrders_24 hl rfl (nI_1 _) (by decide) rfl (fun ls hl => ?_)
        refine lv_goto (tgt := 2) hx hb dX0_fillsOrders_27 (by decide) ?_
        exact ih _ (by omega) (i + 1) _ _ _ _ rfl (by omega) hk hP hD hS (lv_sub hl [0, 1] rfl)
      · refine lv_iconst (v := (nI 0)) hx hb dX0_fillsOrders_22 (by decide) ?_
        exact hret _ _ _ _ _ _ hP hS dX0_fillsOrders_23 rfl (⟨hk, _, rfl⟩)
  refine lv_iconst (v := (nI 0)) hx hb dX0_fillsOrders_0 (by decide) ?_
  refine lv_istore_n (lv' := [(1, .int (nI 0)), (0, .ref (ad 0))]) hx hb dX0_fillsOrders_1 rfl hl (by decide) rfl (fun ls hl => ?_)
  exact c2 _ 0 _ _ _ _ rfl (by omega) hk hP hD hS (lv_sub hl [0, 1] rfl)
abbrev rmX0_gainOfPlan : Room := { frames := 1, cells := 0, slots := 0, locals := 21 }
set_option maxRecDepth 100000 in
set_option maxHeartbeats 4000000 in
theorem m_X0_gainOfPlan (l : Launch) (hl9 : l.stackTraces = false) (D : va_G) (cI : ClassId) (cJ : ClassId × ClassId) (ad : Nat → Nat) (sg0 : Nat → Nat → Int32) (sz : Nat) (hI : IvG 8 9 11 sg0) : gc_M l yX0_gainOfPlan wsX0_gainOfPlan rmX0_gainOfPlan D vwCl (tyS cI cJ) cI cJ gxT gxN SS [.ref (ad 0)] ad sg0 sz 0 0 (fun v sg2 => KG 8 9 11 sg0 sg2 ∧ ∃ r : Int32, v = some (.int r)) := by
  refine gc_Mi_of (cc := cX0_gainOfPlan) (maxL := 3) (by decide) rfl (Nat.le_of_ble_eq_true rfl) ?_
  intro p e s m below meth c A ls Q hin hE hret
  obtain ⟨⟨hx, hb, hml, hown, hts⟩, -, hlocks, -, hA, hP, hK, hD, hS, hl⟩ := hin
  have hts : ∀ w ∈ wsAll, w.before ([.ref (ad 0)] : List Value).toArray s = true := fun w h => hts w (List.mem_cons_of_mem _ h)
  have hl : lv_has ls 3 [(0, .ref (ad 0))] := hl
  have hk := KG.refl hI
  have c8 : ∀ (n9 : Nat) (i : Nat) (x1 : Int32) (sg : Nat → Nat → Int32) (H : Heap) (locs : List Loc) (ls : Array Slot), 4 - i = n9 → i ≤ 4 → KG 8 9 11 sg0 sg → va_P D vwCl (gw cI cJ ad sg SS) H → va_D A (gw cI cJ ad sg SS) → va_S A s.heap H locs → lv_has ls 3 [(2, .int (nI i)), (1, .int x1), (0, .ref (ad 0))] → W p l e rmX0_gainOfPlan s m ([.ref (ad 0)] : List Value).toArray below meth c H locs 0 0 Q (F0 m 8 ls []) := by
    intro n9
    induction n9 using Nat.strongRecOn with
    | ind n9 ih =>
    intro i x1 sg H locs ls hn h1 hk hP hD hS hl
    subst hn
    refine lv_iload_n hx hb dX0_gainOfPlan_8 rfl (lv_at hl 0 rfl) ?_
    refine lv_iconst (v := (nI 4)) hx hb dX0_gainOfPlan_9 (by decide) ?_
    refine lv_icmp_ge (tgt := 44) hx hb dX0_gainOfPlan_10 (by decide) (fun hc1 => ?_) (fun hc1 => ?_)
    · have hc1 : 4 ≤ i := (nI_leI (a := 4) (b := i) (by omega) (by omega)).mp hc1
      refine lv_iload_n hx hb dX0_gainOfPlan_44 rfl (lv_at hl 1 rfl) ?_
      exact hret _ _ _ _ _ _ hP hS dX0_gainOfPlan_45 (⟨hk, _, rfl⟩)
    · have hc1 : ¬ (4 ≤ i) := fun q => hc1 ((nI_leI (a := 4) (b := i) (by omega) (by omega)).mpr q)
      refine lv_iload_n hx hb dX0_gainOfPlan_13 rfl (lv_at hl 1 rfl) ?_
      refine lv_aload_n hx hb dX0_gainOfPlan_14 rfl (lv_at hl 2 rfl) ?_
      refine gw_getr (C := RX0) (T := TX0) (N := 15) hx hb hts inwX0 hown hK hP 0 8 6 rfl rfl rfl (by decide) (hts _ a14) (fun _ h9 => h9) dX0_gainOfPlan_15 ?_
      refine lv_iload_n hx hb dX0_gainOfPlan_18 rfl (lv_at hl 0 rfl) ?_
      refine gw_ald hx hb hK hP 6 0 (n := 4) rfl rfl (i := i) (by omega) (by decide) dX0_gainOfPlan_19 ?_
      refine lv_topi (fun v2 hv2 => ?_)
      refine lv_aload_n hx hb dX0_gainOfPlan_20 rfl (lv_at hl 2 rfl) ?_
      refine gw_getr (C := RX0) (T := TX0) (N := 15) hx hb hts inwX0 hown hK hP 0 3 3 rfl rfl rfl (by decide) (hts _ a9) (fun _ h9 => h9) dX0_gainOfPlan_21 ?_
      refine lv_iload_n hx hb dX0_gainOfPlan_24 rfl (lv_at hl 0 rfl) ?_
      refine gw_ald hx hb hK hP 3 0 (n := 4) rfl rfl (i := i) (by omega) (by decide) dX0_gainOfPlan_25 ?_
      refine lv_topi (fun v3 hv3 => ?_)
      refine lv_aload_n hx hb dX0_gainOfPlan_26 rfl (lv_at hl 2 rfl) ?_
      refine gw_getr (C := RX0) (T := TX0) (N := 15) hx hb hts inwX0 hown hK hP 0 7 5 rfl rfl rfl (by decide) (hts _ a13) (fun _ h9 => h9) dX0_gainOfPlan_27 ?_
      refine lv_iload_n hx hb dX0_gainOfPlan_30 rfl (lv_at hl 0 rfl) ?_
      refine gw_ald hx hb hK hP 5 0 (n := 4) rfl rfl (i := i) (by omega) (by decide) dX0_gainOfPlan_31 ?_
      refine lv_topi (fun v4 hv4 => ?_)
      refine va_mmin hx hb (hml.trans hl.1.symm) hown (hts _ a20) (hts _ a21) (hts _ a22) (hts _ a23) (by decide) (Nat.le_of_ble_eq_true rfl) (by decide) (by decide) dX0_gainOfPlan_32 ?_
      refine lv_topi (fun v5 hv5 => ?_)
      refine lv_imul hx hb dX0_gainOfPlan_35 ?_
      refine lv_topi (fun v6 hv6 => ?_)
      refine lv_iadd hx hb dX0_gainOfPlan_36 ?_
      refine lv_topi (fun v7 hv7 => ?_)
      refine lv_istore_n (lv' := [(1, .int v7), (2, .int (nI i)), (0, .ref (ad 0))]) hx hb dX0_gainOfPlan_37 rfl hl (by decide) rfl (fun ls hl => ?_)
      refine lv_iinc (k := 1) (v := (nI (i + 1))) (lv' := [(2, .int (nI (i + 1))), (1, .int v7), (0, .ref (ad 0))]) hx hb dX0_gainOfPlan_38 hl rfl (nI_1 _) (by decide) rfl (fun ls hl => ?_)
      refine lv_goto (tgt := 8) hx hb dX0_gainOfPlan_41 (by decide) ?_
      exact ih _ (by omega) (i + 1) v7 _ _ _ _ rfl (by omega) hk hP hD hS (lv_sub hl [0, 1, 2] rfl)
  refine lv_aload_n hx hb dX0_gainOfPlan_0 rfl (lv_at hl 0 rfl) ?_
  refine gw_geti (C := RX0) (T := TX0) (N := 15) hx hb hts inwX0 hown hK hP 0 5 rfl rfl rfl (by decide) (hts _ a8) (fun _ h9 => h9) dX0_gainOfPlan_1 ?_
  refine lv_topi (fun v8 hv8 => ?_)
  refine lv_ineg hx hb dX0_gainOfPlan_4 ?_
  refine lv_topi (fun v9 hv9 => ?_)
  refine lv_istore_n (lv' := [(1, .int v9), (0, .ref (ad 0))]) hx hb dX0_gainOfPlan_5 rfl hl (by decide) rfl (fun ls hl => ?_)
  refine lv_iconst (v := (nI 0)) hx hb dX0_gainOfPlan_6 (by decide) ?_
  refine lv_istore_n (lv' := [(2, .int (nI 0)), (1, .int v9), (0, .ref (ad 0))]) hx hb dX0_gainOfPlan_7 rfl hl (by decide) rfl (fun ls hl => ?_)
  exact c8 _ 0 v9 _ _ _ _ rfl (by omega) hk hP hD hS (lv_sub hl [0, 1, 2] rfl)
abbrev rmX0_lookAtPlan : Room := { frames := 2, cells := 0, slots := 0, locals := 43 }
set_option maxRecDepth 100000 in
set_option maxHeartbeats 4000000 in
theorem m_X0_lookAtPlan (l : Launch) (hl9 : l.stackTraces = false) (D : va_G) (cI : ClassId) (cJ : ClassId × ClassId) (ad : Nat → Nat) (sg0 : Nat → Nat → Int32) (sz : Nat) (hI : IvG 8 9 11 sg0) : gc_M l yX0_lookAtPlan wsX0_lookAtPlan rmX0_lookAtPlan D vwCl (tyS cI cJ) cI cJ gxT gxN SS [.ref (ad 0)] ad sg0 sz 0 0 (fun v sg2 => KG 8 9 11 sg0 sg2 ∧ v = none) := by
  refine gc_Mv_of (cc := cX0_lookAtPlan) (maxL := 2) (by decide) rfl (Nat.le_of_ble_eq_true rfl) ?_
  intro p e s m below meth c A ls Q hin hE hret
  obtain ⟨⟨hx, hb, hml, hown, hts⟩, -, hlocks, -, hA, hP, hK, hD, hS, hl⟩ := hin
  have hts : ∀ w ∈ wsAll, w.before ([.ref (ad 0)] : List Value).toArray s = true := fun w h => hts w (List.mem_cons_of_mem _ h)
  have hl : lv_has ls 2 [(0, .ref (ad 0))] := hl
  have hk := KG.refl hI
  have c28 : ∀ (x1 : Int32) (sg : Nat → Nat → Int32) (H : Heap) (locs : List Loc) (ls : Array Slot), KG 8 9 11 sg0 sg → va_P D vwCl (gw cI cJ ad sg SS) H → va_D A (gw cI cJ ad sg SS) → va_S A s.heap H locs → lv_has ls 2 [(1, .int x1), (0, .ref (ad 0))] → W p l e rmX0_lookAtPlan s m ([.ref (ad 0)] : List Value).toArray below meth c H locs 0 0 Q (F0 m 28 ls []) := by
    intro x1 sg H locs ls hk hP hD hS hl
    refine lv_aload_n hx hb dX0_lookAtPlan_28 rfl (lv_at hl 1 rfl) ?_
    refine lv_iconst (v := (nI 1)) hx hb dX0_lookAtPlan_29 (by decide) ?_
    refine gw_put (C := RX0) (T := TX0) (N := 15) (ty := .boolean) hx hb hts inwX0 tyX0 tyX0_ok nmX0 hown hK hP hD hS 0 12 rfl rfl rfl (by decide) (hts _ a24) (fun _ h9 => h9) rfl (by decide +kernel) rfl rfl dX0_lookAtPlan_30 (fun H locs hP hD hS => ?_)
    obtain ⟨sg1, esg1⟩ : ∃ z : Nat → Nat → Int32, z = gw_u sg 0 (upd (sg 0) 12 (nI 1)) := ⟨_, rfl⟩
    rw [← esg1] at hP hD
    have hk : KG 8 9 11 sg0 sg1 := by rw [esg1]; exact hk.wa 0 (by omega) (by omega) _
    refine lv_aload_n hx hb dX0_lookAtPlan_33 rfl (lv_at hl 1 rfl) ?_
    refine lv_iload_n hx hb dX0_lookAtPlan_34 rfl (lv_at hl 0 rfl) ?_
    refine gw_put (C := RX0) (T := TX0) (N := 15) (ty := .int) hx hb hts inwX0 tyX0 tyX0_ok nmX0 hown hK hP hD hS 0 13 rfl rfl rfl (by decide) (hts _ a25) (fun _ h9 => h9) rfl (by decide +kernel) rfl rfl dX0_lookAtPlan_35 (fun H locs hP hD hS => ?_)
    obtain ⟨sg2, esg2⟩ : ∃ z : Nat → Nat → Int32, z = gw_u sg1 0 (upd (sg1 0) 13 x1) := ⟨_, rfl⟩
    rw [← esg2] at hP hD
    have hk : KG 8 9 11 sg0 sg2 := by rw [esg2]; exact hk.wa 0 (by omega) (by omega) _
    refine lv_aload_n hx hb dX0_lookAtPlan_38 rfl (lv_at hl 1 rfl) ?_
    refine gw_getr (C := RX0) (T := TX0) (N := 15) hx hb hts inwX0 hown hK hP 0 1 1 rfl rfl rfl (by decide) (hts _ a11) (fun _ h9 => h9) dX0_lookAtPlan_39 ?_
    refine lv_iconst (v := (nI 0)) hx hb dX0_lookAtPlan_42 (by decide) ?_
    refine lv_aload_n hx hb dX0_lookAtPlan_43 rfl (lv_at hl 1 rfl) ?_
    refine gw_getr (C := RX0) (T := TX0) (N := 15) hx hb hts inwX0 hown hK hP 0 14 7 rfl rfl rfl (by decide) (hts _ a26) (fun _ h9 => h9) dX0_lookAtPlan_44 ?_
    refine lv_iconst (v := (nI 0)) hx hb dX0_lookAtPlan_47 (by decide) ?_
    refine lv_bipush (v := (nI 6)) hx hb dX0_lookAtPlan_48 (by decide) ?_
    refine gw_cpy hx hb (hml.trans hl.1.symm) hown (hts _ a27) (hts _ a28) (hts _ a29) (hts _ a30) hK hP hD hS 1 7 0 rfl rfl rfl (by decide) (by decide) (by decide) (by decide) (by decide) dX0_lookAtPlan_50 (fun H locs hP hD hS => ?_)
    obtain ⟨sg3, esg3⟩ : ∃ z : Nat → Nat → Int32, z = gw_u sg2 7 (va_cpy (sg2 1) (sg2 7) 0 0 6) := ⟨_, rfl⟩
    rw [← esg3] at hP hD
    have hk : KG 8 9 11 sg0 sg3 := by rw [esg3]; exact hk.wa 7 (by omega) (by omega) _
    exact hret _ _ _ _ _ hP hS dX0_lookAtPlan_53 (⟨hk, rfl⟩)
  refine lv_aload_n hx hb dX0_lookAtPlan_0 rfl (lv_at hl 0 rfl) ?_
  refine gc_go0 (va_runV (As := []) (rest := []) ⟨hx, hb, hml, hown, hts⟩ (m_X0_fillsOrders l hl9 D cI cJ ad sg0 _  hk.1) (cwV 0 hts (gwV a31 a32 a33 a18 a34) rfl rfl rfl (by decide +kernel) ⟨by decide, by decide⟩) (gc_preV0 hK hP hD hS hA hE rfl rfl rfl) rfl rfl hl.1 rfl (lv_room (Nat.le_of_ble_eq_true rfl)) dX0_lookAtPlan_1 ⟨by decide, by decide⟩) hD hS hA (fun v4 sg6 H locs hp7 hP hD hS => ?_)
  obtain ⟨hk1, r10, rfl⟩ := hp7
  have hk := hk.trans hk1
  refine W.eq (g2 := F0 m 4 ls [.int r10]) rfl ?_
  refine lv_if_ne (tgt := 8) hx hb dX0_lookAtPlan_4 (by decide) (fun hc11 => ?_) (fun hc11 => ?_)
  · refine lv_aload_n hx hb dX0_lookAtPlan_8 rfl (lv_at hl 0 rfl) ?_
    refine gc_go0 (va_runV (As := []) (rest := []) ⟨hx, hb, hml, hown, hts⟩ (m_X0_gainOfPlan l hl9 D cI cJ ad sg6 _  hk.1) (cwV 0 hts (gwV a35 a36 a37 a18 a38) rfl rfl rfl (by decide +kernel) ⟨by decide, by decide⟩) (gc_preV0 hK hP hD hS hA hE rfl rfl rfl) rfl rfl hl.1 rfl (lv_room (Nat.le_of_ble_eq_true rfl)) dX0_lookAtPlan_9 ⟨by decide, by decide⟩) hD hS hA (fun v12 sg14 H locs hp15 hP hD hS => ?_)
    obtain ⟨hk1, r18, rfl⟩ := hp15
    have hk := hk.trans hk1
    refine W.eq (g2 := F0 m 12 ls [.int r18]) rfl ?_
    refine lv_istore_n (lv' := [(1, .int r18), (0, .ref (ad 0))]) hx hb dX0_lookAtPlan_12 rfl hl (by decide) rfl (fun ls hl => ?_)
    refine lv_aload_n hx hb dX0_lookAtPlan_13 rfl (lv_at hl 1 rfl) ?_
    refine gw_geti (C := RX0) (T := TX0) (N := 15) hx hb hts inwX0 hown hK hP 0 12 rfl rfl rfl (by decide) (hts _ a24) (fun _ h9 => h9) dX0_lookAtPlan_14 ?_
    refine lv_topi (fun v19 hv19 => ?_)
    refine lv_if_eq (tgt := 28) hx hb dX0_lookAtPlan_17 (by decide) (fun hc20 => ?_) (fun hc20 => ?_)
    · exact c28 r18 _ _ _ _  hk hP hD hS (lv_sub hl [0, 1] rfl)
    · refine lv_iload_n hx hb dX0_lookAtPlan_20 rfl (lv_at hl 0 rfl) ?_
      refine lv_aload_n hx hb dX0_lookAtPlan_21 rfl (lv_at hl 1 rfl) ?_
      refine gw_geti (C := RX0) (T := TX0) (N := 15) hx hb hts inwX0 hown hK hP 0 13 rfl rfl rfl (by decide) (hts _ a25) (fun _ h9 => h9) dX0_lookAtPlan_22 ?_
      refine lv_topi (fun v21 hv21 => ?_)
      refine lv_icmp_le (tgt := 53) hx hb dX0_lookAtPlan_25 (by decide) (fun hc22 => ?_) (fun hc22 => ?_)
      · exact hret _ _ _ _ _ hP hS dX0_lookAtPlan_53 (⟨hk, rfl⟩)
      · exact c28 r18 _ _ _ _  hk hP hD hS (lv_sub hl [0, 1] rfl)
  · exact hret _ _ _ _ _ hP hS dX0_lookAtPlan_7 (⟨hk, rfl⟩)
abbrev rmX0_tell6 : Room := { frames := 3, cells := 0, slots := 0, locals := 64 }
set_option maxRecDepth 100000 in
set_option maxHeartbeats 4000000 in
theorem m_X0_tell6 (l : Launch) (hl9 : l.stackTraces = false) (D : va_G) (cI : ClassId) (cJ : ClassId × ClassId) (ad : Nat → Nat) (sg0 : Nat → Nat → Int32) (sz : Nat) (hI : IvG 8 9 11 sg0) : gc_M l yX0_tellPatternsFrom wsX0_tellPatternsFrom rmX0_tell6 D vwCl (tyS cI cJ) cI cJ gxT gxN SS [.ref (ad 0), .int (nI 6)] ad sg0 sz 0 0 (fun v sg2 => KG 8 9 11 sg0 sg2 ∧ v = none) := by
  refine gc_Mv_of (cc := cX0_tellPatternsFrom) (maxL := 3) (by decide) rfl (Nat.le_of_ble_eq_true rfl) ?_
  intro p e s m below meth c A ls Q hin hE hret
  obtain ⟨⟨hx, hb, hml, hown, hts⟩, -, hlocks, -, hA, hP, hK, hD, hS, hl⟩ := hin
  have hts : ∀ w ∈ wsAll, w.before ([.ref (ad 0), .int (nI 6)] : List Value).toArray s = true := fun w h => hts w (List.mem_cons_of_mem _ h)
  have hl : lv_has ls 3 [(0, .ref (ad 0)), (1, .int (nI 6))] := hl
  have hk := KG.refl hI
  have c17 : ∀ (sg : Nat → Nat → Int32) (H : Heap) (locs : List Loc) (ls : Array Slot), KG 8 9 11 sg0 sg → va_P D vwCl (gw cI cJ ad sg SS) H → va_D A (gw cI cJ ad sg SS) → va_S A s.heap H locs → lv_has ls 3 [(0, .ref (ad 0)), (1, .int (nI 6))] → W p l e rmX0_tell6 s m ([.ref (ad 0), .int (nI 6)] : List Value).toArray below meth c H locs 0 0 Q (F0 m 17 ls []) := by
    intro sg H locs ls hk hP hD hS hl
    refine lv_aload_n hx hb dX0_tellPatternsFrom_17 rfl (lv_at hl 0 rfl) ?_
    refine gc_go0 (va_runV (As := []) (rest := []) ⟨hx, hb, hml, hown, hts⟩ (m_X0_lookAtPlan l hl9 D cI cJ ad sg _  hk.1) (cwV 0 hts (gwV a39 a40 a41 a18 a42) rfl rfl rfl (by decide +kernel) ⟨by decide, by decide⟩) (gc_preV0 hK hP hD hS hA hE rfl rfl rfl) rfl rfl hl.1 rfl (lv_room (Nat.le_of_ble_eq_true rfl)) dX0_tellPatternsFrom_18 ⟨by decide, by decide⟩) hD hS hA (fun v1 sg3 H locs hp4 hP hD hS => ?_)
    obtain ⟨hk1, rfl⟩ := hp4
    have hk := hk.trans hk1
    refine W.eq (g2 := F0 m 21 ls []) rfl ?_
    exact hret _ _ _ _ _ hP hS dX0_tellPatternsFrom_21 (⟨hk, rfl⟩)
  refine lv_iload_n hx hb dX0_tellPatternsFrom_0 rfl (lv_at hl 1 rfl) ?_
  refine lv_aload_n hx hb dX0_tellPatternsFrom_1 rfl (lv_at hl 0 rfl) ?_
  refine gw_getr (C := RX0) (T := TX0) (N := 15) hx hb hts inwX0 hown hK hP 0 0 8 rfl rfl rfl (by decide) (hts _ a6) (fun _ h9 => h9) dX0_tellPatternsFrom_2 ?_
  refine gw_getiN (C := RX1) (T := TX1) (N := 12) hx hb hts inwX1 hown hK hP 8 9 rfl rfl rfl (by decide) (hE.nest _ (.fieldLinkNest RX0 81 RX1 "patterns" "I" RX2) (by decide +kernel) rfl) (fun _ h9 => h9) dX0_tellPatternsFrom_5 ?_
  obtain ⟨N7, hN7, eN7⟩ := hk.1.1
  refine gw_top (y := (nI N7)) (eN7) ?_
  refine lv_icmp_ge (tgt := 17) hx hb dX0_tellPatternsFrom_8 (by decide) (fun hc8 => ?_) (fun hc8 => ?_)
  · have hc8 : N7 ≤ 6 := (nI_leI (a := N7) (b := 6) (by omega) (by omega)).mp hc8
    exact c17  _ _ _ _  hk hP hD hS (lv_sub hl [0, 1] rfl)
  · have hc8 : ¬ (N7 ≤ 6) := fun q => hc8 ((nI_leI (a := N7) (b := 6) (by omega) (by omega)).mpr q)
    refine lv_iload_n hx hb dX0_tellPatternsFrom_11 rfl (lv_at hl 1 rfl) ?_
    refine lv_bipush (v := (nI 6)) hx hb dX0_tellPatternsFrom_12 (by decide) ?_
    refine lv_icmp_lt (tgt := 22) hx hb dX0_tellPatternsFrom_14 (by decide) (fun hc9 => ?_) (fun hc9 => ?_)
    · exact absurd hc9 (by decide)
    · exact c17  _ _ _ _  hk hP hD hS (lv_sub hl [0, 1] rfl)
abbrev rmX0_step5 : Room := { frames := 4, cells := 0, slots := 0, locals := 86 }
set_option maxRecDepth 100000 in
set_option maxHeartbeats 4000000 in
theorem m_X0_step5 (l : Launch) (hl9 : l.stackTraces = false) (D : va_G) (cI : ClassId) (cJ : ClassId × ClassId) (ad : Nat → Nat) (sg0 : Nat → Nat → Int32) (sz : Nat) (hI : IvG 8 9 11 sg0) : gc_M l yX0_takeStep wsX0_takeStep rmX0_step5 D vwCl (tyS cI cJ) cI cJ gxT gxN SS [.ref (ad 0), .int (nI 5)] ad sg0 sz 0 0 (fun v sg2 => KG 8 9 11 sg0 sg2 ∧ v = none) := by
  refine gc_Mv_of (cc := cX0_takeStep) (maxL := 2) (by decide) rfl (Nat.le_of_ble_eq_true rfl) ?_
  intro p e s m below meth c A ls Q hin hE hret
  obtain ⟨⟨hx, hb, hml, hown, hts⟩, -, hlocks, -, hA, hP, hK, hD, hS, hl⟩ := hin
  have hts : ∀ w ∈ wsAll, w.before ([.ref (ad 0), .int (nI 5)] : List Value).toArray s = true := fun w h => hts w (List.mem_cons_of_mem _ h)
  have hl : lv_has ls 2 [(0, .ref (ad 0)), (1, .int (nI 5))] := hl
  have hk := KG.refl hI
  refine lv_aload_n hx hb dX0_takeStep_0 rfl (lv_at hl 0 rfl) ?_
  refine gw_geti (C := RX0) (T := TX0) (N := 15) hx hb hts inwX0 hown hK hP 0 10 rfl rfl rfl (by decide) (hts _ a43) (fun _ h9 => h9) dX0_takeStep_1 ?_
  refine lv_topi (fun v1 hv1 => ?_)
  refine lv_aload_n hx hb dX0_takeStep_4 rfl (lv_at hl 0 rfl) ?_
  refine gw_geti (C := RX0) (T := TX0) (N := 15) hx hb hts inwX0 hown hK hP 0 9 rfl rfl rfl (by decide) (hts _ a44) (fun _ h9 => h9) dX0_takeStep_5 ?_
  refine lv_topi (fun v2 hv2 => ?_)
  refine lv_icmp_lt (tgt := 17) hx hb dX0_takeStep_8 (by decide) (fun hc3 => ?_) (fun hc3 => ?_)
  · refine lv_aload_n hx hb dX0_takeStep_17 rfl (lv_at hl 0 rfl) ?_
    refine lv_dup hx hb dX0_takeStep_18 rfl ?_
    refine gw_geti (C := RX0) (T := TX0) (N := 15) hx hb hts inwX0 hown hK hP 0 10 rfl rfl rfl (by decide) (hts _ a43) (fun _ h9 => h9) dX0_takeStep_19 ?_
    refine lv_topi (fun v4 hv4 => ?_)
    refine lv_iconst (v := (nI 1)) hx hb dX0_takeStep_22 (by decide) ?_
    refine lv_iadd hx hb dX0_takeStep_23 ?_
    refine lv_topi (fun v5 hv5 => ?_)
    refine gw_put (C := RX0) (T := TX0) (N := 15) (ty := .int) hx hb hts inwX0 tyX0 tyX0_ok nmX0 hown hK hP hD hS 0 10 rfl rfl rfl (by decide) (hts _ a43) (fun _ h9 => h9) rfl (by decide +kernel) rfl rfl dX0_takeStep_24 (fun H locs hP hD hS => ?_)
    obtain ⟨sg6, esg6⟩ : ∃ z : Nat → Nat → Int32, z = gw_u sg0 0 (upd (sg0 0) 10 v5) := ⟨_, rfl⟩
    rw [← esg6] at hP hD
    have hk : KG 8 9 11 sg0 sg6 := by rw [esg6]; exact hk.wa 0 (by omega) (by omega) _
    refine lv_aload_n hx hb dX0_takeStep_27 rfl (lv_at hl 0 rfl) ?_
    refine lv_iload_n hx hb dX0_takeStep_28 rfl (lv_at hl 1 rfl) ?_
    refine lv_iconst (v := (nI 1)) hx hb dX0_takeStep_29 (by decide) ?_
    refine lv_iadd hx hb dX0_takeStep_30 ?_
    refine gw_top (y := (nI 6)) (by decide) ?_
    refine gc_go0 (va_runV (As := [.int (nI 6)]) (rest := []) ⟨hx, hb, hml, hown, hts⟩ (m_X0_tell6 l hl9 D cI cJ ad sg6 _  hk.1) (cwV 1 hts (gwV a45 a46 a47 a18 a48) rfl rfl rfl (by decide +kernel) ⟨by decide, by decide⟩) (gc_preV0 hK hP hD hS hA hE rfl rfl rfl) rfl rfl hl.1 rfl (lv_room (Nat.le_of_ble_eq_true rfl)) dX0_takeStep_31 ⟨by decide, by decide⟩) hD hS hA (fun v7 sg9 H locs hp10 hP hD hS => ?_)
    obtain ⟨hk1, rfl⟩ := hp10
    have hk := hk.trans hk1
    refine W.eq (g2 := F0 m 34 ls []) rfl ?_
    exact hret _ _ _ _ _ hP hS dX0_takeStep_34 (⟨hk, rfl⟩)
  · refine lv_aload_n hx hb dX0_takeStep_11 rfl (lv_at hl 0 rfl) ?_
    refine lv_iconst (v := (nI 1)) hx hb dX0_takeStep_12 (by decide) ?_
    refine gw_put (C := RX0) (T := TX0) (N := 15) (ty := .boolean) hx hb hts inwX0 tyX0 tyX0_ok nmX0 hown hK hP hD hS 0 11 rfl rfl rfl (by decide) (hts _ a49) (fun _ h9 => h9) rfl (by decide +kernel) rfl rfl dX0_takeStep_13 (fun H locs hP hD hS => ?_)
    obtain ⟨sg13, esg13⟩ : ∃ z : Nat → Nat → Int32, z = gw_u sg0 0 (upd (sg0 0) 11 (nI 1)) := ⟨_, rfl⟩
    rw [← esg13] at hP hD
    have hk : KG 8 9 11 sg0 sg13 := by rw [esg13]; exact hk.wa 0 (by omega) (by omega) _
    exact hret _ _ _ _ _ hP hS dX0_takeStep_16 (⟨hk, rfl⟩)
abbrev rmX0_tell5 : Room := { frames := 5, cells := 0, slots := 0, locals := 107 }
set_option maxRecDepth 100000 in
set_option maxHeartbeats 4000000 in
theorem m_X0_tell5 (l : Launch) (hl9 : l.stackTraces = false) (D : va_G) (cI : ClassId) (cJ : ClassId × ClassId) (ad : Nat → Nat) (sg0 : Nat → Nat → Int32) (sz : Nat) (hI : IvG 8 9 11 sg0) : gc_M l yX0_tellPatternsFrom wsX0_tellPatternsFrom rmX0_tell5 D vwCl (tyS cI cJ) cI cJ gxT gxN SS [.ref (ad 0), .int (nI 5)] ad sg0 sz 0 0 (fun v sg2 => KG 8 9 11 sg0 sg2 ∧ v = none) := by
  refine gc_Mv_of (cc := cX0_tellPatternsFrom) (maxL := 3) (by decide) rfl (Nat.le_of_ble_eq_true rfl) ?_
  intro p e s m below meth c A ls Q hin hE hret
  obtain ⟨⟨hx, hb, hml, hown, hts⟩, -, hlocks, -, hA, hP, hK, hD, hS, hl⟩ := hin
  have hts : ∀ w ∈ wsAll, w.before ([.ref (ad 0), .int (nI 5)] : List Value).toArray s = true := fun w h => hts w (List.mem_cons_of_mem _ h)
  have hl : lv_has ls 3 [(0, .ref (ad 0)), (1, .int (nI 5))] := hl
  have hk := KG.refl hI
  have c69 : ∀ (sg : Nat → Nat → Int32) (H : Heap) (locs : List Loc) (ls : Array Slot), KG 8 9 11 sg0 sg → va_P D vwCl (gw cI cJ ad sg SS) H → va_D A (gw cI cJ ad sg SS) → va_S A s.heap H locs → lv_has ls 3 [(0, .ref (ad 0)), (1, .int (nI 5))] → W p l e rmX0_tell5 s m ([.ref (ad 0), .int (nI 5)] : List Value).toArray below meth c H locs 0 0 Q (F0 m 69 ls []) := by
    intro sg H locs ls hk hP hD hS hl
    refine lv_aload_n hx hb dX0_tellPatternsFrom_69 rfl (lv_at hl 0 rfl) ?_
    refine lv_iload_n hx hb dX0_tellPatternsFrom_70 rfl (lv_at hl 1 rfl) ?_
    refine gc_go0 (va_runV (As := [.int (nI 5)]) (rest := []) ⟨hx, hb, hml, hown, hts⟩ (m_X0_takeLogsBack l hl9 D cI cJ ad sg _ 5 (by omega) hk.1) (cwV 1 hts (gwV a50 a51 a52 a18 a53) rfl rfl rfl (by decide +kernel) ⟨by decide, by decide⟩) (gc_preV0 hK hP hD hS hA hE rfl rfl rfl) rfl rfl hl.1 rfl (lv_room (Nat.le_of_ble_eq_true rfl)) dX0_tellPatternsFrom_71 ⟨by decide, by decide⟩) hD hS hA (fun v1 sg3 H locs hp4 hP hD hS => ?_)
    obtain ⟨hk1, rfl⟩ := hp4
    have hk := hk.trans hk1
    refine W.eq (g2 := F0 m 74 ls []) rfl ?_
    exact hret _ _ _ _ _ hP hS dX0_tellPatternsFrom_74 (⟨hk, rfl⟩)
  have c29 : ∀ (n9 : Nat) (i : Nat) (sg : Nat → Nat → Int32) (H : Heap) (locs : List Loc) (ls : Array Slot), 13 - i = n9 → i ≤ 13 → KG 8 9 11 sg0 sg → va_P D vwCl (gw cI cJ ad sg SS) H → va_D A (gw cI cJ ad sg SS) → va_S A s.heap H locs → lv_has ls 3 [(2, .int (nI i)), (0, .ref (ad 0)), (1, .int (nI 5))] → W p l e rmX0_tell5 s m ([.ref (ad 0), .int (nI 5)] : List Value).toArray below meth c H locs 0 0 Q (F0 m 29 ls []) := by
    intro n9
    induction n9 using Nat.strongRecOn with
    | ind n9 ih =>
    intro i sg H locs ls hn h1 hk hP hD hS hl
    subst hn
    refine lv_iload_n hx hb dX0_tellPatternsFrom_29 rfl (lv_at hl 0 rfl) ?_
    refine lv_bipush (v := (nI 12)) hx hb dX0_tellPatternsFrom_30 (by decide) ?_
    refine lv_icmp_gt (tgt := 69) hx hb dX0_tellPatternsFrom_32 (by decide) (fun hc7 => ?_) (fun hc7 => ?_)
    · have hc7 : 12 < i := (nI_ltI (a := 12) (b := i) (by omega) (by omega)).mp hc7
      exact c69  _ _ _ _  hk hP hD hS (lv_sub hl [1, 2] rfl)
    · have hc7 : ¬ (12 < i) := fun q => hc7 ((nI_ltI (a := 12) (b := i) (by omega) (by omega)).mpr q)
      refine lv_aload_n hx hb dX0_tellPatternsFrom_35 rfl (lv_at hl 1 rfl) ?_
      refine gw_geti (C := RX0) (T := TX0) (N := 15) hx hb hts inwX0 hown hK hP 0 11 rfl rfl rfl (by decide) (hts _ a49) (fun _ h9 => h9) dX0_tellPatternsFrom_36 ?_
      refine lv_topi (fun v8 hv8 => ?_)
      refine lv_if_ne (tgt := 69) hx hb dX0_tellPatternsFrom_39 (by decide) (fun hc9 => ?_) (fun hc9 => ?_)
      · exact c69  _ _ _ _  hk hP hD hS (lv_sub hl [1, 2] rfl)
      · refine lv_aload_n hx hb dX0_tellPatternsFrom_42 rfl (lv_at hl 1 rfl) ?_
        refine lv_iload_n hx hb dX0_tellPatternsFrom_43 rfl (lv_at hl 2 rfl) ?_
        refine gc_go0 (va_runV (As := [.int (nI 5)]) (rest := []) ⟨hx, hb, hml, hown, hts⟩ (m_X0_oneLogMoreFits l hl9 D cI cJ ad sg _ 5 (by omega) hk.1) (cwV 1 hts (gwV a54 a55 a56 a18 a57) rfl rfl rfl (by decide +kernel) ⟨by decide, by decide⟩) (gc_preV0 hK hP hD hS hA hE rfl rfl rfl) rfl rfl hl.1 rfl (lv_room (Nat.le_of_ble_eq_true rfl)) dX0_tellPatternsFrom_44 ⟨by decide, by decide⟩) hD hS hA (fun v10 sg12 H locs hp13 hP hD hS => ?_)
        obtain ⟨hk1, r16, rfl⟩ := hp13
        have hk := hk.trans hk1
        refine W.eq (g2 := F0 m 47 ls [.int r16]) rfl ?_
        refine lv_if_ne (tgt := 53) hx hb dX0_tellPatternsFrom_47 (by decide) (fun hc17 => ?_) (fun hc17 => ?_)
        · refine lv_aload_n hx hb dX0_tellPatternsFrom_53 rfl (lv_at hl 1 rfl) ?_
          refine lv_iload_n hx hb dX0_tellPatternsFrom_54 rfl (lv_at hl 2 rfl) ?_
          refine gc_go0 (va_runV (As := [.int (nI 5)]) (rest := []) ⟨hx, hb, hml, hown, hts⟩ (m_X0_addLog l hl9 D cI cJ ad sg12 _ 5 (by omega) hk.1) (cwV 1 hts (gwV a58 a59 a60 a18 a61) rfl rfl rfl (by decide +kernel) ⟨by decide, by decide⟩) (gc_preV0 hK hP hD hS hA hE rfl rfl rfl) rfl rfl hl.1 rfl (lv_room (Nat.le_of_ble_eq_true rfl)) dX0_tellPatternsFrom_55 ⟨by decide, by decide⟩) hD hS hA (fun v18 sg20 H locs hp21 hP hD hS => ?_)
          obtain ⟨hk1, rfl⟩ := hp21
          have hk := hk.trans hk1
          refine W.eq (g2 := F0 m 58 ls []) rfl ?_
          refine lv_aload_n hx hb dX0_tellPatternsFrom_58 rfl (lv_at hl 1 rfl) ?_
          refine lv_iload_n hx hb dX0_tellPatternsFrom_59 rfl (lv_at hl 2 rfl) ?_
          refine gc_go0 (va_runV (As := [.int (nI 5)]) (rest := []) ⟨hx, hb, hml, hown, hts⟩ (m_X0_step5 l hl9 D cI cJ ad sg20 _  hk.1) (cwV 1 hts (gwV a62 a63 a64 a18 a65) rfl rfl rfl (by decide +kernel) ⟨by decide, by decide⟩) (gc_preV0 hK hP hD hS hA hE rfl rfl rfl) rfl rfl hl.1 rfl (lv_room (Nat.le_of_ble_eq_true rfl)) dX0_tellPatternsFrom_60 ⟨by decide, by decide⟩) hD hS hA (fun v24 sg26 H locs hp27 hP hD hS => ?_)
          obtain ⟨hk1, rfl⟩ := hp27
          have hk := hk.trans hk1
          refine W.eq (g2 := F0 m 63 ls []) rfl ?_
          refine lv_iinc (k := 0) (v := (nI (i + 1))) (lv' := [(2, .int (nI (i + 1))), (0, .ref (ad 0)), (1, .int (nI 5))]) hx hb dX0_tellPatternsFrom_63 hl rfl (nI_1 _) (by decide) rfl (fun ls hl => ?_)
          refine lv_goto (tgt := 29) hx hb dX0_tellPatternsFrom_66 (by decide) ?_
          exact ih _ (by omega) (i + 1) _ _ _ _ rfl (by omega) hk hP hD hS (lv_sub hl [0, 1, 2] rfl)
        · refine lv_goto (tgt := 69) hx hb dX0_tellPatternsFrom_50 (by decide) ?_
          exact c69  _ _ _ _  hk hP hD hS (lv_sub hl [1, 2] rfl)
  have c22 : ∀ (sg : Nat → Nat → Int32) (H : Heap) (locs : List Loc) (ls : Array Slot), KG 8 9 11 sg0 sg → va_P D vwCl (gw cI cJ ad sg SS) H → va_D A (gw cI cJ ad sg SS) → va_S A s.heap H locs → lv_has ls 3 [(0, .ref (ad 0)), (1, .int (nI 5))] → W p l e rmX0_tell5 s m ([.ref (ad 0), .int (nI 5)] : List Value).toArray below meth c H locs 0 0 Q (F0 m 22 ls []) := by
    intro sg H locs ls hk hP hD hS hl
    refine lv_aload_n hx hb dX0_tellPatternsFrom_22 rfl (lv_at hl 0 rfl) ?_
    refine lv_iload_n hx hb dX0_tellPatternsFrom_23 rfl (lv_at hl 1 rfl) ?_
    refine gc_go0 (va_runV (As := [.int (nI 5)]) (rest := []) ⟨hx, hb, hml, hown, hts⟩ (m_X0_step5 l hl9 D cI cJ ad sg _  hk.1) (cwV 1 hts (gwV a62 a63 a64 a18 a65) rfl rfl rfl (by decide +kernel) ⟨by decide, by decide⟩) (gc_preV0 hK hP hD hS hA hE rfl rfl rfl) rfl rfl hl.1 rfl (lv_room (Nat.le_of_ble_eq_true rfl)) dX0_tellPatternsFrom_24 ⟨by decide, by decide⟩) hD hS hA (fun v30 sg32 H locs hp33 hP hD hS => ?_)
    obtain ⟨hk1, rfl⟩ := hp33
    have hk := hk.trans hk1
    refine W.eq (g2 := F0 m 27 ls []) rfl ?_
    refine lv_iconst (v := (nI 1)) hx hb dX0_tellPatternsFrom_27 (by decide) ?_
    refine lv_istore_n (lv' := [(2, .int (nI 1)), (0, .ref (ad 0)), (1, .int (nI 5))]) hx hb dX0_tellPatternsFrom_28 rfl hl (by decide) rfl (fun ls hl => ?_)
    exact c29 _ 1 _ _ _ _ rfl (by omega) hk hP hD hS (lv_sub hl [0, 1, 2] rfl)
  have c17 : ∀ (sg : Nat → Nat → Int32) (H : Heap) (locs : List Loc) (ls : Array Slot), KG 8 9 11 sg0 sg → va_P D vwCl (gw cI cJ ad sg SS) H → va_D A (gw cI cJ ad sg SS) → va_S A s.heap H locs → lv_has ls 3 [(0, .ref (ad 0)), (1, .int (nI 5))] → W p l e rmX0_tell5 s m ([.ref (ad 0), .int (nI 5)] : List Value).toArray below meth c H locs 0 0 Q (F0 m 17 ls []) := by
    intro sg H locs ls hk hP hD hS hl
    refine lv_aload_n hx hb dX0_tellPatternsFrom_17 rfl (lv_at hl 0 rfl) ?_
    refine gc_go0 (va_runV (As := []) (rest := []) ⟨hx, hb, hml, hown, hts⟩ (m_X0_lookAtPlan l hl9 D cI cJ ad sg _  hk.1) (cwV 0 hts (gwV a39 a40 a41 a18 a42) rfl rfl rfl (by decide +kernel) ⟨by decide, by decide⟩) (gc_preV0 hK hP hD hS hA hE rfl rfl rfl) rfl rfl hl.1 rfl (lv_room (Nat.le_of_ble_eq_true rfl)) dX0_tellPatternsFrom_18 ⟨by decide, by decide⟩) hD hS hA (fun v36 sg38 H locs hp39 hP hD hS => ?_)
    obtain ⟨hk1, rfl⟩ := hp39
    have hk := hk.trans hk1
    refine W.eq (g2 := F0 m 21 ls []) rfl ?_
    exact hret _ _ _ _ _ hP hS dX0_tellPatternsFrom_21 (⟨hk, rfl⟩)
  refine lv_iload_n hx hb dX0_tellPatternsFrom_0 rfl (lv_at hl 1 rfl) ?_
  refine lv_aload_n hx hb dX0_tellPatternsFrom_1 rfl (lv_at hl 0 rfl) ?_
  refine gw_getr (C := RX0) (T := TX0) (N := 15) hx hb hts inwX0 hown hK hP 0 0 8 rfl rfl rfl (by decide) (hts _ a6) (fun _ h9 => h9) dX0_tellPatternsFrom_2 ?_
  refine gw_getiN (C := RX1) (T := TX1) (N := 12) hx hb hts inwX1 hown hK hP 8 9 rfl rfl rfl (by decide) (hE.nest _ (.fieldLinkNest RX0 81 RX1 "patterns" "I" RX2) (by decide +kernel) rfl) (fun _ h9 => h9) dX0_tellPatternsFrom_5 ?_
  obtain ⟨N42, hN42, eN42⟩ := hk.1.1
  refine gw_top (y := (nI N42)) (eN42) ?_
  refine lv_icmp_ge (tgt := 17) hx hb dX0_tellPatternsFrom_8 (by decide) (fun hc43 => ?_) (fun hc43 => ?_)
  · have hc43 : N42 ≤ 5 := (nI_leI (a := N42) (b := 5) (by omega) (by omega)).mp hc43
    exact c17  _ _ _ _  hk hP hD hS (lv_sub hl [0, 1] rfl)
  · have hc43 : ¬ (N42 ≤ 5) := fun q => hc43 ((nI_leI (a := N42) (b := 5) (by omega) (by omega)).mpr q)
    refine lv_iload_n hx hb dX0_tellPatternsFrom_11 rfl (lv_at hl 1 rfl) ?_
    refine lv_bipush (v := (nI 6)) hx hb dX0_tellPatternsFrom_12 (by decide) ?_
    refine lv_icmp_lt (tgt := 22) hx hb dX0_tellPatternsFrom_14 (by decide) (fun hc44 => ?_) (fun hc44 => ?_)
    · exact c22  _ _ _ _  hk hP hD hS (lv_sub hl [0, 1] rfl)
    · exact absurd hc44 (by decide)
abbrev rmX0_step4 : Room := { frames := 6, cells := 0, slots := 0, locals := 129 }
set_option maxRecDepth 100000 in
set_option maxHeartbeats 4000000 in
theorem m_X0_step4 (l : Launch) (hl9 : l.stackTraces = false) (D : va_G) (cI : ClassId) (cJ : ClassId × ClassId) (ad : Nat → Nat) (sg0 : Nat → Nat → Int32) (sz : Nat) (hI : IvG 8 9 11 sg0) : gc_M l yX0_takeStep wsX0_takeStep rmX0_step4 D vwCl (tyS cI cJ) cI cJ gxT gxN SS [.ref (ad 0), .int (nI 4)] ad sg0 sz 0 0 (fun v sg2 => KG 8 9 11 sg0 sg2 ∧ v = none) := by
  refine gc_Mv_of (cc := cX0_takeStep) (maxL := 2) (by decide) rfl (Nat.le_of_ble_eq_true rfl) ?_
  intro p e s m below meth c A ls Q hin hE hret
  obtain ⟨⟨hx, hb, hml, hown, hts⟩, -, hlocks, -, hA, hP, hK, hD, hS, hl⟩ := hin
  have hts : ∀ w ∈ wsAll, w.before ([.ref (ad 0), .int (nI 4)] : List Value).toArray s = true := fun w h => hts w (List.mem_cons_of_mem _ h)
  have hl : lv_has ls 2 [(0, .ref (ad 0)), (1, .int (nI 4))] := hl
  have hk := KG.refl hI
  refine lv_aload_n hx hb dX0_takeStep_0 rfl (lv_at hl 0 rfl) ?_
  refine gw_geti (C := RX0) (T := TX0) (N := 15) hx hb hts inwX0 hown hK hP 0 10 rfl rfl rfl (by decide) (hts _ a43) (fun _ h9 => h9) dX0_takeStep_1 ?_
  refine lv_topi (fun v1 hv1 => ?_)
  refine lv_aload_n hx hb dX0_takeStep_4 rfl (lv_at hl 0 rfl) ?_
  refine gw_geti (C := RX0) (T := TX0) (N := 15) hx hb hts inwX0 hown hK hP 0 9 rfl rfl rfl (by decide) (hts _ a44) (fun _ h9 => h9) dX0_takeStep_5 ?_
  refine lv_topi (fun v2 hv2 => ?_)
  refine lv_icmp_lt (tgt := 17) hx hb dX0_takeStep_8 (by decide) (fun hc3 => ?_) (fun hc3 => ?_)
  · refine lv_aload_n hx hb dX0_takeStep_17 rfl (lv_at hl 0 rfl) ?_
    refine lv_dup hx hb dX0_takeStep_18 rfl ?_
    refine gw_geti (C := RX0) (T := TX0) (N := 15) hx hb hts inwX0 hown hK hP 0 10 rfl rfl rfl (by decide) (hts _ a43) (fun _ h9 => h9) dX0_takeStep_19 ?_
    refine lv_topi (fun v4 hv4 => ?_)
    refine lv_iconst (v := (nI 1)) hx hb dX0_takeStep_22 (by decide) ?_
    refine lv_iadd hx hb dX0_takeStep_23 ?_
    refine lv_topi (fun v5 hv5 => ?_)
    refine gw_put (C := RX0) (T := TX0) (N := 15) (ty := .int) hx hb hts inwX0 tyX0 tyX0_ok nmX0 hown hK hP hD hS 0 10 rfl rfl rfl (by decide) (hts _ a43) (fun _ h9 => h9) rfl (by decide +kernel) rfl rfl dX0_takeStep_24 (fun H locs hP hD hS => ?_)
    obtain ⟨sg6, esg6⟩ : ∃ z : Nat → Nat → Int32, z = gw_u sg0 0 (upd (sg0 0) 10 v5) := ⟨_, rfl⟩
    rw [← esg6] at hP hD
    have hk : KG 8 9 11 sg0 sg6 := by rw [esg6]; exact hk.wa 0 (by omega) (by omega) _
    refine lv_aload_n hx hb dX0_takeStep_27 rfl (lv_at hl 0 rfl) ?_
    refine lv_iload_n hx hb dX0_takeStep_28 rfl (lv_at hl 1 rfl) ?_
    refine lv_iconst (v := (nI 1)) hx hb dX0_takeStep_29 (by decide) ?_
    refine lv_iadd hx hb dX0_takeStep_30 ?_
    refine gw_top (y := (nI 5)) (by decide) ?_
    refine gc_go0 (va_runV (As := [.int (nI 5)]) (rest := []) ⟨hx, hb, hml, hown, hts⟩ (m_X0_tell5 l hl9 D cI cJ ad sg6 _  hk.1) (cwV 1 hts (gwV a45 a46 a47 a18 a48) rfl rfl rfl (by decide +kernel) ⟨by decide, by decide⟩) (gc_preV0 hK hP hD hS hA hE rfl rfl rfl) rfl rfl hl.1 rfl (lv_room (Nat.le_of_ble_eq_true rfl)) dX0_takeStep_31 ⟨by decide, by decide⟩) hD hS hA (fun v7 sg9 H locs hp10 hP hD hS => ?_)
    obtain ⟨hk1, rfl⟩ := hp10
    have hk := hk.trans hk1
    refine W.eq (g2 := F0 m 34 ls []) rfl ?_
    exact hret _ _ _ _ _ hP hS dX0_takeStep_34 (⟨hk, rfl⟩)
  · refine lv_aload_n hx hb dX0_takeStep_11 rfl (lv_at hl 0 rfl) ?_
    refine lv_iconst (v := (nI 1)) hx hb dX0_takeStep_12 (by decide) ?_
    refine gw_put (C := RX0) (T := TX0) (N := 15) (ty := .boolean) hx hb hts inwX0 tyX0 tyX0_ok nmX0 hown hK hP hD hS 0 11 rfl rfl rfl (by decide) (hts _ a49) (fun _ h9 => h9) rfl (by decide +kernel) rfl rfl dX0_takeStep_13 (fun H locs hP hD hS => ?_)
    obtain ⟨sg13, esg13⟩ : ∃ z : Nat → Nat → Int32, z = gw_u sg0 0 (upd (sg0 0) 11 (nI 1)) := ⟨_, rfl⟩
    rw [← esg13] at hP hD
    have hk : KG 8 9 11 sg0 sg13 := by rw [esg13]; exact hk.wa 0 (by omega) (by omega) _
    exact hret _ _ _ _ _ hP hS dX0_takeStep_16 (⟨hk, rfl⟩)
abbrev rmX0_tell4 : Room := { frames := 7, cells := 0, slots := 0, locals := 150 }
set_option maxRecDepth 100000 in
set_option maxHeartbeats 4000000 in
theorem m_X0_tell4 (l : Launch) (hl9 : l.stackTraces = false) (D : va_G) (cI : ClassId) (cJ : ClassId × ClassId) (ad : Nat → Nat) (sg0 : Nat → Nat → Int32) (sz : Nat) (hI : IvG 8 9 11 sg0) : gc_M l yX0_tellPatternsFrom wsX0_tellPatternsFrom rmX0_tell4 D vwCl (tyS cI cJ) cI cJ gxT gxN SS [.ref (ad 0), .int (nI 4)] ad sg0 sz 0 0 (fun v sg2 => KG 8 9 11 sg0 sg2 ∧ v = none) := by
  refine gc_Mv_of (cc := cX0_tellPatternsFrom) (maxL := 3) (by decide) rfl (Nat.le_of_ble_eq_true rfl) ?_
  intro p e s m below meth c A ls Q hin hE hret
  obtain ⟨⟨hx, hb, hml, hown, hts⟩, -, hlocks, -, hA, hP, hK, hD, hS, hl⟩ := hin
  have hts : ∀ w ∈ wsAll, w.before ([.ref (ad 0), .int (nI 4)] : List Value).toArray s = true := fun w h => hts w (List.mem_cons_of_mem _ h)
  have hl : lv_has ls 3 [(0, .ref (ad 0)), (1, .int (nI 4))] := hl
  have hk := KG.refl hI
  have c69 : ∀ (sg : Nat → Nat → Int32) (H : Heap) (locs : List Loc) (ls : Array Slot), KG 8 9 11 sg0 sg → va_P D vwCl (gw cI cJ ad sg SS) H → va_D A (gw cI cJ ad sg SS) → va_S A s.heap H locs → lv_has ls 3 [(0, .ref (ad 0)), (1, .int (nI 4))] → W p l e rmX0_tell4 s m ([.ref (ad 0), .int (nI 4)] : List Value).toArray below meth c H locs 0 0 Q (F0 m 69 ls []) := by
    intro sg H locs ls hk hP hD hS hl
    refine lv_aload_n hx hb dX0_tellPatternsFrom_69 rfl (lv_at hl 0 rfl) ?_
    refine lv_iload_n hx hb dX0_tellPatternsFrom_70 rfl (lv_at hl 1 rfl) ?_
    refine gc_go0 (va_runV (As := [.int (nI 4)]) (rest := []) ⟨hx, hb, hml, hown, hts⟩ (m_X0_takeLogsBack l hl9 D cI cJ ad sg _ 4 (by omega) hk.1) (cwV 1 hts (gwV a50 a51 a52 a18 a53) rfl rfl rfl (by decide +kernel) ⟨by decide, by decide⟩) (gc_preV0 hK hP hD hS hA hE rfl rfl rfl) rfl rfl hl.1 rfl (lv_room (Nat.le_of_ble_eq_true rfl)) dX0_tellPatternsFrom_71 ⟨by decide, by decide⟩) hD hS hA (fun v1 sg3 H locs hp4 hP hD hS => ?_)
    obtain ⟨hk1, rfl⟩ := hp4
    have hk := hk.trans hk1
    refine W.eq (g2 := F0 m 74 ls []) rfl ?_
    exact hret _ _ _ _ _ hP hS dX0_tellPatternsFrom_74 (⟨hk, rfl⟩)
  have c29 : ∀ (n9 : Nat) (i : Nat) (sg : Nat → Nat → Int32) (H : Heap) (locs : List Loc) (ls : Array Slot), 13 - i = n9 → i ≤ 13 → KG 8 9 11 sg0 sg → va_P D vwCl (gw cI cJ ad sg SS) H → va_D A (gw cI cJ ad sg SS) → va_S A s.heap H locs → lv_has ls 3 [(2, .int (nI i)), (0, .ref (ad 0)), (1, .int (nI 4))] → W p l e rmX0_tell4 s m ([.ref (ad 0), .int (nI 4)] : List Value).toArray below meth c H locs 0 0 Q (F0 m 29 ls []) := by
    intro n9
    induction n9 using Nat.strongRecOn with
    | ind n9 ih =>
    intro i sg H locs ls hn h1 hk hP hD hS hl
    subst hn
    refine lv_iload_n hx hb dX0_tellPatternsFrom_29 rfl (lv_at hl 0 rfl) ?_
    refine lv_bipush (v := (nI 12)) hx hb dX0_tellPatternsFrom_30 (by decide) ?_
    refine lv_icmp_gt (tgt := 69) hx hb dX0_tellPatternsFrom_32 (by decide) (fun hc7 => ?_) (fun hc7 => ?_)
    · have hc7 : 12 < i := (nI_ltI (a := 12) (b := i) (by omega) (by omega)).mp hc7
      exact c69  _ _ _ _  hk hP hD hS (lv_sub hl [1, 2] rfl)
    · have hc7 : ¬ (12 < i) := fun q => hc7 ((nI_ltI (a := 12) (b := i) (by omega) (by omega)).mpr q)
      refine lv_aload_n hx hb dX0_tellPatternsFrom_35 rfl (lv_at hl 1 rfl) ?_
      refine gw_geti (C := RX0) (T := TX0) (N := 15) hx hb hts inwX0 hown hK hP 0 11 rfl rfl rfl (by decide) (hts _ a49) (fun _ h9 => h9) dX0_tellPatternsFrom_36 ?_
      refine lv_topi (fun v8 hv8 => ?_)
      refine lv_if_ne (tgt := 69) hx hb dX0_tellPatternsFrom_39 (by decide) (fun hc9 => ?_) (fun hc9 => ?_)
      · exact c69  _ _ _ _  hk hP hD hS (lv_sub hl [1, 2] rfl)
      · refine lv_aload_n hx hb dX0_tellPatternsFrom_42 rfl (lv_at hl 1 rfl) ?_
        refine lv_iload_n hx hb dX0_tellPatternsFrom_43 rfl (lv_at hl 2 rfl) ?_
        refine gc_go0 (va_runV (As := [.int (nI 4)]) (rest := []) ⟨hx, hb, hml, hown, hts⟩ (m_X0_oneLogMoreFits l hl9 D cI cJ ad sg _ 4 (by omega) hk.1) (cwV 1 hts (gwV a54 a55 a56 a18 a57) rfl rfl rfl (by decide +kernel) ⟨by decide, by decide⟩) (gc_preV0 hK hP hD hS hA hE rfl rfl rfl) rfl rfl hl.1 rfl (lv_room (Nat.le_of_ble_eq_true rfl)) dX0_tellPatternsFrom_44 ⟨by decide, by decide⟩) hD hS hA (fun v10 sg12 H locs hp13 hP hD hS => ?_)
        obtain ⟨hk1, r16, rfl⟩ := hp13
        have hk := hk.trans hk1
        refine W.eq (g2 := F0 m 47 ls [.int r16]) rfl ?_
        refine lv_if_ne (tgt := 53) hx hb dX0_tellPatternsFrom_47 (by decide) (fun hc17 => ?_) (fun hc17 => ?_)
        · refine lv_aload_n hx hb dX0_tellPatternsFrom_53 rfl (lv_at hl 1 rfl) ?_
          refine lv_iload_n hx hb dX0_tellPatternsFrom_54 rfl (lv_at hl 2 rfl) ?_
          refine gc_go0 (va_runV (As := [.int (nI 4)]) (rest := []) ⟨hx, hb, hml, hown, hts⟩ (m_X0_addLog l hl9 D cI cJ ad sg12 _ 4 (by omega) hk.1) (cwV 1 hts (gwV a58 a59 a60 a18 a61) rfl rfl rfl (by decide +kernel) ⟨by decide, by decide⟩) (gc_preV0 hK hP hD hS hA hE rfl rfl rfl) rfl rfl hl.1 rfl (lv_room (Nat.le_of_ble_eq_true rfl)) dX0_tellPatternsFrom_55 ⟨by decide, by decide⟩) hD hS hA (fun v18 sg20 H locs hp21 hP hD hS => ?_)
          obtain ⟨hk1, rfl⟩ := hp21
          have hk := hk.trans hk1
          refine W.eq (g2 := F0 m 58 ls []) rfl ?_
          refine lv_aload_n hx hb dX0_tellPatternsFrom_58 rfl (lv_at hl 1 rfl) ?_
          refine lv_iload_n hx hb dX0_tellPatternsFrom_59 rfl (lv_at hl 2 rfl) ?_
          refine gc_go0 (va_runV (As := [.int (nI 4)]) (rest := []) ⟨hx, hb, hml, hown, hts⟩ (m_X0_step4 l hl9 D cI cJ ad sg20 _  hk.1) (cwV 1 hts (gwV a62 a63 a64 a18 a65) rfl rfl rfl (by decide +kernel) ⟨by decide, by decide⟩) (gc_preV0 hK hP hD hS hA hE rfl rfl rfl) rfl rfl hl.1 rfl (lv_room (Nat.le_of_ble_eq_true rfl)) dX0_tellPatternsFrom_60 ⟨by decide, by decide⟩) hD hS hA (fun v24 sg26 H locs hp27 hP hD hS => ?_)
          obtain ⟨hk1, rfl⟩ := hp27
          have hk := hk.trans hk1
          refine W.eq (g2 := F0 m 63 ls []) rfl ?_
          refine lv_iinc (k := 0) (v := (nI (i + 1))) (lv' := [(2, .int (nI (i + 1))), (0, .ref (ad 0)), (1, .int (nI 4))]) hx hb dX0_tellPatternsFrom_63 hl rfl (nI_1 _) (by decide) rfl (fun ls hl => ?_)
          refine lv_goto (tgt := 29) hx hb dX0_tellPatternsFrom_66 (by decide) ?_
          exact ih _ (by omega) (i + 1) _ _ _ _ rfl (by omega) hk hP hD hS (lv_sub hl [0, 1, 2] rfl)
        · refine lv_goto (tgt := 69) hx hb dX0_tellPatternsFrom_50 (by decide) ?_
          exact c69  _ _ _ _  hk hP hD hS (lv_sub hl [1, 2] rfl)
  have c22 : ∀ (sg : Nat → Nat → Int32) (H : Heap) (locs : List Loc) (ls : Array Slot), KG 8 9 11 sg0 sg → va_P D vwCl (gw cI cJ ad sg SS) H → va_D A (gw cI cJ ad sg SS) → va_S A s.heap H locs → lv_has ls 3 [(0, .ref (ad 0)), (1, .int (nI 4))] → W p l e rmX0_tell4 s m ([.ref (ad 0), .int (nI 4)] : List Value).toArray below meth c H locs 0 0 Q (F0 m 22 ls []) := by
    intro sg H locs ls hk hP hD hS hl
    refine lv_aload_n hx hb dX0_tellPatternsFrom_22 rfl (lv_at hl 0 rfl) ?_
    refine lv_iload_n hx hb dX0_tellPatternsFrom_23 rfl (lv_at hl 1 rfl) ?_
    refine gc_go0 (va_runV (As := [.int (nI 4)]) (rest := []) ⟨hx, hb, hml, hown, hts⟩ (m_X0_step4 l hl9 D cI cJ ad sg _  hk.1) (cwV 1 hts (gwV a62 a63 a64 a18 a65) rfl rfl rfl (by decide +kernel) ⟨by decide, by decide⟩) (gc_preV0 hK hP hD hS hA hE rfl rfl rfl) rfl rfl hl.1 rfl (lv_room (Nat.le_of_ble_eq_true rfl)) dX0_tellPatternsFrom_24 ⟨by decide, by decide⟩) hD hS hA (fun v30 sg32 H locs hp33 hP hD hS => ?_)
    obtain ⟨hk1, rfl⟩ := hp33
    have hk := hk.trans hk1
    refine W.eq (g2 := F0 m 27 ls []) rfl ?_
    refine lv_iconst (v := (nI 1)) hx hb dX0_tellPatternsFrom_27 (by decide) ?_
    refine lv_istore_n (lv' := [(2, .int (nI 1)), (0, .ref (ad 0)), (1, .int (nI 4))]) hx hb dX0_tellPatternsFrom_28 rfl hl (by decide) rfl (fun ls hl => ?_)
    exact c29 _ 1 _ _ _ _ rfl (by omega) hk hP hD hS (lv_sub hl [0, 1, 2] rfl)
  have c17 : ∀ (sg : Nat → Nat → Int32) (H : Heap) (locs : List Loc) (ls : Array Slot), KG 8 9 11 sg0 sg → va_P D vwCl (gw cI cJ ad sg SS) H → va_D A (gw cI cJ ad sg SS) → va_S A s.heap H locs → lv_has ls 3 [(0, .ref (ad 0)), (1, .int (nI 4))] → W p l e rmX0_tell4 s m ([.ref (ad 0), .int (nI 4)] : List Value).toArray below meth c H locs 0 0 Q (F0 m 17 ls []) := by
    intro sg H locs ls hk hP hD hS hl
    refine lv_aload_n hx hb dX0_tellPatternsFrom_17 rfl (lv_at hl 0 rfl) ?_
    refine gc_go0 (va_runV (As := []) (rest := []) ⟨hx, hb, hml, hown, hts⟩ (m_X0_lookAtPlan l hl9 D cI cJ ad sg _  hk.1) (cwV 0 hts (gwV a39 a40 a41 a18 a42) rfl rfl rfl (by decide +kernel) ⟨by decide, by decide⟩) (gc_preV0 hK hP hD hS hA hE rfl rfl rfl) rfl rfl hl.1 rfl (lv_room (Nat.le_of_ble_eq_true rfl)) dX0_tellPatternsFrom_18 ⟨by decide, by decide⟩) hD hS hA (fun v36 sg38 H locs hp39 hP hD hS => ?_)
    obtain ⟨hk1, rfl⟩ := hp39
    have hk := hk.trans hk1
    refine W.eq (g2 := F0 m 21 ls []) rfl ?_
    exact hret _ _ _ _ _ hP hS dX0_tellPatternsFrom_21 (⟨hk, rfl⟩)
  refine lv_iload_n hx hb dX0_tellPatternsFrom_0 rfl (lv_at hl 1 rfl) ?_
  refine lv_aload_n hx hb dX0_tellPatternsFrom_1 rfl (lv_at hl 0 rfl) ?_
  refine gw_getr (C := RX0) (T := TX0) (N := 15) hx hb hts inwX0 hown hK hP 0 0 8 rfl rfl rfl (by decide) (hts _ a6) (fun _ h9 => h9) dX0_tellPatternsFrom_2 ?_
  refine gw_getiN (C := RX1) (T := TX1) (N := 12) hx hb hts inwX1 hown hK hP 8 9 rfl rfl rfl (by decide) (hE.nest _ (.fieldLinkNest RX0 81 RX1 "patterns" "I" RX2) (by decide +kernel) rfl) (fun _ h9 => h9) dX0_tellPatternsFrom_5 ?_
  obtain ⟨N42, hN42, eN42⟩ := hk.1.1
  refine gw_top (y := (nI N42)) (eN42) ?_
  refine lv_icmp_ge (tgt := 17) hx hb dX0_tellPatternsFrom_8 (by decide) (fun hc43 => ?_) (fun hc43 => ?_)
  · have hc43 : N42 ≤ 4 := (nI_leI (a := N42) (b := 4) (by omega) (by omega)).mp hc43
    exact c17  _ _ _ _  hk hP hD hS (lv_sub hl [0, 1] rfl)
  · have hc43 : ¬ (N42 ≤ 4) := fun q => hc43 ((nI_leI (a := N42) (b := 4) (by omega) (by omega)).mpr q)
    refine lv_iload_n hx hb dX0_tellPatternsFrom_11 rfl (lv_at hl 1 rfl) ?_
    refine lv_bipush (v := (nI 6)) hx hb dX0_tellPatternsFrom_12 (by decide) ?_
    refine lv_icmp_lt (tgt := 22) hx hb dX0_tellPatternsFrom_14 (by decide) (fun hc44 => ?_) (fun hc44 => ?_)
    · exact c22  _ _ _ _  hk hP hD hS (lv_sub hl [0, 1] rfl)
    · exact absurd hc44 (by decide)
abbrev rmX0_step3 : Room := { frames := 8, cells := 0, slots := 0, locals := 172 }
set_option maxRecDepth 100000 in
set_option maxHeartbeats 4000000 in
theorem m_X0_step3 (l : Launch) (hl9 : l.stackTraces = false) (D : va_G) (cI : ClassId) (cJ : ClassId × ClassId) (ad : Nat → Nat) (sg0 : Nat → Nat → Int32) (sz : Nat) (hI : IvG 8 9 11 sg0) : gc_M l yX0_takeStep wsX0_takeStep rmX0_step3 D vwCl (tyS cI cJ) cI cJ gxT gxN SS [.ref (ad 0), .int (nI 3)] ad sg0 sz 0 0 (fun v sg2 => KG 8 9 11 sg0 sg2 ∧ v = none) := by
  refine gc_Mv_of (cc := cX0_takeStep) (maxL := 2) (by decide) rfl (Nat.le_of_ble_eq_true rfl) ?_
  intro p e s m below meth c A ls Q hin hE hret
  obtain ⟨⟨hx, hb, hml, hown, hts⟩, -, hlocks, -, hA, hP, hK, hD, hS, hl⟩ := hin
  have hts : ∀ w ∈ wsAll, w.before ([.ref (ad 0), .int (nI 3)] : List Value).toArray s = true := fun w h => hts w (List.mem_cons_of_mem _ h)
  have hl : lv_has ls 2 [(0, .ref (ad 0)), (1, .int (nI 3))] := hl
  have hk := KG.refl hI
  refine lv_aload_n hx hb dX0_takeStep_0 rfl (lv_at hl 0 rfl) ?_
  refine gw_geti (C := RX0) (T := TX0) (N := 15) hx hb hts inwX0 hown hK hP 0 10 rfl rfl rfl (by decide) (hts _ a43) (fun _ h9 => h9) dX0_takeStep_1 ?_
  refine lv_topi (fun v1 hv1 => ?_)
  refine lv_aload_n hx hb dX0_takeStep_4 rfl (lv_at hl 0 rfl) ?_
  refine gw_geti (C := RX0) (T := TX0) (N := 15) hx hb hts inwX0 hown hK hP 0 9 rfl rfl rfl (by decide) (hts _ a44) (fun _ h9 => h9) dX0_takeStep_5 ?_
  refine lv_topi (fun v2 hv2 => ?_)
  refine lv_icmp_lt (tgt := 17) hx hb dX0_takeStep_8 (by decide) (fun hc3 => ?_) (fun hc3 => ?_)
  · refine lv_aload_n hx hb dX0_takeStep_17 rfl (lv_at hl 0 rfl) ?_
    refine lv_dup hx hb dX0_takeStep_18 rfl ?_
    refine gw_geti (C := RX0) (T := TX0) (N := 15) hx hb hts inwX0 hown hK hP 0 10 rfl rfl rfl (by decide) (hts _ a43) (fun _ h9 => h9) dX0_takeStep_19 ?_
    refine lv_topi (fun v4 hv4 => ?_)
    refine lv_iconst (v := (nI 1)) hx hb dX0_takeStep_22 (by decide) ?_
    refine lv_iadd hx hb dX0_takeStep_23 ?_
    refine lv_topi (fun v5 hv5 => ?_)
    refine gw_put (C := RX0) (T := TX0) (N := 15) (ty := .int) hx hb hts inwX0 tyX0 tyX0_ok nmX0 hown hK hP hD hS 0 10 rfl rfl rfl (by decide) (hts _ a43) (fun _ h9 => h9) rfl (by decide +kernel) rfl rfl dX0_takeStep_24 (fun H locs hP hD hS => ?_)
    obtain ⟨sg6, esg6⟩ : ∃ z : Nat → Nat → Int32, z = gw_u sg0 0 (upd (sg0 0) 10 v5) := ⟨_, rfl⟩
    rw [← esg6] at hP hD
    have hk : KG 8 9 11 sg0 sg6 := by rw [esg6]; exact hk.wa 0 (by omega) (by omega) _
    refine lv_aload_n hx hb dX0_takeStep_27 rfl (lv_at hl 0 rfl) ?_
    refine lv_iload_n hx hb dX0_takeStep_28 rfl (lv_at hl 1 rfl) ?_
    refine lv_iconst (v := (nI 1)) hx hb dX0_takeStep_29 (by decide) ?_
    refine lv_iadd hx hb dX0_takeStep_30 ?_
    refine gw_top (y := (nI 4)) (by decide) ?_
    refine gc_go0 (va_runV (As := [.int (nI 4)]) (rest := []) ⟨hx, hb, hml, hown, hts⟩ (m_X0_tell4 l hl9 D cI cJ ad sg6 _  hk.1) (cwV 1 hts (gwV a45 a46 a47 a18 a48) rfl rfl rfl (by decide +kernel) ⟨by decide, by decide⟩) (gc_preV0 hK hP hD hS hA hE rfl rfl rfl) rfl rfl hl.1 rfl (lv_room (Nat.le_of_ble_eq_true rfl)) dX0_takeStep_31 ⟨by decide, by decide⟩) hD hS hA (fun v7 sg9 H locs hp10 hP hD hS => ?_)
    obtain ⟨hk1, rfl⟩ := hp10
    have hk := hk.trans hk1
    refine W.eq (g2 := F0 m 34 ls []) rfl ?_
    exact hret _ _ _ _ _ hP hS dX0_takeStep_34 (⟨hk, rfl⟩)
  · refine lv_aload_n hx hb dX0_takeStep_11 rfl (lv_at hl 0 rfl) ?_
    refine lv_iconst (v := (nI 1)) hx hb dX0_takeStep_12 (by decide) ?_
    refine gw_put (C := RX0) (T := TX0) (N := 15) (ty := .boolean) hx hb hts inwX0 tyX0 tyX0_ok nmX0 hown hK hP hD hS 0 11 rfl rfl rfl (by decide) (hts _ a49) (fun _ h9 => h9) rfl (by decide +kernel) rfl rfl dX0_takeStep_13 (fun H locs hP hD hS => ?_)
    obtain ⟨sg13, esg13⟩ : ∃ z : Nat → Nat → Int32, z = gw_u sg0 0 (upd (sg0 0) 11 (nI 1)) := ⟨_, rfl⟩
    rw [← esg13] at hP hD
    have hk : KG 8 9 11 sg0 sg13 := by rw [esg13]; exact hk.wa 0 (by omega) (by omega) _
    exact hret _ _ _ _ _ hP hS dX0_takeStep_16 (⟨hk, rfl⟩)
abbrev rmX0_tell3 : Room := { frames := 9, cells := 0, slots := 0, locals := 193 }
set_option maxRecDepth 100000 in
set_option maxHeartbeats 4000000 in
theorem m_X0_tell3 (l : Launch) (hl9 : l.stackTraces = false) (D : va_G) (cI : ClassId) (cJ : ClassId × ClassId) (ad : Nat → Nat) (sg0 : Nat → Nat → Int32) (sz : Nat) (hI : IvG 8 9 11 sg0) : gc_M l yX0_tellPatternsFrom wsX0_tellPatternsFrom rmX0_tell3 D vwCl (tyS cI cJ) cI cJ gxT gxN SS [.ref (ad 0), .int (nI 3)] ad sg0 sz 0 0 (fun v sg2 => KG 8 9 11 sg0 sg2 ∧ v = none) := by
  refine gc_Mv_of (cc := cX0_tellPatternsFrom) (maxL := 3) (by decide) rfl (Nat.le_of_ble_eq_true rfl) ?_
  intro p e s m below meth c A ls Q hin hE hret
  obtain ⟨⟨hx, hb, hml, hown, hts⟩, -, hlocks, -, hA, hP, hK, hD, hS, hl⟩ := hin
  have hts : ∀ w ∈ wsAll, w.before ([.ref (ad 0), .int (nI 3)] : List Value).toArray s = true := fun w h => hts w (List.mem_cons_of_mem _ h)
  have hl : lv_has ls 3 [(0, .ref (ad 0)), (1, .int (nI 3))] := hl
  have hk := KG.refl hI
  have c69 : ∀ (sg : Nat → Nat → Int32) (H : Heap) (locs : List Loc) (ls : Array Slot), KG 8 9 11 sg0 sg → va_P D vwCl (gw cI cJ ad sg SS) H → va_D A (gw cI cJ ad sg SS) → va_S A s.heap H locs → lv_has ls 3 [(0, .ref (ad 0)), (1, .int (nI 3))] → W p l e rmX0_tell3 s m ([.ref (ad 0), .int (nI 3)] : List Value).toArray below meth c H locs 0 0 Q (F0 m 69 ls []) := by
    intro sg H locs ls hk hP hD hS hl
    refine lv_aload_n hx hb dX0_tellPatternsFrom_69 rfl (lv_at hl 0 rfl) ?_
    refine lv_iload_n hx hb dX0_tellPatternsFrom_70 rfl (lv_at hl 1 rfl) ?_
    refine gc_go0 (va_runV (As := [.int (nI 3)]) (rest := []) ⟨hx, hb, hml, hown, hts⟩ (m_X0_takeLogsBack l hl9 D cI cJ ad sg _ 3 (by omega) hk.1) (cwV 1 hts (gwV a50 a51 a52 a18 a53) rfl rfl rfl (by decide +kernel) ⟨by decide, by decide⟩) (gc_preV0 hK hP hD hS hA hE rfl rfl rfl) rfl rfl hl.1 rfl (lv_room (Nat.le_of_ble_eq_true rfl)) dX0_tellPatternsFrom_71 ⟨by decide, by decide⟩) hD hS hA (fun v1 sg3 H locs hp4 hP hD hS => ?_)
    obtain ⟨hk1, rfl⟩ := hp4
    have hk := hk.trans hk1
    refine W.eq (g2 := F0 m 74 ls []) rfl ?_
    exact hret _ _ _ _ _ hP hS dX0_tellPatternsFrom_74 (⟨hk, rfl⟩)
  have c29 : ∀ (n9 : Nat) (i : Nat) (sg : Nat → Nat → Int32) (H : Heap) (locs : List Loc) (ls : Array Slot), 13 - i = n9 → i ≤ 13 → KG 8 9 11 sg0 sg → va_P D vwCl (gw cI cJ ad sg SS) H → va_D A (gw cI cJ ad sg SS) → va_S A s.heap H locs → lv_has ls 3 [(2, .int (nI i)), (0, .ref (ad 0)), (1, .int (nI 3))] → W p l e rmX0_tell3 s m ([.ref (ad 0), .int (nI 3)] : List Value).toArray below meth c H locs 0 0 Q (F0 m 29 ls []) := by
    intro n9
    induction n9 using Nat.strongRecOn with
    | ind n9 ih =>
    intro i sg H locs ls hn h1 hk hP hD hS hl
    subst hn
    refine lv_iload_n hx hb dX0_tellPatternsFrom_29 rfl (lv_at hl 0 rfl) ?_
    refine lv_bipush (v := (nI 12)) hx hb dX0_tellPatternsFrom_30 (by decide) ?_
    refine lv_icmp_gt (tgt := 69) hx hb dX0_tellPatternsFrom_32 (by decide) (fun hc7 => ?_) (fun hc7 => ?_)
    · have hc7 : 12 < i := (nI_ltI (a := 12) (b := i) (by omega) (by omega)).mp hc7
      exact c69  _ _ _ _  hk hP hD hS (lv_sub hl [1, 2] rfl)
    · have hc7 : ¬ (12 < i) := fun q => hc7 ((nI_ltI (a := 12) (b := i) (by omega) (by omega)).mpr q)
      refine lv_aload_n hx hb dX0_tellPatternsFrom_35 rfl (lv_at hl 1 rfl) ?_
      refine gw_geti (C := RX0) (T := TX0) (N := 15) hx hb hts inwX0 hown hK hP 0 11 rfl rfl rfl (by decide) (hts _ a49) (fun _ h9 => h9) dX0_tellPatternsFrom_36 ?_
      refine lv_topi (fun v8 hv8 => ?_)
      refine lv_if_ne (tgt := 69) hx hb dX0_tellPatternsFrom_39 (by decide) (fun hc9 => ?_) (fun hc9 => ?_)
      · exact c69  _ _ _ _  hk hP hD hS (lv_sub hl [1, 2] rfl)
      · refine lv_aload_n hx hb dX0_tellPatternsFrom_42 rfl (lv_at hl 1 rfl) ?_
        refine lv_iload_n hx hb dX0_tellPatternsFrom_43 rfl (lv_at hl 2 rfl) ?_
        refine gc_go0 (va_runV (As := [.int (nI 3)]) (rest := []) ⟨hx, hb, hml, hown, hts⟩ (m_X0_oneLogMoreFits l hl9 D cI cJ ad sg _ 3 (by omega) hk.1) (cwV 1 hts (gwV a54 a55 a56 a18 a57) rfl rfl rfl (by decide +kernel) ⟨by decide, by decide⟩) (gc_preV0 hK hP hD hS hA hE rfl rfl rfl) rfl rfl hl.1 rfl (lv_room (Nat.le_of_ble_eq_true rfl)) dX0_tellPatternsFrom_44 ⟨by decide, by decide⟩) hD hS hA (fun v10 sg12 H locs hp13 hP hD hS => ?_)
        obtain ⟨hk1, r16, rfl⟩ := hp13
        have hk := hk.trans hk1
        refine W.eq (g2 := F0 m 47 ls [.int r16]) rfl ?_
        refine lv_if_ne (tgt := 53) hx hb dX0_tellPatternsFrom_47 (by decide) (fun hc17 => ?_) (fun hc17 => ?_)
        · refine lv_aload_n hx hb dX0_tellPatternsFrom_53 rfl (lv_at hl 1 rfl) ?_
          refine lv_iload_n hx hb dX0_tellPatternsFrom_54 rfl (lv_at hl 2 rfl) ?_
          refine gc_go0 (va_runV (As := [.int (nI 3)]) (rest := []) ⟨hx, hb, hml, hown, hts⟩ (m_X0_addLog l hl9 D cI cJ ad sg12 _ 3 (by omega) hk.1) (cwV 1 hts (gwV a58 a59 a60 a18 a61) rfl rfl rfl (by decide +kernel) ⟨by decide, by decide⟩) (gc_preV0 hK hP hD hS hA hE rfl rfl rfl) rfl rfl hl.1 rfl (lv_room (Nat.le_of_ble_eq_true rfl)) dX0_tellPatternsFrom_55 ⟨by decide, by decide⟩) hD hS hA (fun v18 sg20 H locs hp21 hP hD hS => ?_)
          obtain ⟨hk1, rfl⟩ := hp21
          have hk := hk.trans hk1
          refine W.eq (g2 := F0 m 58 ls []) rfl ?_
          refine lv_aload_n hx hb dX0_tellPatternsFrom_58 rfl (lv_at hl 1 rfl) ?_
          refine lv_iload_n hx hb dX0_tellPatternsFrom_59 rfl (lv_at hl 2 rfl) ?_
          refine gc_go0 (va_runV (As := [.int (nI 3)]) (rest := []) ⟨hx, hb, hml, hown, hts⟩ (m_X0_step3 l hl9 D cI cJ ad sg20 _  hk.1) (cwV 1 hts (gwV a62 a63 a64 a18 a65) rfl rfl rfl (by decide +kernel) ⟨by decide, by decide⟩) (gc_preV0 hK hP hD hS hA hE rfl rfl rfl) rfl rfl hl.1 rfl (lv_room (Nat.le_of_ble_eq_true rfl)) dX0_tellPatternsFrom_60 ⟨by decide, by decide⟩) hD hS hA (fun v24 sg26 H locs hp27 hP hD hS => ?_)
          obtain ⟨hk1, rfl⟩ := hp27
          have hk := hk.trans hk1
          refine W.eq (g2 := F0 m 63 ls []) rfl ?_
          refine lv_iinc (k := 0) (v := (nI (i + 1))) (lv' := [(2, .int (nI (i + 1))), (0, .ref (ad 0)), (1, .int (nI 3))]) hx hb dX0_tellPatternsFrom_63 hl rfl (nI_1 _) (by decide) rfl (fun ls hl => ?_)
          refine lv_goto (tgt := 29) hx hb dX0_tellPatternsFrom_66 (by decide) ?_
          exact ih _ (by omega) (i + 1) _ _ _ _ rfl (by omega) hk hP hD hS (lv_sub hl [0, 1, 2] rfl)
        · refine lv_goto (tgt := 69) hx hb dX0_tellPatternsFrom_50 (by decide) ?_
          exact c69  _ _ _ _  hk hP hD hS (lv_sub hl [1, 2] rfl)
  have c22 : ∀ (sg : Nat → Nat → Int32) (H : Heap) (locs : List Loc) (ls : Array Slot), KG 8 9 11 sg0 sg → va_P D vwCl (gw cI cJ ad sg SS) H → va_D A (gw cI cJ ad sg SS) → va_S A s.heap H locs → lv_has ls 3 [(0, .ref (ad 0)), (1, .int (nI 3))] → W p l e rmX0_tell3 s m ([.ref (ad 0), .int (nI 3)] : List Value).toArray below meth c H locs 0 0 Q (F0 m 22 ls []) := by
    intro sg H locs ls hk hP hD hS hl
    refine lv_aload_n hx hb dX0_tellPatternsFrom_22 rfl (lv_at hl 0 rfl) ?_
    refine lv_iload_n hx hb dX0_tellPatternsFrom_23 rfl (lv_at hl 1 rfl) ?_
    refine gc_go0 (va_runV (As := [.int (nI 3)]) (rest := []) ⟨hx, hb, hml, hown, hts⟩ (m_X0_step3 l hl9 D cI cJ ad sg _  hk.1) (cwV 1 hts (gwV a62 a63 a64 a18 a65) rfl rfl rfl (by decide +kernel) ⟨by decide, by decide⟩) (gc_preV0 hK hP hD hS hA hE rfl rfl rfl) rfl rfl hl.1 rfl (lv_room (Nat.le_of_ble_eq_true rfl)) dX0_tellPatternsFrom_24 ⟨by decide, by decide⟩) hD hS hA (fun v30 sg32 H locs hp33 hP hD hS => ?_)
    obtain ⟨hk1, rfl⟩ := hp33
    have hk := hk.trans hk1
    refine W.eq (g2 := F0 m 27 ls []) rfl ?_
    refine lv_iconst (v := (nI 1)) hx hb dX0_tellPatternsFrom_27 (by decide) ?_
    refine lv_istore_n (lv' := [(2, .int (nI 1)), (0, .ref (ad 0)), (1, .int (nI 3))]) hx hb dX0_tellPatternsFrom_28 rfl hl (by decide) rfl (fun ls hl => ?_)
    exact c29 _ 1 _ _ _ _ rfl (by omega) hk hP hD hS (lv_sub hl [0, 1, 2] rfl)
  have c17 : ∀ (sg : Nat → Nat → Int32) (H : Heap) (locs : List Loc) (ls : Array Slot), KG 8 9 11 sg0 sg → va_P D vwCl (gw cI cJ ad sg SS) H → va_D A (gw cI cJ ad sg SS) → va_S A s.heap H locs → lv_has ls 3 [(0, .ref (ad 0)), (1, .int (nI 3))] → W p l e rmX0_tell3 s m ([.ref (ad 0), .int (nI 3)] : List Value).toArray below meth c H locs 0 0 Q (F0 m 17 ls []) := by
    intro sg H locs ls hk hP hD hS hl
    refine lv_aload_n hx hb dX0_tellPatternsFrom_17 rfl (lv_at hl 0 rfl) ?_
    refine gc_go0 (va_runV (As := []) (rest := []) ⟨hx, hb, hml, hown, hts⟩ (m_X0_lookAtPlan l hl9 D cI cJ ad sg _  hk.1) (cwV 0 hts (gwV a39 a40 a41 a18 a42) rfl rfl rfl (by decide +kernel) ⟨by decide, by decide⟩) (gc_preV0 hK hP hD hS hA hE rfl rfl rfl) rfl rfl hl.1 rfl (lv_room (Nat.le_of_ble_eq_true rfl)) dX0_tellPatternsFrom_18 ⟨by decide, by decide⟩) hD hS hA (fun v36 sg38 H locs hp39 hP hD hS => ?_)
    obtain ⟨hk1, rfl⟩ := hp39
    have hk := hk.trans hk1
    refine W.eq (g2 := F0 m 21 ls []) rfl ?_
    exact hret _ _ _ _ _ hP hS dX0_tellPatternsFrom_21 (⟨hk, rfl⟩)
  refine lv_iload_n hx hb dX0_tellPatternsFrom_0 rfl (lv_at hl 1 rfl) ?_
  refine lv_aload_n hx hb dX0_tellPatternsFrom_1 rfl (lv_at hl 0 rfl) ?_
  refine gw_getr (C := RX0) (T := TX0) (N := 15) hx hb hts inwX0 hown hK hP 0 0 8 rfl rfl rfl (by decide) (hts _ a6) (fun _ h9 => h9) dX0_tellPatternsFrom_2 ?_
  refine gw_getiN (C := RX1) (T := TX1) (N := 12) hx hb hts inwX1 hown hK hP 8 9 rfl rfl rfl (by decide) (hE.nest _ (.fieldLinkNest RX0 81 RX1 "patterns" "I" RX2) (by decide +kernel) rfl) (fun _ h9 => h9) dX0_tellPatternsFrom_5 ?_
  obtain ⟨N42, hN42, eN42⟩ := hk.1.1
  refine gw_top (y := (nI N42)) (eN42) ?_
  refine lv_icmp_ge (tgt := 17) hx hb dX0_tellPatternsFrom_8 (by decide) (fun hc43 => ?_) (fun hc43 => ?_)
  · have hc43 : N42 ≤ 3 := (nI_leI (a := N42) (b := 3) (by omega) (by omega)).mp hc43
    exact c17  _ _ _ _  hk hP hD hS (lv_sub hl [0, 1] rfl)
  · have hc43 : ¬ (N42 ≤ 3) := fun q => hc43 ((nI_leI (a := N42) (b := 3) (by omega) (by omega)).mpr q)
    refine lv_iload_n hx hb dX0_tellPatternsFrom_11 rfl (lv_at hl 1 rfl) ?_
    refine lv_bipush (v := (nI 6)) hx hb dX0_tellPatternsFrom_12 (by decide) ?_
    refine lv_icmp_lt (tgt := 22) hx hb dX0_tellPatternsFrom_14 (by decide) (fun hc44 => ?_) (fun hc44 => ?_)
    · exact c22  _ _ _ _  hk hP hD hS (lv_sub hl [0, 1] rfl)
    · exact absurd hc44 (by decide)
abbrev rmX0_step2 : Room := { frames := 10, cells := 0, slots := 0, locals := 215 }
set_option maxRecDepth 100000 in
set_option maxHeartbeats 4000000 in
theorem m_X0_step2 (l : Launch) (hl9 : l.stackTraces = false) (D : va_G) (cI : ClassId) (cJ : ClassId × ClassId) (ad : Nat → Nat) (sg0 : Nat → Nat → Int32) (sz : Nat) (hI : IvG 8 9 11 sg0) : gc_M l yX0_takeStep wsX0_takeStep rmX0_step2 D vwCl (tyS cI cJ) cI cJ gxT gxN SS [.ref (ad 0), .int (nI 2)] ad sg0 sz 0 0 (fun v sg2 => KG 8 9 11 sg0 sg2 ∧ v = none) := by
  refine gc_Mv_of (cc := cX0_takeStep) (maxL := 2) (by decide) rfl (Nat.le_of_ble_eq_true rfl) ?_
  intro p e s m below meth c A ls Q hin hE hret
  obtain ⟨⟨hx, hb, hml, hown, hts⟩, -, hlocks, -, hA, hP, hK, hD, hS, hl⟩ := hin
  have hts : ∀ w ∈ wsAll, w.before ([.ref (ad 0), .int (nI 2)] : List Value).toArray s = true := fun w h => hts w (List.mem_cons_of_mem _ h)
  have hl : lv_has ls 2 [(0, .ref (ad 0)), (1, .int (nI 2))] := hl
  have hk := KG.refl hI
  refine lv_aload_n hx hb dX0_takeStep_0 rfl (lv_at hl 0 rfl) ?_
  refine gw_geti (C := RX0) (T := TX0) (N := 15) hx hb hts inwX0 hown hK hP 0 10 rfl rfl rfl (by decide) (hts _ a43) (fun _ h9 => h9) dX0_takeStep_1 ?_
  refine lv_topi (fun v1 hv1 => ?_)
  refine lv_aload_n hx hb dX0_takeStep_4 rfl (lv_at hl 0 rfl) ?_
  refine gw_geti (C := RX0) (T := TX0) (N := 15) hx hb hts inwX0 hown hK hP 0 9 rfl rfl rfl (by decide) (hts _ a44) (fun _ h9 => h9) dX0_takeStep_5 ?_
  refine lv_topi (fun v2 hv2 => ?_)
  refine lv_icmp_lt (tgt := 17) hx hb dX0_takeStep_8 (by decide) (fun hc3 => ?_) (fun hc3 => ?_)
  · refine lv_aload_n hx hb dX0_takeStep_17 rfl (lv_at hl 0 rfl) ?_
    refine lv_dup hx hb dX0_takeStep_18 rfl ?_
    refine gw_geti (C := RX0) (T := TX0) (N := 15) hx hb hts inwX0 hown hK hP 0 10 rfl rfl rfl (by decide) (hts _ a43) (fun _ h9 => h9) dX0_takeStep_19 ?_
    refine lv_topi (fun v4 hv4 => ?_)
    refine lv_iconst (v := (nI 1)) hx hb dX0_takeStep_22 (by decide) ?_
    refine lv_iadd hx hb dX0_takeStep_23 ?_
    refine lv_topi (fun v5 hv5 => ?_)
    refine gw_put (C := RX0) (T := TX0) (N := 15) (ty := .int) hx hb hts inwX0 tyX0 tyX0_ok nmX0 hown hK hP hD hS 0 10 rfl rfl rfl (by decide) (hts _ a43) (fun _ h9 => h9) rfl (by decide +kernel) rfl rfl dX0_takeStep_24 (fun H locs hP hD hS => ?_)
    obtain ⟨sg6, esg6⟩ : ∃ z : Nat → Nat → Int32, z = gw_u sg0 0 (upd (sg0 0) 10 v5) := ⟨_, rfl⟩
    rw [← esg6] at hP hD
    have hk : KG 8 9 11 sg0 sg6 := by rw [esg6]; exact hk.wa 0 (by omega) (by omega) _
    refine lv_aload_n hx hb dX0_takeStep_27 rfl (lv_at hl 0 rfl) ?_
    refine lv_iload_n hx hb dX0_takeStep_28 rfl (lv_at hl 1 rfl) ?_
    refine lv_iconst (v := (nI 1)) hx hb dX0_takeStep_29 (by decide) ?_
    refine lv_iadd hx hb dX0_takeStep_30 ?_
    refine gw_top (y := (nI 3)) (by decide) ?_
    refine gc_go0 (va_runV (As := [.int (nI 3)]) (rest := []) ⟨hx, hb, hml, hown, hts⟩ (m_X0_tell3 l hl9 D cI cJ ad sg6 _  hk.1) (cwV 1 hts (gwV a45 a46 a47 a18 a48) rfl rfl rfl (by decide +kernel) ⟨by decide, by decide⟩) (gc_preV0 hK hP hD hS hA hE rfl rfl rfl) rfl rfl hl.1 rfl (lv_room (Nat.le_of_ble_eq_true rfl)) dX0_takeStep_31 ⟨by decide, by decide⟩) hD hS hA (fun v7 sg9 H locs hp10 hP hD hS => ?_)
    obtain ⟨hk1, rfl⟩ := hp10
    have hk := hk.trans hk1
    refine W.eq (g2 := F0 m 34 ls []) rfl ?_
    exact hret _ _ _ _ _ hP hS dX0_takeStep_34 (⟨hk, rfl⟩)
  · refine lv_aload_n hx hb dX0_takeStep_11 rfl (lv_at hl 0 rfl) ?_
    refine lv_iconst (v := (nI 1)) hx hb dX0_takeStep_12 (by decide) ?_
    refine gw_put (C := RX0) (T := TX0) (N := 15) (ty := .boolean) hx hb hts inwX0 tyX0 tyX0_ok nmX0 hown hK hP hD hS 0 11 rfl rfl rfl (by decide) (hts _ a49) (fun _ h9 => h9) rfl (by decide +kernel) rfl rfl dX0_takeStep_13 (fun H locs hP hD hS => ?_)
    obtain ⟨sg13, esg13⟩ : ∃ z : Nat → Nat → Int32, z = gw_u sg0 0 (upd (sg0 0) 11 (nI 1)) := ⟨_, rfl⟩
    rw [← esg13] at hP hD
    have hk : KG 8 9 11 sg0 sg13 := by rw [esg13]; exact hk.wa 0 (by omega) (by omega) _
    exact hret _ _ _ _ _ hP hS dX0_takeStep_16 (⟨hk, rfl⟩)
abbrev rmX0_tell2 : Room := { frames := 11, cells := 0, slots := 0, locals := 236 }
set_option maxRecDepth 100000 in
set_option maxHeartbeats 4000000 in
theorem m_X0_tell2 (l : Launch) (hl9 : l.stackTraces = false) (D : va_G) (cI : ClassId) (cJ : ClassId × ClassId) (ad : Nat → Nat) (sg0 : Nat → Nat → Int32) (sz : Nat) (hI : IvG 8 9 11 sg0) : gc_M l yX0_tellPatternsFrom wsX0_tellPatternsFrom rmX0_tell2 D vwCl (tyS cI cJ) cI cJ gxT gxN SS [.ref (ad 0), .int (nI 2)] ad sg0 sz 0 0 (fun v sg2 => KG 8 9 11 sg0 sg2 ∧ v = none) := by
  refine gc_Mv_of (cc := cX0_tellPatternsFrom) (maxL := 3) (by decide) rfl (Nat.le_of_ble_eq_true rfl) ?_
  intro p e s m below meth c A ls Q hin hE hret
  obtain ⟨⟨hx, hb, hml, hown, hts⟩, -, hlocks, -, hA, hP, hK, hD, hS, hl⟩ := hin
  have hts : ∀ w ∈ wsAll, w.before ([.ref (ad 0), .int (nI 2)] : List Value).toArray s = true := fun w h => hts w (List.mem_cons_of_mem _ h)
  have hl : lv_has ls 3 [(0, .ref (ad 0)), (1, .int (nI 2))] := hl
  have hk := KG.refl hI
  have c69 : ∀ (sg : Nat → Nat → Int32) (H : Heap) (locs : List Loc) (ls : Array Slot), KG 8 9 11 sg0 sg → va_P D vwCl (gw cI cJ ad sg SS) H → va_D A (gw cI cJ ad sg SS) → va_S A s.heap H locs → lv_has ls 3 [(0, .ref (ad 0)), (1, .int (nI 2))] → W p l e rmX0_tell2 s m ([.ref (ad 0), .int (nI 2)] : List Value).toArray below meth c H locs 0 0 Q (F0 m 69 ls []) := by
    intro sg H locs ls hk hP hD hS hl
    refine lv_aload_n hx hb dX0_tellPatternsFrom_69 rfl (lv_at hl 0 rfl) ?_
    refine lv_iload_n hx hb dX0_tellPatternsFrom_70 rfl (lv_at hl 1 rfl) ?_
    refine gc_go0 (va_runV (As := [.int (nI 2)]) (rest := []) ⟨hx, hb, hml, hown, hts⟩ (m_X0_takeLogsBack l hl9 D cI cJ ad sg _ 2 (by omega) hk.1) (cwV 1 hts (gwV a50 a51 a52 a18 a53) rfl rfl rfl (by decide +kernel) ⟨by decide, by decide⟩) (gc_preV0 hK hP hD hS hA hE rfl rfl rfl) rfl rfl hl.1 rfl (lv_room (Nat.le_of_ble_eq_true rfl)) dX0_tellPatternsFrom_71 ⟨by decide, by decide⟩) hD hS hA (fun v1 sg3 H locs hp4 hP hD hS => ?_)
    obtain ⟨hk1, rfl⟩ := hp4
    have hk := hk.trans hk1
    refine W.eq (g2 := F0 m 74 ls []) rfl ?_
    exact hret _ _ _ _ _ hP hS dX0_tellPatternsFrom_74 (⟨hk, rfl⟩)
  have c29 : ∀ (n9 : Nat) (i : Nat) (sg : Nat → Nat → Int32) (H : Heap) (locs : List Loc) (ls : Array Slot), 13 - i = n9 → i ≤ 13 → KG 8 9 11 sg0 sg → va_P D vwCl (gw cI cJ ad sg SS) H → va_D A (gw cI cJ ad sg SS) → va_S A s.heap H locs → lv_has ls 3 [(2, .int (nI i)), (0, .ref (ad 0)), (1, .int (nI 2))] → W p l e rmX0_tell2 s m ([.ref (ad 0), .int (nI 2)] : List Value).toArray below meth c H locs 0 0 Q (F0 m 29 ls []) := by
    intro n9
    induction n9 using Nat.strongRecOn with
    | ind n9 ih =>
    intro i sg H locs ls hn h1 hk hP hD hS hl
    subst hn
    refine lv_iload_n hx hb dX0_tellPatternsFrom_29 rfl (lv_at hl 0 rfl) ?_
    refine lv_bipush (v := (nI 12)) hx hb dX0_tellPatternsFrom_30 (by decide) ?_
    refine lv_icmp_gt (tgt := 69) hx hb dX0_tellPatternsFrom_32 (by decide) (fun hc7 => ?_) (fun hc7 => ?_)
    · have hc7 : 12 < i := (nI_ltI (a := 12) (b := i) (by omega) (by omega)).mp hc7
      exact c69  _ _ _ _  hk hP hD hS (lv_sub hl [1, 2] rfl)
    · have hc7 : ¬ (12 < i) := fun q => hc7 ((nI_ltI (a := 12) (b := i) (by omega) (by omega)).mpr q)
      refine lv_aload_n hx hb dX0_tellPatternsFrom_35 rfl (lv_at hl 1 rfl) ?_
      refine gw_geti (C := RX0) (T := TX0) (N := 15) hx hb hts inwX0 hown hK hP 0 11 rfl rfl rfl (by decide) (hts _ a49) (fun _ h9 => h9) dX0_tellPatternsFrom_36 ?_
      refine lv_topi (fun v8 hv8 => ?_)
      refine lv_if_ne (tgt := 69) hx hb dX0_tellPatternsFrom_39 (by decide) (fun hc9 => ?_) (fun hc9 => ?_)
      · exact c69  _ _ _ _  hk hP hD hS (lv_sub hl [1, 2] rfl)
      · refine lv_aload_n hx hb dX0_tellPatternsFrom_42 rfl (lv_at hl 1 rfl) ?_
        refine lv_iload_n hx hb dX0_tellPatternsFrom_43 rfl (lv_at hl 2 rfl) ?_
        refine gc_go0 (va_runV (As := [.int (nI 2)]) (rest := []) ⟨hx, hb, hml, hown, hts⟩ (m_X0_oneLogMoreFits l hl9 D cI cJ ad sg _ 2 (by omega) hk.1) (cwV 1 hts (gwV a54 a55 a56 a18 a57) rfl rfl rfl (by decide +kernel) ⟨by decide, by decide⟩) (gc_preV0 hK hP hD hS hA hE rfl rfl rfl) rfl rfl hl.1 rfl (lv_room (Nat.le_of_ble_eq_true rfl)) dX0_tellPatternsFrom_44 ⟨by decide, by decide⟩) hD hS hA (fun v10 sg12 H locs hp13 hP hD hS => ?_)
        obtain ⟨hk1, r16, rfl⟩ := hp13
        have hk := hk.trans hk1
        refine W.eq (g2 := F0 m 47 ls [.int r16]) rfl ?_
        refine lv_if_ne (tgt := 53) hx hb dX0_tellPatternsFrom_47 (by decide) (fun hc17 => ?_) (fun hc17 => ?_)
        · refine lv_aload_n hx hb dX0_tellPatternsFrom_53 rfl (lv_at hl 1 rfl) ?_
          refine lv_iload_n hx hb dX0_tellPatternsFrom_54 rfl (lv_at hl 2 rfl) ?_
          refine gc_go0 (va_runV (As := [.int (nI 2)]) (rest := []) ⟨hx, hb, hml, hown, hts⟩ (m_X0_addLog l hl9 D cI cJ ad sg12 _ 2 (by omega) hk.1) (cwV 1 hts (gwV a58 a59 a60 a18 a61) rfl rfl rfl (by decide +kernel) ⟨by decide, by decide⟩) (gc_preV0 hK hP hD hS hA hE rfl rfl rfl) rfl rfl hl.1 rfl (lv_room (Nat.le_of_ble_eq_true rfl)) dX0_tellPatternsFrom_55 ⟨by decide, by decide⟩) hD hS hA (fun v18 sg20 H locs hp21 hP hD hS => ?_)
          obtain ⟨hk1, rfl⟩ := hp21
          have hk := hk.trans hk1
          refine W.eq (g2 := F0 m 58 ls []) rfl ?_
          refine lv_aload_n hx hb dX0_tellPatternsFrom_58 rfl (lv_at hl 1 rfl) ?_
          refine lv_iload_n hx hb dX0_tellPatternsFrom_59 rfl (lv_at hl 2 rfl) ?_
          refine gc_go0 (va_runV (As := [.int (nI 2)]) (rest := []) ⟨hx, hb, hml, hown, hts⟩ (m_X0_step2 l hl9 D cI cJ ad sg20 _  hk.1) (cwV 1 hts (gwV a62 a63 a64 a18 a65) rfl rfl rfl (by decide +kernel) ⟨by decide, by decide⟩) (gc_preV0 hK hP hD hS hA hE rfl rfl rfl) rfl rfl hl.1 rfl (lv_room (Nat.le_of_ble_eq_true rfl)) dX0_tellPatternsFrom_60 ⟨by decide, by decide⟩) hD hS hA (fun v24 sg26 H locs hp27 hP hD hS => ?_)
          obtain ⟨hk1, rfl⟩ := hp27
          have hk := hk.trans hk1
          refine W.eq (g2 := F0 m 63 ls []) rfl ?_
          refine lv_iinc (k := 0) (v := (nI (i + 1))) (lv' := [(2, .int (nI (i + 1))), (0, .ref (ad 0)), (1, .int (nI 2))]) hx hb dX0_tellPatternsFrom_63 hl rfl (nI_1 _) (by decide) rfl (fun ls hl => ?_)
          refine lv_goto (tgt := 29) hx hb dX0_tellPatternsFrom_66 (by decide) ?_
          exact ih _ (by omega) (i + 1) _ _ _ _ rfl (by omega) hk hP hD hS (lv_sub hl [0, 1, 2] rfl)
        · refine lv_goto (tgt := 69) hx hb dX0_tellPatternsFrom_50 (by decide) ?_
          exact c69  _ _ _ _  hk hP hD hS (lv_sub hl [1, 2] rfl)
  have c22 : ∀ (sg : Nat → Nat → Int32) (H : Heap) (locs : List Loc) (ls : Array Slot), KG 8 9 11 sg0 sg → va_P D vwCl (gw cI cJ ad sg SS) H → va_D A (gw cI cJ ad sg SS) → va_S A s.heap H locs → lv_has ls 3 [(0, .ref (ad 0)), (1, .int (nI 2))] → W p l e rmX0_tell2 s m ([.ref (ad 0), .int (nI 2)] : List Value).toArray below meth c H locs 0 0 Q (F0 m 22 ls []) := by
    intro sg H locs ls hk hP hD hS hl
    refine lv_aload_n hx hb dX0_tellPatternsFrom_22 rfl (lv_at hl 0 rfl) ?_
    refine lv_iload_n hx hb dX0_tellPatternsFrom_23 rfl (lv_at hl 1 rfl) ?_
    refine gc_go0 (va_runV (As := [.int (nI 2)]) (rest := []) ⟨hx, hb, hml, hown, hts⟩ (m_X0_step2 l hl9 D cI cJ ad sg _  hk.1) (cwV 1 hts (gwV a62 a63 a64 a18 a65) rfl rfl rfl (by decide +kernel) ⟨by decide, by decide⟩) (gc_preV0 hK hP hD hS hA hE rfl rfl rfl) rfl rfl hl.1 rfl (lv_room (Nat.le_of_ble_eq_true rfl)) dX0_tellPatternsFrom_24 ⟨by decide, by decide⟩) hD hS hA (fun v30 sg32 H locs hp33 hP hD hS => ?_)
    obtain ⟨hk1, rfl⟩ := hp33
    have hk := hk.trans hk1
    refine W.eq (g2 := F0 m 27 ls []) rfl ?_
    refine lv_iconst (v := (nI 1)) hx hb dX0_tellPatternsFrom_27 (by decide) ?_
    refine lv_istore_n (lv' := [(2, .int (nI 1)), (0, .ref (ad 0)), (1, .int (nI 2))]) hx hb dX0_tellPatternsFrom_28 rfl hl (by decide) rfl (fun ls hl => ?_)
    exact c29 _ 1 _ _ _ _ rfl (by omega) hk hP hD hS (lv_sub hl [0, 1, 2] rfl)
  have c17 : ∀ (sg : Nat → Nat → Int32) (H : Heap) (locs : List Loc) (ls : Array Slot), KG 8 9 11 sg0 sg → va_P D vwCl (gw cI cJ ad sg SS) H → va_D A (gw cI cJ ad sg SS) → va_S A s.heap H locs → lv_has ls 3 [(0, .ref (ad 0)), (1, .int (nI 2))] → W p l e rmX0_tell2 s m ([.ref (ad 0), .int (nI 2)] : List Value).toArray below meth c H locs 0 0 Q (F0 m 17 ls []) := by
    intro sg H locs ls hk hP hD hS hl
    refine lv_aload_n hx hb dX0_tellPatternsFrom_17 rfl (lv_at hl 0 rfl) ?_
    refine gc_go0 (va_runV (As := []) (rest := []) ⟨hx, hb, hml, hown, hts⟩ (m_X0_lookAtPlan l hl9 D cI cJ ad sg _  hk.1) (cwV 0 hts (gwV a39 a40 a41 a18 a42) rfl rfl rfl (by decide +kernel) ⟨by decide, by decide⟩) (gc_preV0 hK hP hD hS hA hE rfl rfl rfl) rfl rfl hl.1 rfl (lv_room (Nat.le_of_ble_eq_true rfl)) dX0_tellPatternsFrom_18 ⟨by decide, by decide⟩) hD hS hA (fun v36 sg38 H locs hp39 hP hD hS => ?_)
    obtain ⟨hk1, rfl⟩ := hp39
    have hk := hk.trans hk1
    refine W.eq (g2 := F0 m 21 ls []) rfl ?_
    exact hret _ _ _ _ _ hP hS dX0_tellPatternsFrom_21 (⟨hk, rfl⟩)
  refine lv_iload_n hx hb dX0_tellPatternsFrom_0 rfl (lv_at hl 1 rfl) ?_
  refine lv_aload_n hx hb dX0_tellPatternsFrom_1 rfl (lv_at hl 0 rfl) ?_
  refine gw_getr (C := RX0) (T := TX0) (N := 15) hx hb hts inwX0 hown hK hP 0 0 8 rfl rfl rfl (by decide) (hts _ a6) (fun _ h9 => h9) dX0_tellPatternsFrom_2 ?_
  refine gw_getiN (C := RX1) (T := TX1) (N := 12) hx hb hts inwX1 hown hK hP 8 9 rfl rfl rfl (by decide) (hE.nest _ (.fieldLinkNest RX0 81 RX1 "patterns" "I" RX2) (by decide +kernel) rfl) (fun _ h9 => h9) dX0_tellPatternsFrom_5 ?_
  obtain ⟨N42, hN42, eN42⟩ := hk.1.1
  refine gw_top (y := (nI N42)) (eN42) ?_
  refine lv_icmp_ge (tgt := 17) hx hb dX0_tellPatternsFrom_8 (by decide) (fun hc43 => ?_) (fun hc43 => ?_)
  · have hc43 : N42 ≤ 2 := (nI_leI (a := N42) (b := 2) (by omega) (by omega)).mp hc43
    exact c17  _ _ _ _  hk hP hD hS (lv_sub hl [0, 1] rfl)
  · have hc43 : ¬ (N42 ≤ 2) := fun q => hc43 ((nI_leI (a := N42) (b := 2) (by omega) (by omega)).mpr q)
    refine lv_iload_n hx hb dX0_tellPatternsFrom_11 rfl (lv_at hl 1 rfl) ?_
    refine lv_bipush (v := (nI 6)) hx hb dX0_tellPatternsFrom_12 (by decide) ?_
    refine lv_icmp_lt (tgt := 22) hx hb dX0_tellPatternsFrom_14 (by decide) (fun hc44 => ?_) (fun hc44 => ?_)
    · exact c22  _ _ _ _  hk hP hD hS (lv_sub hl [0, 1] rfl)
    · exact absurd hc44 (by decide)
abbrev rmX0_step1 : Room := { frames := 12, cells := 0, slots := 0, locals := 258 }
set_option maxRecDepth 100000 in
set_option maxHeartbeats 4000000 in
theorem m_X0_step1 (l : Launch) (hl9 : l.stackTraces = false) (D : va_G) (cI : ClassId) (cJ : ClassId × ClassId) (ad : Nat → Nat) (sg0 : Nat → Nat → Int32) (sz : Nat) (hI : IvG 8 9 11 sg0) : gc_M l yX0_takeStep wsX0_takeStep rmX0_step1 D vwCl (tyS cI cJ) cI cJ gxT gxN SS [.ref (ad 0), .int (nI 1)] ad sg0 sz 0 0 (fun v sg2 => KG 8 9 11 sg0 sg2 ∧ v = none) := by
  refine gc_Mv_of (cc := cX0_takeStep) (maxL := 2) (by decide) rfl (Nat.le_of_ble_eq_true rfl) ?_
  intro p e s m below meth c A ls Q hin hE hret
  obtain ⟨⟨hx, hb, hml, hown, hts⟩, -, hlocks, -, hA, hP, hK, hD, hS, hl⟩ := hin
  have hts : ∀ w ∈ wsAll, w.before ([.ref (ad 0), .int (nI 1)] : List Value).toArray s = true := fun w h => hts w (List.mem_cons_of_mem _ h)
  have hl : lv_has ls 2 [(0, .ref (ad 0)), (1, .int (nI 1))] := hl
  have hk := KG.refl hI
  refine lv_aload_n hx hb dX0_takeStep_0 rfl (lv_at hl 0 rfl) ?_
  refine gw_geti (C := RX0) (T := TX0) (N := 15) hx hb hts inwX0 hown hK hP 0 10 rfl rfl rfl (by decide) (hts _ a43) (fun _ h9 => h9) dX0_takeStep_1 ?_
  refine lv_topi (fun v1 hv1 => ?_)
  refine lv_aload_n hx hb dX0_takeStep_4 rfl (lv_at hl 0 rfl) ?_
  refine gw_geti (C := RX0) (T := TX0) (N := 15) hx hb hts inwX0 hown hK hP 0 9 rfl rfl rfl (by decide) (hts _ a44) (fun _ h9 => h9) dX0_takeStep_5 ?_
  refine lv_topi (fun v2 hv2 => ?_)
  refine lv_icmp_lt (tgt := 17) hx hb dX0_takeStep_8 (by decide) (fun hc3 => ?_) (fun hc3 => ?_)
  · refine lv_aload_n hx hb dX0_takeStep_17 rfl (lv_at hl 0 rfl) ?_
    refine lv_dup hx hb dX0_takeStep_18 rfl ?_
    refine gw_geti (C := RX0) (T := TX0) (N := 15) hx hb hts inwX0 hown hK hP 0 10 rfl rfl rfl (by decide) (hts _ a43) (fun _ h9 => h9) dX0_takeStep_19 ?_
    refine lv_topi (fun v4 hv4 => ?_)
    refine lv_iconst (v := (nI 1)) hx hb dX0_takeStep_22 (by decide) ?_
    refine lv_iadd hx hb dX0_takeStep_23 ?_
    refine lv_topi (fun v5 hv5 => ?_)
    refine gw_put (C := RX0) (T := TX0) (N := 15) (ty := .int) hx hb hts inwX0 tyX0 tyX0_ok nmX0 hown hK hP hD hS 0 10 rfl rfl rfl (by decide) (hts _ a43) (fun _ h9 => h9) rfl (by decide +kernel) rfl rfl dX0_takeStep_24 (fun H locs hP hD hS => ?_)
    obtain ⟨sg6, esg6⟩ : ∃ z : Nat → Nat → Int32, z = gw_u sg0 0 (upd (sg0 0) 10 v5) := ⟨_, rfl⟩
    rw [← esg6] at hP hD
    have hk : KG 8 9 11 sg0 sg6 := by rw [esg6]; exact hk.wa 0 (by omega) (by omega) _
    refine lv_aload_n hx hb dX0_takeStep_27 rfl (lv_at hl 0 rfl) ?_
    refine lv_iload_n hx hb dX0_takeStep_28 rfl (lv_at hl 1 rfl) ?_
    refine lv_iconst (v := (nI 1)) hx hb dX0_takeStep_29 (by decide) ?_
    refine lv_iadd hx hb dX0_takeStep_30 ?_
    refine gw_top (y := (nI 2)) (by decide) ?_
    refine gc_go0 (va_runV (As := [.int (nI 2)]) (rest := []) ⟨hx, hb, hml, hown, hts⟩ (m_X0_tell2 l hl9 D cI cJ ad sg6 _  hk.1) (cwV 1 hts (gwV a45 a46 a47 a18 a48) rfl rfl rfl (by decide +kernel) ⟨by decide, by decide⟩) (gc_preV0 hK hP hD hS hA hE rfl rfl rfl) rfl rfl hl.1 rfl (lv_room (Nat.le_of_ble_eq_true rfl)) dX0_takeStep_31 ⟨by decide, by decide⟩) hD hS hA (fun v7 sg9 H locs hp10 hP hD hS => ?_)
    obtain ⟨hk1, rfl⟩ := hp10
    have hk := hk.trans hk1
    refine W.eq (g2 := F0 m 34 ls []) rfl ?_
    exact hret _ _ _ _ _ hP hS dX0_takeStep_34 (⟨hk, rfl⟩)
  · refine lv_aload_n hx hb dX0_takeStep_11 rfl (lv_at hl 0 rfl) ?_
    refine lv_iconst (v := (nI 1)) hx hb dX0_takeStep_12 (by decide) ?_
    refine gw_put (C := RX0) (T := TX0) (N := 15) (ty := .boolean) hx hb hts inwX0 tyX0 tyX0_ok nmX0 hown hK hP hD hS 0 11 rfl rfl rfl (by decide) (hts _ a49) (fun _ h9 => h9) rfl (by decide +kernel) rfl rfl dX0_takeStep_13 (fun H locs hP hD hS => ?_)
    obtain ⟨sg13, esg13⟩ : ∃ z : Nat → Nat → Int32, z = gw_u sg0 0 (upd (sg0 0) 11 (nI 1)) := ⟨_, rfl⟩
    rw [← esg13] at hP hD
    have hk : KG 8 9 11 sg0 sg13 := by rw [esg13]; exact hk.wa 0 (by omega) (by omega) _
    exact hret _ _ _ _ _ hP hS dX0_takeStep_16 (⟨hk, rfl⟩)
abbrev rmX0_tell1 : Room := { frames := 13, cells := 0, slots := 0, locals := 279 }
set_option maxRecDepth 100000 in
set_option maxHeartbeats 4000000 in
theorem m_X0_tell1 (l : Launch) (hl9 : l.stackTraces = false) (D : va_G) (cI : ClassId) (cJ : ClassId × ClassId) (ad : Nat → Nat) (sg0 : Nat → Nat → Int32) (sz : Nat) (hI : IvG 8 9 11 sg0) : gc_M l yX0_tellPatternsFrom wsX0_tellPatternsFrom rmX0_tell1 D vwCl (tyS cI cJ) cI cJ gxT gxN SS [.ref (ad 0), .int (nI 1)] ad sg0 sz 0 0 (fun v sg2 => KG 8 9 11 sg0 sg2 ∧ v = none) := by
  refine gc_Mv_of (cc := cX0_tellPatternsFrom) (maxL := 3) (by decide) rfl (Nat.le_of_ble_eq_true rfl) ?_
  intro p e s m below meth c A ls Q hin hE hret
  obtain ⟨⟨hx, hb, hml, hown, hts⟩, -, hlocks, -, hA, hP, hK, hD, hS, hl⟩ := hin
  have hts : ∀ w ∈ wsAll, w.before ([.ref (ad 0), .int (nI 1)] : List Value).toArray s = true := fun w h => hts w (List.mem_cons_of_mem _ h)
  have hl : lv_has ls 3 [(0, .ref (ad 0)), (1, .int (nI 1))] := hl
  have hk := KG.refl hI
  have c69 : ∀ (sg : Nat → Nat → Int32) (H : Heap) (locs : List Loc) (ls : Array Slot), KG 8 9 11 sg0 sg → va_P D vwCl (gw cI cJ ad sg SS) H → va_D A (gw cI cJ ad sg SS) → va_S A s.heap H locs → lv_has ls 3 [(0, .ref (ad 0)), (1, .int (nI 1))] → W p l e rmX0_tell1 s m ([.ref (ad 0), .int (nI 1)] : List Value).toArray below meth c H locs 0 0 Q (F0 m 69 ls []) := by
    intro sg H locs ls hk hP hD hS hl
    refine lv_aload_n hx hb dX0_tellPatternsFrom_69 rfl (lv_at hl 0 rfl) ?_
    refine lv_iload_n hx hb dX0_tellPatternsFrom_70 rfl (lv_at hl 1 rfl) ?_
    refine gc_go0 (va_runV (As := [.int (nI 1)]) (rest := []) ⟨hx, hb, hml, hown, hts⟩ (m_X0_takeLogsBack l hl9 D cI cJ ad sg _ 1 (by omega) hk.1) (cwV 1 hts (gwV a50 a51 a52 a18 a53) rfl rfl rfl (by decide +kernel) ⟨by decide, by decide⟩) (gc_preV0 hK hP hD hS hA hE rfl rfl rfl) rfl rfl hl.1 rfl (lv_room (Nat.le_of_ble_eq_true rfl)) dX0_tellPatternsFrom_71 ⟨by decide, by decide⟩) hD hS hA (fun v1 sg3 H locs hp4 hP hD hS => ?_)
    obtain ⟨hk1, rfl⟩ := hp4
    have hk := hk.trans hk1
    refine W.eq (g2 := F0 m 74 ls []) rfl ?_
    exact hret _ _ _ _ _ hP hS dX0_tellPatternsFrom_74 (⟨hk, rfl⟩)
  have c29 : ∀ (n9 : Nat) (i : Nat) (sg : Nat → Nat → Int32) (H : Heap) (locs : List Loc) (ls : Array Slot), 13 - i = n9 → i ≤ 13 → KG 8 9 11 sg0 sg → va_P D vwCl (gw cI cJ ad sg SS) H → va_D A (gw cI cJ ad sg SS) → va_S A s.heap H locs → lv_has ls 3 [(2, .int (nI i)), (0, .ref (ad 0)), (1, .int (nI 1))] → W p l e rmX0_tell1 s m ([.ref (ad 0), .int (nI 1)] : List Value).toArray below meth c H locs 0 0 Q (F0 m 29 ls []) := by
    intro n9
    induction n9 using Nat.strongRecOn with
    | ind n9 ih =>
    intro i sg H locs ls hn h1 hk hP hD hS hl
    subst hn
    refine lv_iload_n hx hb dX0_tellPatternsFrom_29 rfl (lv_at hl 0 rfl) ?_
    refine lv_bipush (v := (nI 12)) hx hb dX0_tellPatternsFrom_30 (by decide) ?_
    refine lv_icmp_gt (tgt := 69) hx hb dX0_tellPatternsFrom_32 (by decide) (fun hc7 => ?_) (fun hc7 => ?_)
    · have hc7 : 12 < i := (nI_ltI (a := 12) (b := i) (by omega) (by omega)).mp hc7
      exact c69  _ _ _ _  hk hP hD hS (lv_sub hl [1, 2] rfl)
    · have hc7 : ¬ (12 < i) := fun q => hc7 ((nI_ltI (a := 12) (b := i) (by omega) (by omega)).mpr q)
      refine lv_aload_n hx hb dX0_tellPatternsFrom_35 rfl (lv_at hl 1 rfl) ?_
      refine gw_geti (C := RX0) (T := TX0) (N := 15) hx hb hts inwX0 hown hK hP 0 11 rfl rfl rfl (by decide) (hts _ a49) (fun _ h9 => h9) dX0_tellPatternsFrom_36 ?_
      refine lv_topi (fun v8 hv8 => ?_)
      refine lv_if_ne (tgt := 69) hx hb dX0_tellPatternsFrom_39 (by decide) (fun hc9 => ?_) (fun hc9 => ?_)
      · exact c69  _ _ _ _  hk hP hD hS (lv_sub hl [1, 2] rfl)
      · refine lv_aload_n hx hb dX0_tellPatternsFrom_42 rfl (lv_at hl 1 rfl) ?_
        refine lv_iload_n hx hb dX0_tellPatternsFrom_43 rfl (lv_at hl 2 rfl) ?_
        refine gc_go0 (va_runV (As := [.int (nI 1)]) (rest := []) ⟨hx, hb, hml, hown, hts⟩ (m_X0_oneLogMoreFits l hl9 D cI cJ ad sg _ 1 (by omega) hk.1) (cwV 1 hts (gwV a54 a55 a56 a18 a57) rfl rfl rfl (by decide +kernel) ⟨by decide, by decide⟩) (gc_preV0 hK hP hD hS hA hE rfl rfl rfl) rfl rfl hl.1 rfl (lv_room (Nat.le_of_ble_eq_true rfl)) dX0_tellPatternsFrom_44 ⟨by decide, by decide⟩) hD hS hA (fun v10 sg12 H locs hp13 hP hD hS => ?_)
        obtain ⟨hk1, r16, rfl⟩ := hp13
        have hk := hk.trans hk1
        refine W.eq (g2 := F0 m 47 ls [.int r16]) rfl ?_
        refine lv_if_ne (tgt := 53) hx hb dX0_tellPatternsFrom_47 (by decide) (fun hc17 => ?_) (fun hc17 => ?_)
        · refine lv_aload_n hx hb dX0_tellPatternsFrom_53 rfl (lv_at hl 1 rfl) ?_
          refine lv_iload_n hx hb dX0_tellPatternsFrom_54 rfl (lv_at hl 2 rfl) ?_
          refine gc_go0 (va_runV (As := [.int (nI 1)]) (rest := []) ⟨hx, hb, hml, hown, hts⟩ (m_X0_addLog l hl9 D cI cJ ad sg12 _ 1 (by omega) hk.1) (cwV 1 hts (gwV a58 a59 a60 a18 a61) rfl rfl rfl (by decide +kernel) ⟨by decide, by decide⟩) (gc_preV0 hK hP hD hS hA hE rfl rfl rfl) rfl rfl hl.1 rfl (lv_room (Nat.le_of_ble_eq_true rfl)) dX0_tellPatternsFrom_55 ⟨by decide, by decide⟩) hD hS hA (fun v18 sg20 H locs hp21 hP hD hS => ?_)
          obtain ⟨hk1, rfl⟩ := hp21
          have hk := hk.trans hk1
          refine W.eq (g2 := F0 m 58 ls []) rfl ?_
          refine lv_aload_n hx hb dX0_tellPatternsFrom_58 rfl (lv_at hl 1 rfl) ?_
          refine lv_iload_n hx hb dX0_tellPatternsFrom_59 rfl (lv_at hl 2 rfl) ?_
          refine gc_go0 (va_runV (As := [.int (nI 1)]) (rest := []) ⟨hx, hb, hml, hown, hts⟩ (m_X0_step1 l hl9 D cI cJ ad sg20 _  hk.1) (cwV 1 hts (gwV a62 a63 a64 a18 a65) rfl rfl rfl (by decide +kernel) ⟨by decide, by decide⟩) (gc_preV0 hK hP hD hS hA hE rfl rfl rfl) rfl rfl hl.1 rfl (lv_room (Nat.le_of_ble_eq_true rfl)) dX0_tellPatternsFrom_60 ⟨by decide, by decide⟩) hD hS hA (fun v24 sg26 H locs hp27 hP hD hS => ?_)
          obtain ⟨hk1, rfl⟩ := hp27
          have hk := hk.trans hk1
          refine W.eq (g2 := F0 m 63 ls []) rfl ?_
          refine lv_iinc (k := 0) (v := (nI (i + 1))) (lv' := [(2, .int (nI (i + 1))), (0, .ref (ad 0)), (1, .int (nI 1))]) hx hb dX0_tellPatternsFrom_63 hl rfl (nI_1 _) (by decide) rfl (fun ls hl => ?_)
          refine lv_goto (tgt := 29) hx hb dX0_tellPatternsFrom_66 (by decide) ?_
          exact ih _ (by omega) (i + 1) _ _ _ _ rfl (by omega) hk hP hD hS (lv_sub hl [0, 1, 2] rfl)
        · refine lv_goto (tgt := 69) hx hb dX0_tellPatternsFrom_50 (by decide) ?_
          exact c69  _ _ _ _  hk hP hD hS (lv_sub hl [1, 2] rfl)
  have c22 : ∀ (sg : Nat → Nat → Int32) (H : Heap) (locs : List Loc) (ls : Array Slot), KG 8 9 11 sg0 sg → va_P D vwCl (gw cI cJ ad sg SS) H → va_D A (gw cI cJ ad sg SS) → va_S A s.heap H locs → lv_has ls 3 [(0, .ref (ad 0)), (1, .int (nI 1))] → W p l e rmX0_tell1 s m ([.ref (ad 0), .int (nI 1)] : List Value).toArray below meth c H locs 0 0 Q (F0 m 22 ls []) := by
    intro sg H locs ls hk hP hD hS hl
    refine lv_aload_n hx hb dX0_tellPatternsFrom_22 rfl (lv_at hl 0 rfl) ?_
    refine lv_iload_n hx hb dX0_tellPatternsFrom_23 rfl (lv_at hl 1 rfl) ?_
    refine gc_go0 (va_runV (As := [.int (nI 1)]) (rest := []) ⟨hx, hb, hml, hown, hts⟩ (m_X0_step1 l hl9 D cI cJ ad sg _  hk.1) (cwV 1 hts (gwV a62 a63 a64 a18 a65) rfl rfl rfl (by decide +kernel) ⟨by decide, by decide⟩) (gc_preV0 hK hP hD hS hA hE rfl rfl rfl) rfl rfl hl.1 rfl (lv_room (Nat.le_of_ble_eq_true rfl)) dX0_tellPatternsFrom_24 ⟨by decide, by decide⟩) hD hS hA (fun v30 sg32 H locs hp33 hP hD hS => ?_)
    obtain ⟨hk1, rfl⟩ := hp33
    have hk := hk.trans hk1
    refine W.eq (g2 := F0 m 27 ls []) rfl ?_
    refine lv_iconst (v := (nI 1)) hx hb dX0_tellPatternsFrom_27 (by decide) ?_
    refine lv_istore_n (lv' := [(2, .int (nI 1)), (0, .ref (ad 0)), (1, .int (nI 1))]) hx hb dX0_tellPatternsFrom_28 rfl hl (by decide) rfl (fun ls hl => ?_)
    exact c29 _ 1 _ _ _ _ rfl (by omega) hk hP hD hS (lv_sub hl [0, 1, 2] rfl)
  have c17 : ∀ (sg : Nat → Nat → Int32) (H : Heap) (locs : List Loc) (ls : Array Slot), KG 8 9 11 sg0 sg → va_P D vwCl (gw cI cJ ad sg SS) H → va_D A (gw cI cJ ad sg SS) → va_S A s.heap H locs → lv_has ls 3 [(0, .ref (ad 0)), (1, .int (nI 1))] → W p l e rmX0_tell1 s m ([.ref (ad 0), .int (nI 1)] : List Value).toArray below meth c H locs 0 0 Q (F0 m 17 ls []) := by
    intro sg H locs ls hk hP hD hS hl
    refine lv_aload_n hx hb dX0_tellPatternsFrom_17 rfl (lv_at hl 0 rfl) ?_
    refine gc_go0 (va_runV (As := []) (rest := []) ⟨hx, hb, hml, hown, hts⟩ (m_X0_lookAtPlan l hl9 D cI cJ ad sg _  hk.1) (cwV 0 hts (gwV a39 a40 a41 a18 a42) rfl rfl rfl (by decide +kernel) ⟨by decide, by decide⟩) (gc_preV0 hK hP hD hS hA hE rfl rfl rfl) rfl rfl hl.1 rfl (lv_room (Nat.le_of_ble_eq_true rfl)) dX0_tellPatternsFrom_18 ⟨by decide, by decide⟩) hD hS hA (fun v36 sg38 H locs hp39 hP hD hS => ?_)
    obtain ⟨hk1, rfl⟩ := hp39
    have hk := hk.trans hk1
    refine W.eq (g2 := F0 m 21 ls []) rfl ?_
    exact hret _ _ _ _ _ hP hS dX0_tellPatternsFrom_21 (⟨hk, rfl⟩)
  refine lv_iload_n hx hb dX0_tellPatternsFrom_0 rfl (lv_at hl 1 rfl) ?_
  refine lv_aload_n hx hb dX0_tellPatternsFrom_1 rfl (lv_at hl 0 rfl) ?_
  refine gw_getr (C := RX0) (T := TX0) (N := 15) hx hb hts inwX0 hown hK hP 0 0 8 rfl rfl rfl (by decide) (hts _ a6) (fun _ h9 => h9) dX0_tellPatternsFrom_2 ?_
  refine gw_getiN (C := RX1) (T := TX1) (N := 12) hx hb hts inwX1 hown hK hP 8 9 rfl rfl rfl (by decide) (hE.nest _ (.fieldLinkNest RX0 81 RX1 "patterns" "I" RX2) (by decide +kernel) rfl) (fun _ h9 => h9) dX0_tellPatternsFrom_5 ?_
  obtain ⟨N42, hN42, eN42⟩ := hk.1.1
  refine gw_top (y := (nI N42)) (eN42) ?_
  refine lv_icmp_ge (tgt := 17) hx hb dX0_tellPatternsFrom_8 (by decide) (fun hc43 => ?_) (fun hc43 => ?_)
  · have hc43 : N42 ≤ 1 := (nI_leI (a := N42) (b := 1) (by omega) (by omega)).mp hc43
    exact c17  _ _ _ _  hk hP hD hS (lv_sub hl [0, 1] rfl)
  · have hc43 : ¬ (N42 ≤ 1) := fun q => hc43 ((nI_leI (a := N42) (b := 1) (by omega) (by omega)).mpr q)
    refine lv_iload_n hx hb dX0_tellPatternsFrom_11 rfl (lv_at hl 1 rfl) ?_
    refine lv_bipush (v := (nI 6)) hx hb dX0_tellPatternsFrom_12 (by decide) ?_
    refine lv_icmp_lt (tgt := 22) hx hb dX0_tellPatternsFrom_14 (by decide) (fun hc44 => ?_) (fun hc44 => ?_)
    · exact c22  _ _ _ _  hk hP hD hS (lv_sub hl [0, 1] rfl)
    · exact absurd hc44 (by decide)
abbrev rmX0_step0 : Room := { frames := 14, cells := 0, slots := 0, locals := 301 }
set_option maxRecDepth 100000 in
set_option maxHeartbeats 4000000 in
theorem m_X0_step0 (l : Launch) (hl9 : l.stackTraces = false) (D : va_G) (cI : ClassId) (cJ : ClassId × ClassId) (ad : Nat → Nat) (sg0 : Nat → Nat → Int32) (sz : Nat) (hI : IvG 8 9 11 sg0) : gc_M l yX0_takeStep wsX0_takeStep rmX0_step0 D vwCl (tyS cI cJ) cI cJ gxT gxN SS [.ref (ad 0), .int (nI 0)] ad sg0 sz 0 0 (fun v sg2 => KG 8 9 11 sg0 sg2 ∧ v = none) := by
  refine gc_Mv_of (cc := cX0_takeStep) (maxL := 2) (by decide) rfl (Nat.le_of_ble_eq_true rfl) ?_
  intro p e s m below meth c A ls Q hin hE hret
  obtain ⟨⟨hx, hb, hml, hown, hts⟩, -, hlocks, -, hA, hP, hK, hD, hS, hl⟩ := hin
  have hts : ∀ w ∈ wsAll, w.before ([.ref (ad 0), .int (nI 0)] : List Value).toArray s = true := fun w h => hts w (List.mem_cons_of_mem _ h)
  have hl : lv_has ls 2 [(0, .ref (ad 0)), (1, .int (nI 0))] := hl
  have hk := KG.refl hI
  refine lv_aload_n hx hb dX0_takeStep_0 rfl (lv_at hl 0 rfl) ?_
  refine gw_geti (C := RX0) (T := TX0) (N := 15) hx hb hts inwX0 hown hK hP 0 10 rfl rfl rfl (by decide) (hts _ a43) (fun _ h9 => h9) dX0_takeStep_1 ?_
  refine lv_topi (fun v1 hv1 => ?_)
  refine lv_aload_n hx hb dX0_takeStep_4 rfl (lv_at hl 0 rfl) ?_
  refine gw_geti (C := RX0) (T := TX0) (N := 15) hx hb hts inwX0 hown hK hP 0 9 rfl rfl rfl (by decide) (hts _ a44) (fun _ h9 => h9) dX0_takeStep_5 ?_
  refine lv_topi (fun v2 hv2 => ?_)
  refine lv_icmp_lt (tgt := 17) hx hb dX0_takeStep_8 (by decide) (fun hc3 => ?_) (fun hc3 => ?_)
  · refine lv_aload_n hx hb dX0_takeStep_17 rfl (lv_at hl 0 rfl) ?_
    refine lv_dup hx hb dX0_takeStep_18 rfl ?_
    refine gw_geti (C := RX0) (T := TX0) (N := 15) hx hb hts inwX0 hown hK hP 0 10 rfl rfl rfl (by decide) (hts _ a43) (fun _ h9 => h9) dX0_takeStep_19 ?_
    refine lv_topi (fun v4 hv4 => ?_)
    refine lv_iconst (v := (nI 1)) hx hb dX0_takeStep_22 (by decide) ?_
    refine lv_iadd hx hb dX0_takeStep_23 ?_
    refine lv_topi (fun v5 hv5 => ?_)
    refine gw_put (C := RX0) (T := TX0) (N := 15) (ty := .int) hx hb hts inwX0 tyX0 tyX0_ok nmX0 hown hK hP hD hS 0 10 rfl rfl rfl (by decide) (hts _ a43) (fun _ h9 => h9) rfl (by decide +kernel) rfl rfl dX0_takeStep_24 (fun H locs hP hD hS => ?_)
    obtain ⟨sg6, esg6⟩ : ∃ z : Nat → Nat → Int32, z = gw_u sg0 0 (upd (sg0 0) 10 v5) := ⟨_, rfl⟩
    rw [← esg6] at hP hD
    have hk : KG 8 9 11 sg0 sg6 := by rw [esg6]; exact hk.wa 0 (by omega) (by omega) _
    refine lv_aload_n hx hb dX0_takeStep_27 rfl (lv_at hl 0 rfl) ?_
    refine lv_iload_n hx hb dX0_takeStep_28 rfl (lv_at hl 1 rfl) ?_
    refine lv_iconst (v := (nI 1)) hx hb dX0_takeStep_29 (by decide) ?_
    refine lv_iadd hx hb dX0_takeStep_30 ?_
    refine gw_top (y := (nI 1)) (by decide) ?_
    refine gc_go0 (va_runV (As := [.int (nI 1)]) (rest := []) ⟨hx, hb, hml, hown, hts⟩ (m_X0_tell1 l hl9 D cI cJ ad sg6 _  hk.1) (cwV 1 hts (gwV a45 a46 a47 a18 a48) rfl rfl rfl (by decide +kernel) ⟨by decide, by decide⟩) (gc_preV0 hK hP hD hS hA hE rfl rfl rfl) rfl rfl hl.1 rfl (lv_room (Nat.le_of_ble_eq_true rfl)) dX0_takeStep_31 ⟨by decide, by decide⟩) hD hS hA (fun v7 sg9 H locs hp10 hP hD hS => ?_)
    obtain ⟨hk1, rfl⟩ := hp10
    have hk := hk.trans hk1
    refine W.eq (g2 := F0 m 34 ls []) rfl ?_
    exact hret _ _ _ _ _ hP hS dX0_takeStep_34 (⟨hk, rfl⟩)
  · refine lv_aload_n hx hb dX0_takeStep_11 rfl (lv_at hl 0 rfl) ?_
    refine lv_iconst (v := (nI 1)) hx hb dX0_takeStep_12 (by decide) ?_
    refine gw_put (C := RX0) (T := TX0) (N := 15) (ty := .boolean) hx hb hts inwX0 tyX0 tyX0_ok nmX0 hown hK hP hD hS 0 11 rfl rfl rfl (by decide) (hts _ a49) (fun _ h9 => h9) rfl (by decide +kernel) rfl rfl dX0_takeStep_13 (fun H locs hP hD hS => ?_)
    obtain ⟨sg13, esg13⟩ : ∃ z : Nat → Nat → Int32, z = gw_u sg0 0 (upd (sg0 0) 11 (nI 1)) := ⟨_, rfl⟩
    rw [← esg13] at hP hD
    have hk : KG 8 9 11 sg0 sg13 := by rw [esg13]; exact hk.wa 0 (by omega) (by omega) _
    exact hret _ _ _ _ _ hP hS dX0_takeStep_16 (⟨hk, rfl⟩)
abbrev rmX0_tell0 : Room := { frames := 15, cells := 0, slots := 0, locals := 322 }
set_option maxRecDepth 100000 in
set_option maxHeartbeats 4000000 in
theorem m_X0_tell0 (l : Launch) (hl9 : l.stackTraces = false) (D : va_G) (cI : ClassId) (cJ : ClassId × ClassId) (ad : Nat → Nat) (sg0 : Nat → Nat → Int32) (sz : Nat) (hI : IvG 8 9 11 sg0) : gc_M l yX0_tellPatternsFrom wsX0_tellPatternsFrom rmX0_tell0 D vwCl (tyS cI cJ) cI cJ gxT gxN SS [.ref (ad 0), .int (nI 0)] ad sg0 sz 0 0 (fun v sg2 => KG 8 9 11 sg0 sg2 ∧ v = none) := by
  refine gc_Mv_of (cc := cX0_tellPatternsFrom) (maxL := 3) (by decide) rfl (Nat.le_of_ble_eq_true rfl) ?_
  intro p e s m below meth c A ls Q hin hE hret
  obtain ⟨⟨hx, hb, hml, hown, hts⟩, -, hlocks, -, hA, hP, hK, hD, hS, hl⟩ := hin
  have hts : ∀ w ∈ wsAll, w.before ([.ref (ad 0), .int (nI 0)] : List Value).toArray s = true := fun w h => hts w (List.mem_cons_of_mem _ h)
  have hl : lv_has ls 3 [(0, .ref (ad 0)), (1, .int (nI 0))] := hl
  have hk := KG.refl hI
  have c69 : ∀ (sg : Nat → Nat → Int32) (H : Heap) (locs : List Loc) (ls : Array Slot), KG 8 9 11 sg0 sg → va_P D vwCl (gw cI cJ ad sg SS) H → va_D A (gw cI cJ ad sg SS) → va_S A s.heap H locs → lv_has ls 3 [(0, .ref (ad 0)), (1, .int (nI 0))] → W p l e rmX0_tell0 s m ([.ref (ad 0), .int (nI 0)] : List Value).toArray below meth c H locs 0 0 Q (F0 m 69 ls []) := by
    intro sg H locs ls hk hP hD hS hl
    refine lv_aload_n hx hb dX0_tellPatternsFrom_69 rfl (lv_at hl 0 rfl) ?_
    refine lv_iload_n hx hb dX0_tellPatternsFrom_70 rfl (lv_at hl 1 rfl) ?_
    refine gc_go0 (va_runV (As := [.int (nI 0)]) (rest := []) ⟨hx, hb, hml, hown, hts⟩ (m_X0_takeLogsBack l hl9 D cI cJ ad sg _ 0 (by omega) hk.1) (cwV 1 hts (gwV a50 a51 a52 a18 a53) rfl rfl rfl (by decide +kernel) ⟨by decide, by decide⟩) (gc_preV0 hK hP hD hS hA hE rfl rfl rfl) rfl rfl hl.1 rfl (lv_room (Nat.le_of_ble_eq_true rfl)) dX0_tellPatternsFrom_71 ⟨by decide, by decide⟩) hD hS hA (fun v1 sg3 H locs hp4 hP hD hS => ?_)
    obtain ⟨hk1, rfl⟩ := hp4
    have hk := hk.trans hk1
    refine W.eq (g2 := F0 m 74 ls []) rfl ?_
    exact hret _ _ _ _ _ hP hS dX0_tellPatternsFrom_74 (⟨hk, rfl⟩)
  have c29 : ∀ (n9 : Nat) (i : Nat) (sg : Nat → Nat → Int32) (H : Heap) (locs : List Loc) (ls : Array Slot), 13 - i = n9 → i ≤ 13 → KG 8 9 11 sg0 sg → va_P D vwCl (gw cI cJ ad sg SS) H → va_D A (gw cI cJ ad sg SS) → va_S A s.heap H locs → lv_has ls 3 [(2, .int (nI i)), (0, .ref (ad 0)), (1, .int (nI 0))] → W p l e rmX0_tell0 s m ([.ref (ad 0), .int (nI 0)] : List Value).toArray below meth c H locs 0 0 Q (F0 m 29 ls []) := by
    intro n9
    induction n9 using Nat.strongRecOn with
    | ind n9 ih =>
    intro i sg H locs ls hn h1 hk hP hD hS hl
    subst hn
    refine lv_iload_n hx hb dX0_tellPatternsFrom_29 rfl (lv_at hl 0 rfl) ?_
    refine lv_bipush (v := (nI 12)) hx hb dX0_tellPatternsFrom_30 (by decide) ?_
    refine lv_icmp_gt (tgt := 69) hx hb dX0_tellPatternsFrom_32 (by decide) (fun hc7 => ?_) (fun hc7 => ?_)
    · have hc7 : 12 < i := (nI_ltI (a := 12) (b := i) (by omega) (by omega)).mp hc7
      exact c69  _ _ _ _  hk hP hD hS (lv_sub hl [1, 2] rfl)
    · have hc7 : ¬ (12 < i) := fun q => hc7 ((nI_ltI (a := 12) (b := i) (by omega) (by omega)).mpr q)
      refine lv_aload_n hx hb dX0_tellPatternsFrom_35 rfl (lv_at hl 1 rfl) ?_
      refine gw_geti (C := RX0) (T := TX0) (N := 15) hx hb hts inwX0 hown hK hP 0 11 rfl rfl rfl (by decide) (hts _ a49) (fun _ h9 => h9) dX0_tellPatternsFrom_36 ?_
      refine lv_topi (fun v8 hv8 => ?_)
      refine lv_if_ne (tgt := 69) hx hb dX0_tellPatternsFrom_39 (by decide) (fun hc9 => ?_) (fun hc9 => ?_)
      · exact c69  _ _ _ _  hk hP hD hS (lv_sub hl [1, 2] rfl)
      · refine lv_aload_n hx hb dX0_tellPatternsFrom_42 rfl (lv_at hl 1 rfl) ?_
        refine lv_iload_n hx hb dX0_tellPatternsFrom_43 rfl (lv_at hl 2 rfl) ?_
        refine gc_go0 (va_runV (As := [.int (nI 0)]) (rest := []) ⟨hx, hb, hml, hown, hts⟩ (m_X0_oneLogMoreFits l hl9 D cI cJ ad sg _ 0 (by omega) hk.1) (cwV 1 hts (gwV a54 a55 a56 a18 a57) rfl rfl rfl (by decide +kernel) ⟨by decide, by decide⟩) (gc_preV0 hK hP hD hS hA hE rfl rfl rfl) rfl rfl hl.1 rfl (lv_room (Nat.le_of_ble_eq_true rfl)) dX0_tellPatternsFrom_44 ⟨by decide, by decide⟩) hD hS hA (fun v10 sg12 H locs hp13 hP hD hS => ?_)
        obtain ⟨hk1, r16, rfl⟩ := hp13
        have hk := hk.trans hk1
        refine W.eq (g2 := F0 m 47 ls [.int r16]) rfl ?_
        refine lv_if_ne (tgt := 53) hx hb dX0_tellPatternsFrom_47 (by decide) (fun hc17 => ?_) (fun hc17 => ?_)
        · refine lv_aload_n hx hb dX0_tellPatternsFrom_53 rfl (lv_at hl 1 rfl) ?_
          refine lv_iload_n hx hb dX0_tellPatternsFrom_54 rfl (lv_at hl 2 rfl) ?_
          refine gc_go0 (va_runV (As := [.int (nI 0)]) (rest := []) ⟨hx, hb, hml, hown, hts⟩ (m_X0_addLog l hl9 D cI cJ ad sg12 _ 0 (by omega) hk.1) (cwV 1 hts (gwV a58 a59 a60 a18 a61) rfl rfl rfl (by decide +kernel) ⟨by decide, by decide⟩) (gc_preV0 hK hP hD hS hA hE rfl rfl rfl) rfl rfl hl.1 rfl (lv_room (Nat.le_of_ble_eq_true rfl)) dX0_tellPatternsFrom_55 ⟨by decide, by decide⟩) hD hS hA (fun v18 sg20 H locs hp21 hP hD hS => ?_)
          obtain ⟨hk1, rfl⟩ := hp21
          have hk := hk.trans hk1
          refine W.eq (g2 := F0 m 58 ls []) rfl ?_
          refine lv_aload_n hx hb dX0_tellPatternsFrom_58 rfl (lv_at hl 1 rfl) ?_
          refine lv_iload_n hx hb dX0_tellPatternsFrom_59 rfl (lv_at hl 2 rfl) ?_
          refine gc_go0 (va_runV (As := [.int (nI 0)]) (rest := []) ⟨hx, hb, hml, hown, hts⟩ (m_X0_step0 l hl9 D cI cJ ad sg20 _  hk.1) (cwV 1 hts (gwV a62 a63 a64 a18 a65) rfl rfl rfl (by decide +kernel) ⟨by decide, by decide⟩) (gc_preV0 hK hP hD hS hA hE rfl rfl rfl) rfl rfl hl.1 rfl (lv_room (Nat.le_of_ble_eq_true rfl)) dX0_tellPatternsFrom_60 ⟨by decide, by decide⟩) hD hS hA (fun v24 sg26 H locs hp27 hP hD hS => ?_)
          obtain ⟨hk1, rfl⟩ := hp27
          have hk := hk.trans hk1
          refine W.eq (g2 := F0 m 63 ls []) rfl ?_
          refine lv_iinc (k := 0) (v := (nI (i + 1))) (lv' := [(2, .int (nI (i + 1))), (0, .ref (ad 0)), (1, .int (nI 0))]) hx hb dX0_tellPatternsFrom_63 hl rfl (nI_1 _) (by decide) rfl (fun ls hl => ?_)
          refine lv_goto (tgt := 29) hx hb dX0_tellPatternsFrom_66 (by decide) ?_
          exact ih _ (by omega) (i + 1) _ _ _ _ rfl (by omega) hk hP hD hS (lv_sub hl [0, 1, 2] rfl)
        · refine lv_goto (tgt := 69) hx hb dX0_tellPatternsFrom_50 (by decide) ?_
          exact c69  _ _ _ _  hk hP hD hS (lv_sub hl [1, 2] rfl)
  have c22 : ∀ (sg : Nat → Nat → Int32) (H : Heap) (locs : List Loc) (ls : Array Slot), KG 8 9 11 sg0 sg → va_P D vwCl (gw cI cJ ad sg SS) H → va_D A (gw cI cJ ad sg SS) → va_S A s.heap H locs → lv_has ls 3 [(0, .ref (ad 0)), (1, .int (nI 0))] → W p l e rmX0_tell0 s m ([.ref (ad 0), .int (nI 0)] : List Value).toArray below meth c H locs 0 0 Q (F0 m 22 ls []) := by
    intro sg H locs ls hk hP hD hS hl
    refine lv_aload_n hx hb dX0_tellPatternsFrom_22 rfl (lv_at hl 0 rfl) ?_
    refine lv_iload_n hx hb dX0_tellPatternsFrom_23 rfl (lv_at hl 1 rfl) ?_
    refine gc_go0 (va_runV (As := [.int (nI 0)]) (rest := []) ⟨hx, hb, hml, hown, hts⟩ (m_X0_step0 l hl9 D cI cJ ad sg _  hk.1) (cwV 1 hts (gwV a62 a63 a64 a18 a65) rfl rfl rfl (by decide +kernel) ⟨by decide, by decide⟩) (gc_preV0 hK hP hD hS hA hE rfl rfl rfl) rfl rfl hl.1 rfl (lv_room (Nat.le_of_ble_eq_true rfl)) dX0_tellPatternsFrom_24 ⟨by decide, by decide⟩) hD hS hA (fun v30 sg32 H locs hp33 hP hD hS => ?_)
    obtain ⟨hk1, rfl⟩ := hp33
    have hk := hk.trans hk1
    refine W.eq (g2 := F0 m 27 ls []) rfl ?_
    refine lv_iconst (v := (nI 1)) hx hb dX0_tellPatternsFrom_27 (by decide) ?_
    refine lv_istore_n (lv' := [(2, .int (nI 1)), (0, .ref (ad 0)), (1, .int (nI 0))]) hx hb dX0_tellPatternsFrom_28 rfl hl (by decide) rfl (fun ls hl => ?_)
    exact c29 _ 1 _ _ _ _ rfl (by omega) hk hP hD hS (lv_sub hl [0, 1, 2] rfl)
  have c17 : ∀ (sg : Nat → Nat → Int32) (H : Heap) (locs : List Loc) (ls : Array Slot), KG 8 9 11 sg0 sg → va_P D vwCl (gw cI cJ ad sg SS) H → va_D A (gw cI cJ ad sg SS) → va_S A s.heap H locs → lv_has ls 3 [(0, .ref (ad 0)), (1, .int (nI 0))] → W p l e rmX0_tell0 s m ([.ref (ad 0), .int (nI 0)] : List Value).toArray below meth c H locs 0 0 Q (F0 m 17 ls []) := by
    intro sg H locs ls hk hP hD hS hl
    refine lv_aload_n hx hb dX0_tellPatternsFrom_17 rfl (lv_at hl 0 rfl) ?_
    refine gc_go0 (va_runV (As := []) (rest := []) ⟨hx, hb, hml, hown, hts⟩ (m_X0_lookAtPlan l hl9 D cI cJ ad sg _  hk.1) (cwV 0 hts (gwV a39 a40 a41 a18 a42) rfl rfl rfl (by decide +kernel) ⟨by decide, by decide⟩) (gc_preV0 hK hP hD hS hA hE rfl rfl rfl) rfl rfl hl.1 rfl (lv_room (Nat.le_of_ble_eq_true rfl)) dX0_tellPatternsFrom_18 ⟨by decide, by decide⟩) hD hS hA (fun v36 sg38 H locs hp39 hP hD hS => ?_)
    obtain ⟨hk1, rfl⟩ := hp39
    have hk := hk.trans hk1
    refine W.eq (g2 := F0 m 21 ls []) rfl ?_
    exact hret _ _ _ _ _ hP hS dX0_tellPatternsFrom_21 (⟨hk, rfl⟩)
  refine lv_iload_n hx hb dX0_tellPatternsFrom_0 rfl (lv_at hl 1 rfl) ?_
  refine lv_aload_n hx hb dX0_tellPatternsFrom_1 rfl (lv_at hl 0 rfl) ?_
  refine gw_getr (C := RX0) (T := TX0) (N := 15) hx hb hts inwX0 hown hK hP 0 0 8 rfl rfl rfl (by decide) (hts _ a6) (fun _ h9 => h9) dX0_tellPatternsFrom_2 ?_
  refine gw_getiN (C := RX1) (T := TX1) (N := 12) hx hb hts inwX1 hown hK hP 8 9 rfl rfl rfl (by decide) (hE.nest _ (.fieldLinkNest RX0 81 RX1 "patterns" "I" RX2) (by decide +kernel) rfl) (fun _ h9 => h9) dX0_tellPatternsFrom_5 ?_
  obtain ⟨N42, hN42, eN42⟩ := hk.1.1
  refine gw_top (y := (nI N42)) (eN42) ?_
  refine lv_icmp_ge (tgt := 17) hx hb dX0_tellPatternsFrom_8 (by decide) (fun hc43 => ?_) (fun hc43 => ?_)
  · have hc43 : N42 ≤ 0 := (nI_leI (a := N42) (b := 0) (by omega) (by omega)).mp hc43
    exact c17  _ _ _ _  hk hP hD hS (lv_sub hl [0, 1] rfl)
  · have hc43 : ¬ (N42 ≤ 0) := fun q => hc43 ((nI_leI (a := N42) (b := 0) (by omega) (by omega)).mpr q)
    refine lv_iload_n hx hb dX0_tellPatternsFrom_11 rfl (lv_at hl 1 rfl) ?_
    refine lv_bipush (v := (nI 6)) hx hb dX0_tellPatternsFrom_12 (by decide) ?_
    refine lv_icmp_lt (tgt := 22) hx hb dX0_tellPatternsFrom_14 (by decide) (fun hc44 => ?_) (fun hc44 => ?_)
    · exact c22  _ _ _ _  hk hP hD hS (lv_sub hl [0, 1] rfl)
    · exact absurd hc44 (by decide)
abbrev rmX0_goThroughPlans : Room := { frames := 16, cells := 0, slots := 0, locals := 344 }
set_option maxRecDepth 100000 in
set_option maxHeartbeats 4000000 in
theorem m_X0_goThroughPlans (l : Launch) (hl9 : l.stackTraces = false) (D : va_G) (cI : ClassId) (cJ : ClassId × ClassId) (ad : Nat → Nat) (sg0 : Nat → Nat → Int32) (sz : Nat) (x1 : Int32) (x2 : Int32) (hI : IvG 8 9 11 sg0) : gc_M l yX0_goThroughPlans wsX0_goThroughPlans rmX0_goThroughPlans D vwCl (tyS cI cJ) cI cJ gxT gxN SS [.ref (ad 0), .int x1, .int x2] ad sg0 sz 0 0 (fun v sg2 => KG 8 9 11 sg0 sg2 ∧ v = none) := by
  refine gc_Mv_of (cc := cX0_goThroughPlans) (maxL := 3) (by decide) rfl (Nat.le_of_ble_eq_true rfl) ?_
  intro p e s m below meth c A ls Q hin hE hret
  obtain ⟨⟨hx, hb, hml, hown, hts⟩, -, hlocks, -, hA, hP, hK, hD, hS, hl⟩ := hin
  have hts : ∀ w ∈ wsAll, w.before ([.ref (ad 0), .int x1, .int x2] : List Value).toArray s = true := fun w h => hts w (List.mem_cons_of_mem _ h)
  have hl : lv_has ls 3 [(0, .ref (ad 0)), (1, .int x1), (2, .int x2)] := hl
  have hk := KG.refl hI
  refine lv_aload_n hx hb dX0_goThroughPlans_0 rfl (lv_at hl 0 rfl) ?_
  refine gc_go0 (va_runV (As := []) (rest := []) ⟨hx, hb, hml, hown, hts⟩ (m_X0_startWithEmptyPlan l hl9 D cI cJ ad sg0 _  hk.1) (cwV 0 hts (gwV a66 a67 a68 a18 a69) rfl rfl rfl (by decide +kernel) ⟨by decide, by decide⟩) (gc_preV0 hK hP hD hS hA hE rfl rfl rfl) rfl rfl hl.1 rfl (lv_room (Nat.le_of_ble_eq_true rfl)) dX0_goThroughPlans_1 ⟨by decide, by decide⟩) hD hS hA (fun v1 sg3 H locs hp4 hP hD hS => ?_)
  obtain ⟨hk1, rfl⟩ := hp4
  have hk := hk.trans hk1
  refine W.eq (g2 := F0 m 4 ls []) rfl ?_
  refine lv_aload_n hx hb dX0_goThroughPlans_4 rfl (lv_at hl 0 rfl) ?_
  refine lv_iload_n hx hb dX0_goThroughPlans_5 rfl (lv_at hl 2 rfl) ?_
  refine gc_go0 (va_runV (As := [.int x2]) (rest := []) ⟨hx, hb, hml, hown, hts⟩ (m_X0_takeOrders l hl9 D cI cJ ad sg3 _ x2 hk.1) (cwV 1 hts (gwV a70 a71 a72 a18 a73) rfl rfl rfl (by decide +kernel) ⟨by decide, by decide⟩) (gc_preV0 hK hP hD hS hA hE rfl rfl rfl) rfl rfl hl.1 rfl (lv_room (Nat.le_of_ble_eq_true rfl)) dX0_goThroughPlans_6 ⟨by decide, by decide⟩) hD hS hA (fun v7 sg9 H locs hp10 hP hD hS => ?_)
  obtain ⟨hk1, rfl⟩ := hp10
  have hk := hk.trans hk1
  refine W.eq (g2 := F0 m 9 ls []) rfl ?_
  refine lv_aload_n hx hb dX0_goThroughPlans_9 rfl (lv_at hl 0 rfl) ?_
  refine lv_iload_n hx hb dX0_goThroughPlans_10 rfl (lv_at hl 1 rfl) ?_
  refine gw_put (C := RX0) (T := TX0) (N := 15) (ty := .int) hx hb hts inwX0 tyX0 tyX0_ok nmX0 hown hK hP hD hS 0 9 rfl rfl rfl (by decide) (hts _ a44) (fun _ h9 => h9) rfl (by decide +kernel) rfl rfl dX0_goThroughPlans_11 (fun H locs hP hD hS => ?_)
  obtain ⟨sg13, esg13⟩ : ∃ z : Nat → Nat → Int32, z = gw_u sg9 0 (upd (sg9 0) 9 x1) := ⟨_, rfl⟩
  rw [← esg13] at hP hD
  have hk : KG 8 9 11 sg0 sg13 := by rw [esg13]; exact hk.wa 0 (by omega) (by omega) _
  refine lv_aload_n hx hb dX0_goThroughPlans_14 rfl (lv_at hl 0 rfl) ?_
  refine lv_iconst (v := (nI 0)) hx hb dX0_goThroughPlans_15 (by decide) ?_
  refine gw_put (C := RX0) (T := TX0) (N := 15) (ty := .int) hx hb hts inwX0 tyX0 tyX0_ok nmX0 hown hK hP hD hS 0 10 rfl rfl rfl (by decide) (hts _ a43) (fun _ h9 => h9) rfl (by decide +kernel) rfl rfl dX0_goThroughPlans_16 (fun H locs hP hD hS => ?_)
  obtain ⟨sg14, esg14⟩ : ∃ z : Nat → Nat → Int32, z = gw_u sg13 0 (upd (sg13 0) 10 (nI 0)) := ⟨_, rfl⟩
  rw [← esg14] at hP hD
  have hk : KG 8 9 11 sg0 sg14 := by rw [esg14]; exact hk.wa 0 (by omega) (by omega) _
  refine lv_aload_n hx hb dX0_goThroughPlans_19 rfl (lv_at hl 0 rfl) ?_
  refine lv_iconst (v := (nI 0)) hx hb dX0_goThroughPlans_20 (by decide) ?_
  refine gw_put (C := RX0) (T := TX0) (N := 15) (ty := .boolean) hx hb hts inwX0 tyX0 tyX0_ok nmX0 hown hK hP hD hS 0 11 rfl rfl rfl (by decide) (hts _ a49) (fun _ h9 => h9) rfl (by decide +kernel) rfl rfl dX0_goThroughPlans_21 (fun H locs hP hD hS => ?_)
  obtain ⟨sg15, esg15⟩ : ∃ z : Nat → Nat → Int32, z = gw_u sg14 0 (upd (sg14 0) 11 (nI 0)) := ⟨_, rfl⟩
  rw [← esg15] at hP hD
  have hk : KG 8 9 11 sg0 sg15 := by rw [esg15]; exact hk.wa 0 (by omega) (by omega) _
  refine lv_aload_n hx hb dX0_goThroughPlans_24 rfl (lv_at hl 0 rfl) ?_
  refine lv_iconst (v := (nI 0)) hx hb dX0_goThroughPlans_25 (by decide) ?_
  refine gw_put (C := RX0) (T := TX0) (N := 15) (ty := .boolean) hx hb hts inwX0 tyX0 tyX0_ok nmX0 hown hK hP hD hS 0 12 rfl rfl rfl (by decide) (hts _ a24) (fun _ h9 => h9) rfl (by decide +kernel) rfl rfl dX0_goThroughPlans_26 (fun H locs hP hD hS => ?_)
  obtain ⟨sg16, esg16⟩ : ∃ z : Nat → Nat → Int32, z = gw_u sg15 0 (upd (sg15 0) 12 (nI 0)) := ⟨_, rfl⟩
  rw [← esg16] at hP hD
  have hk : KG 8 9 11 sg0 sg16 := by rw [esg16]; exact hk.wa 0 (by omega) (by omega) _
  refine lv_aload_n hx hb dX0_goThroughPlans_29 rfl (lv_at hl 0 rfl) ?_
  refine lv_iconst (v := (nI 0)) hx hb dX0_goThroughPlans_30 (by decide) ?_
  refine gc_go0 (va_runV (As := [.int (nI 0)]) (rest := []) ⟨hx, hb, hml, hown, hts⟩ (m_X0_tell0 l hl9 D cI cJ ad sg16 _  hk.1) (cwV 1 hts (gwV a45 a46 a47 a18 a48) rfl rfl rfl (by decide +kernel) ⟨by decide, by decide⟩) (gc_preV0 hK hP hD hS hA hE rfl rfl rfl) rfl rfl hl.1 rfl (lv_room (Nat.le_of_ble_eq_true rfl)) dX0_goThroughPlans_31 ⟨by decide, by decide⟩) hD hS hA (fun v17 sg19 H locs hp20 hP hD hS => ?_)
  obtain ⟨hk1, rfl⟩ := hp20
  have hk := hk.trans hk1
  refine W.eq (g2 := F0 m 34 ls []) rfl ?_
  exact hret _ _ _ _ _ hP hS dX0_goThroughPlans_34 (⟨hk, rfl⟩)
end
section
abbrev rmX1_boundOfGain : Room := { frames := 0, cells := 0, slots := 0, locals := 0 }
set_option maxRecDepth 100000 in
set_option maxHeartbeats 4000000 in
theorem m_X1_boundOfGain (l : Launch) (hl9 : l.stackTraces = false) (D : va_G) (cI : ClassId) (cJ : ClassId × ClassId) (ad : Nat → Nat) (sg0 : Nat → Nat → Int32) (sz : Nat) (hI : IvG 0 9 3 sg0) : gc_M l yX1_boundOfGain wsX1_boundOfGain rmX1_boundOfGain D vwCl (tyS cI cJ) cI cJ gxT gxN SY [.ref (ad 0)] ad sg0 sz 0 0 (fun v sg2 => KG 0 9 3 sg0 sg2 ∧ ∃ r : Int32, v = some (.int r)) := by
  refine gc_Mi_of (cc := cX1_boundOfGain) (maxL := 3) (by decide) rfl (Nat.le_of_ble_eq_true rfl) ?_
  intro p e s m below meth c A ls Q hin hE hret
  obtain ⟨⟨hx, hb, hml, hown, hts⟩, -, hlocks, -, hA, hP, hK, hD, hS, hl⟩ := hin
  have hts : ∀ w ∈ wsAll, w.before ([.ref (ad 0)] : List Value).toArray s = true := fun w h => hts w (List.mem_cons_of_mem _ h)
  have hl : lv_has ls 3 [(0, .ref (ad 0))] := hl
  have hk := KG.refl hI
  have c4 : ∀ (n9 : Nat) (i : Nat) (x1 : Int32) (sg : Nat → Nat → Int32) (H : Heap) (locs : List Loc) (ls : Array Slot), 4 - i = n9 → i ≤ 4 → KG 0 9 3 sg0 sg → va_P D vwCl (gw cI cJ ad sg SY) H → va_D A (gw cI cJ ad sg SY) → va_S A s.heap H locs → lv_has ls 3 [(2, .int (nI i)), (1, .int x1), (0, .ref (ad 0))] → W p l e rmX1_boundOfGain s m ([.ref (ad 0)] : List Value).toArray below meth c H locs 0 0 Q (F0 m 4 ls []) := by
    intro n9
    induction n9 using Nat.strongRecOn with
    | ind n9 ih =>
    intro i x1 sg H locs ls hn h1 hk hP hD hS hl
    subst hn
    refine lv_iload_n hx hb dX1_boundOfGain_4 rfl (lv_at hl 0 rfl) ?_
    refine lv_iconst (v := (nI 4)) hx hb dX1_boundOfGain_5 (by decide) ?_
    refine lv_icmp_ge (tgt := 31) hx hb dX1_boundOfGain_6 (by decide) (fun hc1 => ?_) (fun hc1 => ?_)
    · have hc1 : 4 ≤ i := (nI_leI (a := 4) (b := i) (by omega) (by omega)).mp hc1
      refine lv_iload_n hx hb dX1_boundOfGain_31 rfl (lv_at hl 1 rfl) ?_
      exact hret _ _ _ _ _ _ hP hS dX1_boundOfGain_32 (⟨hk, _, rfl⟩)
    · have hc1 : ¬ (4 ≤ i) := fun q => hc1 ((nI_leI (a := 4) (b := i) (by omega) (by omega)).mpr q)
      refine lv_iload_n hx hb dX1_boundOfGain_9 rfl (lv_at hl 1 rfl) ?_
      refine lv_aload_n hx hb dX1_boundOfGain_10 rfl (lv_at hl 2 rfl) ?_
      refine gw_getr (C := RX1) (T := TX1) (N := 12) hx hb hts inwX1 hown hK hP 0 7 8 rfl rfl rfl (by decide) (hts _ a74) (fun _ h9 => h9) dX1_boundOfGain_11 ?_
      refine lv_iload_n hx hb dX1_boundOfGain_14 rfl (lv_at hl 0 rfl) ?_
      refine gw_ald hx hb hK hP 8 0 (n := 4) rfl rfl (i := i) (by omega) (by decide) dX1_boundOfGain_15 ?_
      refine lv_topi (fun v2 hv2 => ?_)
      refine lv_aload_n hx hb dX1_boundOfGain_16 rfl (lv_at hl 2 rfl) ?_
      refine gw_getr (C := RX1) (T := TX1) (N := 12) hx hb hts inwX1 hown hK hP 0 6 7 rfl rfl rfl (by decide) (hts _ a75) (fun _ h9 => h9) dX1_boundOfGain_17 ?_
      refine lv_iload_n hx hb dX1_boundOfGain_20 rfl (lv_at hl 0 rfl) ?_
      refine gw_ald hx hb hK hP 7 0 (n := 4) rfl rfl (i := i) (by omega) (by decide) dX1_boundOfGain_21 ?_
      refine lv_topi (fun v3 hv3 => ?_)
      refine lv_imul hx hb dX1_boundOfGain_22 ?_
      refine lv_topi (fun v4 hv4 => ?_)
      refine lv_iadd hx hb dX1_boundOfGain_23 ?_
      refine lv_topi (fun v5 hv5 => ?_)
      refine lv_istore_n (lv' := [(1, .int v5), (2, .int (nI i)), (0, .ref (ad 0))]) hx hb dX1_boundOfGain_24 rfl hl (by decide) rfl (fun ls hl => ?_)
      refine lv_iinc (k := 1) (v := (nI (i + 1))) (lv' := [(2, .int (nI (i + 1))), (1, .int v5), (0, .ref (ad 0))]) hx hb dX1_boundOfGain_25 hl rfl (nI_1 _) (by decide) rfl (fun ls hl => ?_)
      refine lv_goto (tgt := 4) hx hb dX1_boundOfGain_28 (by decide) ?_
      exact ih _ (by omega) (i + 1) v5 _ _ _ _ rfl (by omega) hk hP hD hS (lv_sub hl [0, 1, 2] rfl)
  refine lv_iconst (v := (nI 0)) hx hb dX1_boundOfGain_0 (by decide) ?_
  refine lv_istore_n (lv' := [(1, .int (nI 0)), (0, .ref (ad 0))]) hx hb dX1_boundOfGain_1 rfl hl (by decide) rfl (fun ls hl => ?_)
  refine lv_iconst (v := (nI 0)) hx hb dX1_boundOfGain_2 (by decide) ?_
  refine lv_istore_n (lv' := [(2, .int (nI 0)), (1, .int (nI 0)), (0, .ref (ad 0))]) hx hb dX1_boundOfGain_3 rfl hl (by decide) rfl (fun ls hl => ?_)
  exact c4 _ 0 (nI 0) _ _ _ _ rfl (by omega) hk hP hD hS (lv_sub hl [0, 1, 2] rfl)
abbrev rmX1_patternsUsedIn : Room := { frames := 0, cells := 0, slots := 0, locals := 0 }
set_option maxRecDepth 100000 in
set_option maxHeartbeats 4000000 in
theorem m_X1_patternsUsedIn (l : Launch) (hl9 : l.stackTraces = false) (D : va_G) (cI : ClassId) (cJ : ClassId × ClassId) (ad : Nat → Nat) (sg0 : Nat → Nat → Int32) (sz : Nat) (hI : IvG 0 9 3 sg0) : gc_M l yX1_patternsUsedIn wsX1_patternsUsedIn rmX1_patternsUsedIn D vwCl (tyS cI cJ) cI cJ gxT gxN SY [.ref (ad 0), .ref (ad 16)] ad sg0 sz 0 0 (fun v sg2 => KG 0 9 3 sg0 sg2 ∧ ∃ r : Int32, v = some (.int r)) := by
  refine gc_Mi_of (cc := cX1_patternsUsedIn) (maxL := 4) (by decide) rfl (Nat.le_of_ble_eq_true rfl) ?_
  intro p e s m below meth c A ls Q hin hE hret
  obtain ⟨⟨hx, hb, hml, hown, hts⟩, -, hlocks, -, hA, hP, hK, hD, hS, hl⟩ := hin
  have hts : ∀ w ∈ wsAll, w.before ([.ref (ad 0), .ref (ad 16)] : List Value).toArray s = true := fun w h => hts w (List.mem_cons_of_mem _ h)
  have hl : lv_has ls 4 [(0, .ref (ad 0)), (1, .ref (ad 16))] := hl
  have hk := KG.refl hI
  have c4 : ∀ (n9 : Nat) (i : Nat) (x2 : Int32) (sg : Nat → Nat → Int32) (H : Heap) (locs : List Loc) (ls : Array Slot), 6 - i = n9 → i ≤ 6 → KG 0 9 3 sg0 sg → va_P D vwCl (gw cI cJ ad sg SY) H → va_D A (gw cI cJ ad sg SY) → va_S A s.heap H locs → lv_has ls 4 [(3, .int (nI i)), (2, .int x2), (0, .ref (ad 0)), (1, .ref (ad 16))] → W p l e rmX1_patternsUsedIn s m ([.ref (ad 0), .ref (ad 16)] : List Value).toArray below meth c H locs 0 0 Q (F0 m 4 ls []) := by
    intro n9
    induction n9 using Nat.strongRecOn with
    | ind n9 ih =>
    intro i x2 sg H locs ls hn h1 hk hP hD hS hl
    subst hn
    refine lv_iload_n hx hb dX1_patternsUsedIn_4 rfl (lv_at hl 0 rfl) ?_
    refine lv_aload_n hx hb dX1_patternsUsedIn_5 rfl (lv_at hl 2 rfl) ?_
    refine gw_geti (C := RX1) (T := TX1) (N := 12) hx hb hts inwX1 hown hK hP 0 9 rfl rfl rfl (by decide) (hts _ a76) (fun _ h9 => h9) dX1_patternsUsedIn_6 ?_
    obtain ⟨N1, hN1, eN1⟩ := hk.1.1
    refine gw_top (y := (nI N1)) (eN1) ?_
    refine lv_icmp_ge (tgt := 27) hx hb dX1_patternsUsedIn_9 (by decide) (fun hc2 => ?_) (fun hc2 => ?_)
    · have hc2 : N1 ≤ i := (nI_leI (a := N1) (b := i) (by omega) (by omega)).mp hc2
      refine lv_iload_n hx hb dX1_patternsUsedIn_27 rfl (lv_at hl 1 rfl) ?_
      exact hret _ _ _ _ _ _ hP hS dX1_patternsUsedIn_28 (⟨hk, _, rfl⟩)
    · have hc2 : ¬ (N1 ≤ i) := fun q => hc2 ((nI_leI (a := N1) (b := i) (by omega) (by omega)).mpr q)
      refine lv_aload_n hx hb dX1_patternsUsedIn_12 rfl (lv_at hl 3 rfl) ?_
      refine lv_iload_n hx hb dX1_patternsUsedIn_13 rfl (lv_at hl 0 rfl) ?_
      refine gw_ald hx hb hK hP 16 0 (n := 6) rfl rfl (i := i) (by omega) (by decide) dX1_patternsUsedIn_14 ?_
      refine lv_topi (fun v3 hv3 => ?_)
      refine lv_if_le (tgt := 21) hx hb dX1_patternsUsedIn_15 (by decide) (fun hc4 => ?_) (fun hc4 => ?_)
      · refine lv_iinc (k := 0) (v := (nI (i + 1))) (lv' := [(3, .int (nI (i + 1))), (2, .int x2), (0, .ref (ad 0)), (1, .ref (ad 16))]) hx hb dX1_patternsUsedIn_21 hl rfl (nI_1 _) (by decide) rfl (fun ls hl => ?_)
        refine lv_goto (tgt := 4) hx hb dX1_patternsUsedIn_24 (by decide) ?_
        exact ih _ (by omega) (i + 1) x2 _ _ _ _ rfl (by omega) hk hP hD hS (lv_sub hl [0, 1, 2, 3] rfl)
      · refine lv_iinc (k := 1) (v := (x2 + 1)) (lv' := [(2, .int (x2 + 1)), (3, .int (nI i)), (0, .ref (ad 0)), (1, .ref (ad 16))]) hx hb dX1_patternsUsedIn_18 hl rfl rfl (by decide) rfl (fun ls hl => ?_)
        refine lv_iinc (k := 1) (v := (nI (i + 1))) (lv' := [(3, .int (nI (i + 1))), (2, .int (x2 + 1)), (0, .ref (ad 0)), (1, .ref (ad 16))]) hx hb dX1_patternsUsedIn_21 hl rfl (nI_1 _) (by decide) rfl (fun ls hl => ?_)
        refine lv_goto (tgt := 4) hx hb dX1_patternsUsedIn_24 (by decide) ?_
        exact ih _ (by omega) (i + 1) (x2 + 1) _ _ _ _ rfl (by omega) hk hP hD hS (lv_sub hl [0, 1, 2, 3] rfl)
  refine lv_iconst (v := (nI 0)) hx hb dX1_patternsUsedIn_0 (by decide) ?_
  refine lv_istore_n (lv' := [(2, .int (nI 0)), (0, .ref (ad 0)), (1, .ref (ad 16))]) hx hb dX1_patternsUsedIn_1 rfl hl (by decide) rfl (fun ls hl => ?_)
  refine lv_iconst (v := (nI 0)) hx hb dX1_patternsUsedIn_2 (by decide) ?_
  refine lv_istore_n (lv' := [(3, .int (nI 0)), (2, .int (nI 0)), (0, .ref (ad 0)), (1, .ref (ad 16))]) hx hb dX1_patternsUsedIn_3 rfl hl (by decide) rfl (fun ls hl => ?_)
  exact c4 _ 0 (nI 0) _ _ _ _ rfl (by omega) hk hP hD hS (lv_sub hl [0, 1, 2, 3] rfl)
abbrev rmX1_minutesOf : Room := { frames := 1, cells := 0, slots := 0, locals := 23 }
set_option maxRecDepth 100000 in
set_option maxHeartbeats 4000000 in
theorem m_X1_minutesOf (l : Launch) (hl9 : l.stackTraces = false) (D : va_G) (cI : ClassId) (cJ : ClassId × ClassId) (ad : Nat → Nat) (sg0 : Nat → Nat → Int32) (sz : Nat) (hI : IvG 0 9 3 sg0) : gc_M l yX1_minutesOf wsX1_minutesOf rmX1_minutesOf D vwCl (tyS cI cJ) cI cJ gxT gxN SY [.ref (ad 0), .ref (ad 16)] ad sg0 sz 0 0 (fun v sg2 => KG 0 9 3 sg0 sg2 ∧ ∃ r : Int32, v = some (.int r)) := by
  refine gc_Mi_of (cc := cX1_minutesOf) (maxL := 4) (by decide) rfl (Nat.le_of_ble_eq_true rfl) ?_
  intro p e s m below meth c A ls Q hin hE hret
  obtain ⟨⟨hx, hb, hml, hown, hts⟩, -, hlocks, -, hA, hP, hK, hD, hS, hl⟩ := hin
  have hts : ∀ w ∈ wsAll, w.before ([.ref (ad 0), .ref (ad 16)] : List Value).toArray s = true := fun w h => hts w (List.mem_cons_of_mem _ h)
  have hl : lv_has ls 4 [(0, .ref (ad 0)), (1, .ref (ad 16))] := hl
  have hk := KG.refl hI
  have c4 : ∀ (n9 : Nat) (i : Nat) (x2 : Int32) (sg : Nat → Nat → Int32) (H : Heap) (locs : List Loc) (ls : Array Slot), 6 - i = n9 → i ≤ 6 → KG 0 9 3 sg0 sg → va_P D vwCl (gw cI cJ ad sg SY) H → va_D A (gw cI cJ ad sg SY) → va_S A s.heap H locs → lv_has ls 4 [(3, .int (nI i)), (2, .int x2), (0, .ref (ad 0)), (1, .ref (ad 16))] → W p l e rmX1_minutesOf s m ([.ref (ad 0), .ref (ad 16)] : List Value).toArray below meth c H locs 0 0 Q (F0 m 4 ls []) := by
    intro n9
    induction n9 using Nat.strongRecOn with
    | ind n9 ih =>
    intro i x2 sg H locs ls hn h1 hk hP hD hS hl
    subst hn
    refine lv_iload_n hx hb dX1_minutesOf_4 rfl (lv_at hl 0 rfl) ?_
    refine lv_aload_n hx hb dX1_minutesOf_5 rfl (lv_at hl 2 rfl) ?_
    refine gw_geti (C := RX1) (T := TX1) (N := 12) hx hb hts inwX1 hown hK hP 0 9 rfl rfl rfl (by decide) (hts _ a76) (fun _ h9 => h9) dX1_minutesOf_6 ?_
    obtain ⟨N1, hN1, eN1⟩ := hk.1.1
    refine gw_top (y := (nI N1)) (eN1) ?_
    refine lv_icmp_ge (tgt := 31) hx hb dX1_minutesOf_9 (by decide) (fun hc2 => ?_) (fun hc2 => ?_)
    · have hc2 : N1 ≤ i := (nI_leI (a := N1) (b := i) (by omega) (by omega)).mp hc2
      refine lv_iload_n hx hb dX1_minutesOf_31 rfl (lv_at hl 1 rfl) ?_
      refine lv_aload_n hx hb dX1_minutesOf_32 rfl (lv_at hl 2 rfl) ?_
      refine lv_aload_n hx hb dX1_minutesOf_33 rfl (lv_at hl 3 rfl) ?_
      refine gc_go0 (va_runV (As := [.ref (ad 16)]) (rest := [.int x2]) ⟨hx, hb, hml, hown, hts⟩ (m_X1_patternsUsedIn l hl9 D cI cJ ad sg _  hk.1) (cwV 1 hts (gwV a77 a78 a79 a80 a81) rfl rfl rfl (by decide +kernel) ⟨by decide, by decide⟩) (gc_preV0 hK hP hD hS hA hE rfl rfl rfl) rfl rfl hl.1 rfl (lv_room (Nat.le_of_ble_eq_true rfl)) dX1_minutesOf_34 ⟨by decide, by decide⟩) hD hS hA (fun v3 sg5 H locs hp6 hP hD hS => ?_)
      obtain ⟨hk1, r9, rfl⟩ := hp6
      have hk := hk.trans hk1
      refine W.eq (g2 := F0 m 37 ls [.int r9, .int x2]) rfl ?_
      refine lv_aload_n hx hb dX1_minutesOf_37 rfl (lv_at hl 2 rfl) ?_
      refine gw_geti (C := RX1) (T := TX1) (N := 12) hx hb hts inwX1 hown hK hP 0 11 rfl rfl rfl (by decide) (hts _ a82) (fun _ h9 => h9) dX1_minutesOf_38 ?_
      refine lv_topi (fun v10 hv10 => ?_)
      refine lv_imul hx hb dX1_minutesOf_41 ?_
      refine lv_topi (fun v11 hv11 => ?_)
      refine lv_iadd hx hb dX1_minutesOf_42 ?_
      refine lv_topi (fun v12 hv12 => ?_)
      exact hret _ _ _ _ _ _ hP hS dX1_minutesOf_43 (⟨hk, _, rfl⟩)
    · have hc2 : ¬ (N1 ≤ i) := fun q => hc2 ((nI_leI (a := N1) (b := i) (by omega) (by omega)).mpr q)
      refine lv_iload_n hx hb dX1_minutesOf_12 rfl (lv_at hl 1 rfl) ?_
      refine lv_aload_n hx hb dX1_minutesOf_13 rfl (lv_at hl 3 rfl) ?_
      refine lv_iload_n hx hb dX1_minutesOf_14 rfl (lv_at hl 0 rfl) ?_
      refine gw_ald hx hb hK hP 16 0 (n := 6) rfl rfl (i := i) (by omega) (by decide) dX1_minutesOf_15 ?_
      refine lv_topi (fun v13 hv13 => ?_)
      refine lv_aload_n hx hb dX1_minutesOf_16 rfl (lv_at hl 2 rfl) ?_
      refine gw_getr (C := RX1) (T := TX1) (N := 12) hx hb hts inwX1 hown hK hP 0 3 4 rfl rfl rfl (by decide) (hts _ a83) (fun _ h9 => h9) dX1_minutesOf_17 ?_
      refine lv_iload_n hx hb dX1_minutesOf_20 rfl (lv_at hl 0 rfl) ?_
      refine gw_ald hx hb hK hP 4 0 (n := 6) rfl rfl (i := i) (by omega) (by decide) dX1_minutesOf_21 ?_
      refine lv_topi (fun v14 hv14 => ?_)
      refine lv_imul hx hb dX1_minutesOf_22 ?_
      refine lv_topi (fun v15 hv15 => ?_)
      refine lv_iadd hx hb dX1_minutesOf_23 ?_
      refine lv_topi (fun v16 hv16 => ?_)
      refine lv_istore_n (lv' := [(2, .int v16), (3, .int (nI i)), (0, .ref (ad 0)), (1, .ref (ad 16))]) hx hb dX1_minutesOf_24 rfl hl (by decide) rfl (fun ls hl => ?_)
      refine lv_iinc (k := 1) (v := (nI (i + 1))) (lv' := [(3, .int (nI (i + 1))), (2, .int v16), (0, .ref (ad 0)), (1, .ref (ad 16))]) hx hb dX1_minutesOf_25 hl rfl (nI_1 _) (by decide) rfl (fun ls hl => ?_)
      refine lv_goto (tgt := 4) hx hb dX1_minutesOf_28 (by decide) ?_
      exact ih _ (by omega) (i + 1) v16 _ _ _ _ rfl (by omega) hk hP hD hS (lv_sub hl [0, 1, 2, 3] rfl)
  refine lv_iconst (v := (nI 0)) hx hb dX1_minutesOf_0 (by decide) ?_
  refine lv_istore_n (lv' := [(2, .int (nI 0)), (0, .ref (ad 0)), (1, .ref (ad 16))]) hx hb dX1_minutesOf_1 rfl hl (by decide) rfl (fun ls hl => ?_)
  refine lv_iconst (v := (nI 0)) hx hb dX1_minutesOf_2 (by decide) ?_
  refine lv_istore_n (lv' := [(3, .int (nI 0)), (2, .int (nI 0)), (0, .ref (ad 0)), (1, .ref (ad 16))]) hx hb dX1_minutesOf_3 rfl hl (by decide) rfl (fun ls hl => ?_)
  exact c4 _ 0 (nI 0) _ _ _ _ rfl (by omega) hk hP hD hS (lv_sub hl [0, 1, 2, 3] rfl)
abbrev rmX1_madeBy : Room := { frames := 0, cells := 0, slots := 0, locals := 0 }
set_option maxRecDepth 100000 in
set_option maxHeartbeats 4000000 in
theorem m_X1_madeBy (l : Launch) (hl9 : l.stackTraces = false) (D : va_G) (cI : ClassId) (cJ : ClassId × ClassId) (ad : Nat → Nat) (sg0 : Nat → Nat → Int32) (sz : Nat) (pr : Nat) (hpr : pr < 4) (hI : IvG 0 9 3 sg0) : gc_M l yX1_madeBy wsX1_madeBy rmX1_madeBy D vwCl (tyS cI cJ) cI cJ gxT gxN SY [.ref (ad 0), .ref (ad 16), .int (nI pr)] ad sg0 sz 0 0 (fun v sg2 => KG 0 9 3 sg0 sg2 ∧ ∃ r : Int32, v = some (.int r)) := by
  refine gc_Mi_of (cc := cX1_madeBy) (maxL := 5) (by decide) rfl (Nat.le_of_ble_eq_true rfl) ?_
  intro p e s m below meth c A ls Q hin hE hret
  obtain ⟨⟨hx, hb, hml, hown, hts⟩, -, hlocks, -, hA, hP, hK, hD, hS, hl⟩ := hin
  have hts : ∀ w ∈ wsAll, w.before ([.ref (ad 0), .ref (ad 16), .int (nI pr)] : List Value).toArray s = true := fun w h => hts w (List.mem_cons_of_mem _ h)
  have hl : lv_has ls 5 [(0, .ref (ad 0)), (1, .ref (ad 16)), (2, .int (nI pr))] := hl
  have hk := KG.refl hI
  have c10 : ∀ (n9 : Nat) (i : Nat) (x3 : Int32) (sg : Nat → Nat → Int32) (H : Heap) (locs : List Loc) (ls : Array Slot), 6 - i = n9 → i ≤ 6 → KG 0 9 3 sg0 sg → va_P D vwCl (gw cI cJ ad sg SY) H → va_D A (gw cI cJ ad sg SY) → va_S A s.heap H locs → lv_has ls 5 [(4, .int (nI i)), (3, .int x3), (0, .ref (ad 0)), (1, .ref (ad 16)), (2, .int (nI pr))] → W p l e rmX1_madeBy s m ([.ref (ad 0), .ref (ad 16), .int (nI pr)] : List Value).toArray below meth c H locs 0 0 Q (F0 m 10 ls []) := by
    intro n9
    induction n9 using Nat.strongRecOn with
    | ind n9 ih =>
    intro i x3 sg H locs ls hn h1 hk hP hD hS hl
    subst hn
    refine lv_iload hx hb dX1_madeBy_10 (lv_at hl 0 rfl) ?_
    refine lv_aload_n hx hb dX1_madeBy_12 rfl (lv_at hl 2 rfl) ?_
    refine gw_geti (C := RX1) (T := TX1) (N := 12) hx hb hts inwX1 hown hK hP 0 9 rfl rfl rfl (by decide) (hts _ a76) (fun _ h9 => h9) dX1_madeBy_13 ?_
    obtain ⟨N1, hN1, eN1⟩ := hk.1.1
    refine gw_top (y := (nI N1)) (eN1) ?_
    refine lv_icmp_ge (tgt := 42) hx hb dX1_madeBy_16 (by decide) (fun hc2 => ?_) (fun hc2 => ?_)
    · have hc2 : N1 ≤ i := (nI_leI (a := N1) (b := i) (by omega) (by omega)).mp hc2
      refine lv_iload_n hx hb dX1_madeBy_42 rfl (lv_at hl 1 rfl) ?_
      exact hret _ _ _ _ _ _ hP hS dX1_madeBy_43 (⟨hk, _, rfl⟩)
    · have hc2 : ¬ (N1 ≤ i) := fun q => hc2 ((nI_leI (a := N1) (b := i) (by omega) (by omega)).mpr q)
      refine lv_iload_n hx hb dX1_madeBy_19 rfl (lv_at hl 1 rfl) ?_
      refine lv_aload_n hx hb dX1_madeBy_20 rfl (lv_at hl 3 rfl) ?_
      refine lv_iload hx hb dX1_madeBy_21 (lv_at hl 0 rfl) ?_
      refine gw_ald hx hb hK hP 16 0 (n := 6) rfl rfl (i := i) (by omega) (by decide) dX1_madeBy_23 ?_
      refine lv_topi (fun v3 hv3 => ?_)
      refine lv_aload_n hx hb dX1_madeBy_24 rfl (lv_at hl 2 rfl) ?_
      refine gw_getr (C := RX1) (T := TX1) (N := 12) hx hb hts inwX1 hown hK hP 0 4 5 rfl rfl rfl (by decide) (hts _ a84) (fun _ h9 => h9) dX1_madeBy_25 ?_
      refine lv_iload hx hb dX1_madeBy_28 (lv_at hl 0 rfl) ?_
      refine gw_aald hx hb hK hP 5 1 (n := 6) (b := 10) rfl rfl rfl (i := i) (by omega) (by decide) dX1_madeBy_30 ?_
      refine lv_iload_n hx hb dX1_madeBy_31 rfl (lv_at hl 4 rfl) ?_
      refine gw_ald hx hb hK hP (10 + i) 0 (n := 4) (rowSY _ (by omega)) rfl (i := pr) (by omega) (by decide) dX1_madeBy_32 ?_
      refine lv_topi (fun v4 hv4 => ?_)
      refine lv_imul hx hb dX1_madeBy_33 ?_
      refine lv_topi (fun v5 hv5 => ?_)
      refine lv_iadd hx hb dX1_madeBy_34 ?_
      refine lv_topi (fun v6 hv6 => ?_)
      refine lv_istore_n (lv' := [(3, .int v6), (4, .int (nI i)), (0, .ref (ad 0)), (1, .ref (ad 16)), (2, .int (nI pr))]) hx hb dX1_madeBy_35 rfl hl (by decide) rfl (fun ls hl => ?_)
      refine lv_iinc (k := 1) (v := (nI (i + 1))) (lv' := [(4, .int (nI (i + 1))), (3, .int v6), (0, .ref (ad 0)), (1, .ref (ad 16)), (2, .int (nI pr))]) hx hb dX1_madeBy_36 hl rfl (nI_1 _) (by decide) rfl (fun ls hl => ?_)
      refine lv_goto (tgt := 10) hx hb dX1_madeBy_39 (by decide) ?_
      exact ih _ (by omega) (i + 1) v6 _ _ _ _ rfl (by omega) hk hP hD hS (lv_sub hl [0, 1, 2, 3, 4] rfl)
  refine lv_aload_n hx hb dX1_madeBy_0 rfl (lv_at hl 0 rfl) ?_
  refine gw_getr (C := RX1) (T := TX1) (N := 12) hx hb hts inwX1 hown hK hP 0 8 9 rfl rfl rfl (by decide) (hts _ a85) (fun _ h9 => h9) dX1_madeBy_1 ?_
  refine lv_iload_n hx hb dX1_madeBy_4 rfl (lv_at hl 2 rfl) ?_
  refine gw_ald hx hb hK hP 9 0 (n := 4) rfl rfl (i := pr) (by omega) (by decide) dX1_madeBy_5 ?_
  refine lv_topi (fun v7 hv7 => ?_)
  refine lv_istore_n (lv' := [(3, .int v7), (0, .ref (ad 0)), (1, .ref (ad 16)), (2, .int (nI pr))]) hx hb dX1_madeBy_6 rfl hl (by decide) rfl (fun ls hl => ?_)
  refine lv_iconst (v := (nI 0)) hx hb dX1_madeBy_7 (by decide) ?_
  refine lv_istore (lv' := [(4, .int (nI 0)), (3, .int v7), (0, .ref (ad 0)), (1, .ref (ad 16)), (2, .int (nI pr))]) hx hb dX1_madeBy_8 hl (by decide) rfl (fun ls hl => ?_)
  exact c10 _ 0 v7 _ _ _ _ rfl (by omega) hk hP hD hS (lv_sub hl [0, 1, 2, 3, 4] rfl)
abbrev rmX1_doPlan : Room := { frames := 1, cells := 0, slots := 0, locals := 24 }
set_option maxRecDepth 100000 in
set_option maxHeartbeats 4000000 in
theorem m_X1_doPlan (l : Launch) (hl9 : l.stackTraces = false) (D : va_G) (cI : ClassId) (cJ : ClassId × ClassId) (ad : Nat → Nat) (sg0 : Nat → Nat → Int32) (sz : Nat) (hI : IvG 0 9 3 sg0) : gc_M l yX1_doPlan wsX1_doPlan rmX1_doPlan D vwCl (tyS cI cJ) cI cJ gxT gxN SY [.ref (ad 0), .ref (ad 16)] ad sg0 sz 0 0 (fun v sg2 => KG 0 9 3 sg0 sg2 ∧ v = none) := by
  refine gc_Mv_of (cc := cX1_doPlan) (maxL := 4) (by decide) rfl (Nat.le_of_ble_eq_true rfl) ?_
  intro p e s m below meth c A ls Q hin hE hret
  obtain ⟨⟨hx, hb, hml, hown, hts⟩, -, hlocks, -, hA, hP, hK, hD, hS, hl⟩ := hin
  have hts : ∀ w ∈ wsAll, w.before ([.ref (ad 0), .ref (ad 16)] : List Value).toArray s = true := fun w h => hts w (List.mem_cons_of_mem _ h)
  have hl : lv_has ls 4 [(0, .ref (ad 0)), (1, .ref (ad 16))] := hl
  have hk := KG.refl hI
  have c40 : ∀ (n9 : Nat) (i : Nat) (sg : Nat → Nat → Int32) (H : Heap) (locs : List Loc) (ls : Array Slot), 6 - i = n9 → i ≤ 6 → KG 0 9 3 sg0 sg → va_P D vwCl (gw cI cJ ad sg SY) H → va_D A (gw cI cJ ad sg SY) → va_S A s.heap H locs → lv_has ls 4 [(2, .int (nI i)), (0, .ref (ad 0)), (1, .ref (ad 16))] → W p l e rmX1_doPlan s m ([.ref (ad 0), .ref (ad 16)] : List Value).toArray below meth c H locs 0 0 Q (F0 m 40 ls []) := by
    intro n9
    induction n9 using Nat.strongRecOn with
    | ind n9 ih =>
    intro i sg H locs ls hn h1 hk hP hD hS hl
    subst hn
    refine lv_iload_n hx hb dX1_doPlan_40 rfl (lv_at hl 0 rfl) ?_
    refine lv_aload_n hx hb dX1_doPlan_41 rfl (lv_at hl 1 rfl) ?_
    refine gw_geti (C := RX1) (T := TX1) (N := 12) hx hb hts inwX1 hown hK hP 0 9 rfl rfl rfl (by decide) (hts _ a76) (fun _ h9 => h9) dX1_doPlan_42 ?_
    obtain ⟨N1, hN1, eN1⟩ := hk.1.1
    refine gw_top (y := (nI N1)) (eN1) ?_
    refine lv_icmp_ge (tgt := 71) hx hb dX1_doPlan_45 (by decide) (fun hc2 => ?_) (fun hc2 => ?_)
    · have hc2 : N1 ≤ i := (nI_leI (a := N1) (b := i) (by omega) (by omega)).mp hc2
      exact hret _ _ _ _ _ hP hS dX1_doPlan_71 (⟨hk, rfl⟩)
    · have hc2 : ¬ (N1 ≤ i) := fun q => hc2 ((nI_leI (a := N1) (b := i) (by omega) (by omega)).mpr q)
      refine lv_aload_n hx hb dX1_doPlan_48 rfl (lv_at hl 1 rfl) ?_
      refine gw_getr (C := RX1) (T := TX1) (N := 12) hx hb hts inwX1 hown hK hP 0 0 1 rfl rfl rfl (by decide) (hts _ a86) (fun _ h9 => h9) dX1_doPlan_49 ?_
      refine lv_aload_n hx hb dX1_doPlan_52 rfl (lv_at hl 1 rfl) ?_
      refine gw_getr (C := RX1) (T := TX1) (N := 12) hx hb hts inwX1 hown hK hP 0 2 3 rfl rfl rfl (by decide) (hts _ a87) (fun _ h9 => h9) dX1_doPlan_53 ?_
      refine lv_iload_n hx hb dX1_doPlan_56 rfl (lv_at hl 0 rfl) ?_
      refine gw_ald hx hb hK hP 3 0 (n := 6) rfl rfl (i := i) (by omega) (by decide) dX1_doPlan_57 ?_
      obtain ⟨cf3, hcf3, ecf3⟩ := hk.1.2 i (by omega)
      refine gw_top (y := (nI cf3)) (ecf3) ?_
      refine lv_dup2_11 hx hb dX1_doPlan_58 rfl rfl ?_
      refine gw_ald hx hb hK hP 1 0 (n := 4) rfl rfl (i := cf3) (by omega) (by decide) dX1_doPlan_59 ?_
      refine lv_topi (fun v4 hv4 => ?_)
      refine lv_aload_n hx hb dX1_doPlan_60 rfl (lv_at hl 2 rfl) ?_
      refine lv_iload_n hx hb dX1_doPlan_61 rfl (lv_at hl 0 rfl) ?_
      refine gw_ald hx hb hK hP 16 0 (n := 6) rfl rfl (i := i) (by omega) (by decide) dX1_doPlan_62 ?_
      refine lv_topi (fun v5 hv5 => ?_)
      refine lv_isub hx hb dX1_doPlan_63 ?_
      refine lv_topi (fun v6 hv6 => ?_)
      refine gw_ast hx hb hK hP hD hS 1 0 (n := 4) rfl rfl (i := cf3) (by omega) (by decide) dX1_doPlan_64 (fun H locs hP hD hS => ?_)
      obtain ⟨sg7, esg7⟩ : ∃ z : Nat → Nat → Int32, z = gw_u sg 1 (upd (sg 1) cf3 v6) := ⟨_, rfl⟩
      rw [← esg7] at hP hD
      have hk : KG 0 9 3 sg0 sg7 := by rw [esg7]; exact hk.wa 1 (by omega) (by omega) _
      refine lv_iinc (k := 0) (v := (nI (i + 1))) (lv' := [(2, .int (nI (i + 1))), (0, .ref (ad 0)), (1, .ref (ad 16))]) hx hb dX1_doPlan_65 hl rfl (nI_1 _) (by decide) rfl (fun ls hl => ?_)
      refine lv_goto (tgt := 40) hx hb dX1_doPlan_68 (by decide) ?_
      exact ih _ (by omega) (i + 1) _ _ _ _ rfl (by omega) hk hP hD hS (lv_sub hl [0, 1, 2] rfl)
  have c2 : ∀ (n9 : Nat) (i : Nat) (sg : Nat → Nat → Int32) (H : Heap) (locs : List Loc) (ls : Array Slot), 4 - i = n9 → i ≤ 4 → KG 0 9 3 sg0 sg → va_P D vwCl (gw cI cJ ad sg SY) H → va_D A (gw cI cJ ad sg SY) → va_S A s.heap H locs → lv_has ls 4 [(2, .int (nI i)), (0, .ref (ad 0)), (1, .ref (ad 16))] → W p l e rmX1_doPlan s m ([.ref (ad 0), .ref (ad 16)] : List Value).toArray below meth c H locs 0 0 Q (F0 m 2 ls []) := by
    intro n9
    induction n9 using Nat.strongRecOn with
    | ind n9 ih =>
    intro i sg H locs ls hn h1 hk hP hD hS hl
    subst hn
    refine lv_iload_n hx hb dX1_doPlan_2 rfl (lv_at hl 0 rfl) ?_
    refine lv_iconst (v := (nI 4)) hx hb dX1_doPlan_3 (by decide) ?_
    refine lv_icmp_ge (tgt := 38) hx hb dX1_doPlan_4 (by decide) (fun hc8 => ?_) (fun hc8 => ?_)
    · have hc8 : 4 ≤ i := (nI_leI (a := 4) (b := i) (by omega) (by omega)).mp hc8
      refine lv_iconst (v := (nI 0)) hx hb dX1_doPlan_38 (by decide) ?_
      refine lv_istore_n (lv' := [(2, .int (nI 0)), (0, .ref (ad 0)), (1, .ref (ad 16))]) hx hb dX1_doPlan_39 rfl hl (by decide) rfl (fun ls hl => ?_)
      exact c40 _ 0 _ _ _ _ rfl (by omega) hk hP hD hS (lv_sub hl [0, 1, 2] rfl)
    · have hc8 : ¬ (4 ≤ i) := fun q => hc8 ((nI_leI (a := 4) (b := i) (by omega) (by omega)).mpr q)
      refine lv_aload_n hx hb dX1_doPlan_7 rfl (lv_at hl 1 rfl) ?_
      refine lv_aload_n hx hb dX1_doPlan_8 rfl (lv_at hl 2 rfl) ?_
      refine lv_iload_n hx hb dX1_doPlan_9 rfl (lv_at hl 0 rfl) ?_
      refine gc_go0 (va_runV (As := [.ref (ad 16), .int (nI i)]) (rest := []) ⟨hx, hb, hml, hown, hts⟩ (m_X1_madeBy l hl9 D cI cJ ad sg _ i (by omega) hk.1) (cwV 2 hts (gwV a88 a89 a90 a80 a91) rfl rfl rfl (by decide +kernel) ⟨by decide, by decide⟩) (gc_preV0 hK hP hD hS hA hE rfl rfl rfl) rfl rfl hl.1 rfl (lv_room (Nat.le_of_ble_eq_true rfl)) dX1_doPlan_10 ⟨by decide, by decide⟩) hD hS hA (fun v9 sg11 H locs hp12 hP hD hS => ?_)
      obtain ⟨hk1, r15, rfl⟩ := hp12
      have hk := hk.trans hk1
      refine W.eq (g2 := F0 m 13 ls [.int r15]) rfl ?_
      refine lv_istore_n (lv' := [(3, .int r15), (2, .int (nI i)), (0, .ref (ad 0)), (1, .ref (ad 16))]) hx hb dX1_doPlan_13 rfl hl (by decide) rfl (fun ls hl => ?_)
      refine lv_aload_n hx hb dX1_doPlan_14 rfl (lv_at hl 2 rfl) ?_
      refine gw_getr (C := RX1) (T := TX1) (N := 12) hx hb hts inwX1 hown hK hP 0 8 9 rfl rfl rfl (by decide) (hts _ a85) (fun _ h9 => h9) dX1_doPlan_15 ?_
      refine lv_iload_n hx hb dX1_doPlan_18 rfl (lv_at hl 1 rfl) ?_
      refine lv_iload_n hx hb dX1_doPlan_19 rfl (lv_at hl 0 rfl) ?_
      refine lv_iload_n hx hb dX1_doPlan_20 rfl (lv_at hl 0 rfl) ?_
      refine lv_aload_n hx hb dX1_doPlan_21 rfl (lv_at hl 2 rfl) ?_
      refine gw_getr (C := RX1) (T := TX1) (N := 12) hx hb hts inwX1 hown hK hP 0 6 7 rfl rfl rfl (by decide) (hts _ a75) (fun _ h9 => h9) dX1_doPlan_22 ?_
      refine lv_iload_n hx hb dX1_doPlan_25 rfl (lv_at hl 1 rfl) ?_
      refine gw_ald hx hb hK hP 7 0 (n := 4) rfl rfl (i := i) (by omega) (by decide) dX1_doPlan_26 ?_
      refine lv_topi (fun v16 hv16 => ?_)
      refine va_mmin hx hb (hml.trans hl.1.symm) hown (hts _ a92) (hts _ a21) (hts _ a22) (hts _ a23) (by decide) (Nat.le_of_ble_eq_true rfl) (by decide) (by decide) dX1_doPlan_27 ?_
      refine lv_topi (fun v17 hv17 => ?_)
      refine lv_isub hx hb dX1_doPlan_30 ?_
      refine lv_topi (fun v18 hv18 => ?_)
      refine gw_ast hx hb hK hP hD hS 9 0 (n := 4) rfl rfl (i := i) (by omega) (by decide) dX1_doPlan_31 (fun H locs hP hD hS => ?_)
      obtain ⟨sg19, esg19⟩ : ∃ z : Nat → Nat → Int32, z = gw_u sg11 9 (upd (sg11 9) i v18) := ⟨_, rfl⟩
      rw [← esg19] at hP hD
      have hk : KG 0 9 3 sg0 sg19 := by rw [esg19]; exact hk.wa 9 (by omega) (by omega) _
      refine lv_iinc (k := 1) (v := (nI (i + 1))) (lv' := [(2, .int (nI (i + 1))), (3, .int r15), (0, .ref (ad 0)), (1, .ref (ad 16))]) hx hb dX1_doPlan_32 hl rfl (nI_1 _) (by decide) rfl (fun ls hl => ?_)
      refine lv_goto (tgt := 2) hx hb dX1_doPlan_35 (by decide) ?_
      exact ih _ (by omega) (i + 1) _ _ _ _ rfl (by omega) hk hP hD hS (lv_sub hl [0, 2, 3] rfl)
  refine lv_iconst (v := (nI 0)) hx hb dX1_doPlan_0 (by decide) ?_
  refine lv_istore_n (lv' := [(2, .int (nI 0)), (0, .ref (ad 0)), (1, .ref (ad 16))]) hx hb dX1_doPlan_1 rfl hl (by decide) rfl (fun ls hl => ?_)
  exact c2 _ 0 _ _ _ _ rfl (by omega) hk hP hD hS (lv_sub hl [0, 1, 2] rfl)
end
section
abbrev rmX2_forgetSearch : Room := { frames := 0, cells := 0, slots := 0, locals := 0 }
set_option maxRecDepth 100000 in
set_option maxHeartbeats 4000000 in
theorem m_X2_forgetSearch (l : Launch) (hl9 : l.stackTraces = false) (D : va_G) (cI : ClassId) (cJ : ClassId × ClassId) (ad : Nat → Nat) (sg0 : Nat → Nat → Int32) (sz : Nat) (hI : IvG 1 9 6 sg0) : gc_M l yX2_forgetSearch wsX2_forgetSearch rmX2_forgetSearch D vwCl (tyS cI cJ) cI cJ gxT gxN SC [.ref (ad 0)] ad sg0 sz 0 0 (fun v sg2 => KG 1 9 6 sg0 sg2 ∧ v = none) := by
  refine gc_Mv_of (cc := cX2_forgetSearch) (maxL := 1) (by decide) rfl (Nat.le_of_ble_eq_true rfl) ?_
  intro p e s m below meth c A ls Q hin hE hret
  obtain ⟨⟨hx, hb, hml, hown, hts⟩, -, hlocks, -, hA, hP, hK, hD, hS, hl⟩ := hin
  have hts : ∀ w ∈ wsAll, w.before ([.ref (ad 0)] : List Value).toArray s = true := fun w h => hts w (List.mem_cons_of_mem _ h)
  have hl : lv_has ls 1 [(0, .ref (ad 0))] := hl
  have hk := KG.refl hI
  refine lv_aload_n hx hb dX2_forgetSearch_0 rfl (lv_at hl 0 rfl) ?_
  refine lv_iconst (v := (nI 0)) hx hb dX2_forgetSearch_1 (by decide) ?_
  refine gw_put (C := RX2) (T := TX2) (N := 6) (ty := .boolean) hx hb hts inwX2 tyX2 tyX2_ok nmX2 hown hK hP hD hS 0 3 rfl rfl rfl (by decide) (hts _ a93) (fun _ h9 => h9) rfl (by decide +kernel) rfl rfl dX2_forgetSearch_2 (fun H locs hP hD hS => ?_)
  obtain ⟨sg1, esg1⟩ : ∃ z : Nat → Nat → Int32, z = gw_u sg0 0 (upd (sg0 0) 3 (nI 0)) := ⟨_, rfl⟩
  rw [← esg1] at hP hD
  have hk : KG 1 9 6 sg0 sg1 := by rw [esg1]; exact hk.wa 0 (by omega) (by omega) _
  refine lv_aload_n hx hb dX2_forgetSearch_5 rfl (lv_at hl 0 rfl) ?_
  refine gw_getr (C := RX2) (T := TX2) (N := 6) hx hb hts inwX2 hown hK hP 0 1 2 rfl rfl rfl (by decide) (hts _ a94) (fun _ h9 => h9) dX2_forgetSearch_6 ?_
  refine lv_iconst (v := (nI 0)) hx hb dX2_forgetSearch_9 (by decide) ?_
  refine gw_putN (C := RX0) (T := TX0) (N := 15) (ty := .boolean) hx hb hts inwX0 tyX0 tyX0_ok nmX0 hown hK hP hD hS 2 12 rfl rfl rfl (by decide) (hE.nest _ (.fieldLinkNest RX2 93 RX0 "found" "Z" RX2) (by decide +kernel) rfl) (fun _ h9 => h9) rfl (by decide +kernel) rfl rfl dX2_forgetSearch_10 (fun H locs hP hD hS => ?_)
  obtain ⟨sg2, esg2⟩ : ∃ z : Nat → Nat → Int32, z = gw_u sg1 2 (upd (sg1 2) 12 (nI 0)) := ⟨_, rfl⟩
  rw [← esg2] at hP hD
  have hk : KG 1 9 6 sg0 sg2 := by rw [esg2]; exact hk.wa 2 (by omega) (by omega) _
  exact hret _ _ _ _ _ hP hS dX2_forgetSearch_13 (⟨hk, rfl⟩)
abbrev rmX2_logs : Room := { frames := 7, cells := 3, slots := 18, locals := 104 }
set_option maxRecDepth 100000 in
set_option maxHeartbeats 4000000 in
theorem m_X2_logs (l : Launch) (hl9 : l.stackTraces = false) (D : va_G) (cI : ClassId) (cJ : ClassId × ClassId) (ad : Nat → Nat) (sg0 : Nat → Nat → Int32) (sz : Nat) (x1 : Int32) (x2 : Int32) (x3 : Int32) (hI : IvG 1 9 6 sg0) : gc_B l yX2_logs wsX2_logs rmX2_logs D vwCl (tyS cI cJ) cI cJ gxT gxN SC [.ref (ad 0), .int x1, .int x2, .int x3] ad sg0 sz 3 18 (fun v sg2 => KG 1 9 6 sg0 sg2 ∧ v = none ∧ kLogs x1 x2 x3 = nI 0) (fun E sg2 => KG 1 9 6 sg0 sg2 ∧ ((E = "java/lang/IndexOutOfBoundsException" ∧ kLogs x1 x2 x3 = nI 1) ∨ (E = "java/lang/IllegalArgumentException" ∧ kLogs x1 x2 x3 = nI 2))) := by
  refine gc_Bv_of (cc := cX2_logs) (maxL := 4) (by decide) rfl (Nat.le_of_ble_eq_true rfl) ?_
  intro p e s m below meth c A ls Q hin hE hret kt kx
  obtain ⟨⟨hx, hb, hml, hown, hts⟩, -, hlocks, -, hA, hP, hK, hD, hS, hl⟩ := hin
  have hts : ∀ w ∈ wsAll, w.before ([.ref (ad 0), .int x1, .int x2, .int x3] : List Value).toArray s = true := fun w h => hts w (List.mem_cons_of_mem _ h)
  have hl : lv_has ls 4 [(0, .ref (ad 0)), (1, .int x1), (2, .int x2), (3, .int x3)] := hl
  have hk := KG.refl hI
  refine lv_iload_n hx hb dX2_logs_0 rfl (lv_at hl 1 rfl) ?_
  refine lv_iconst (v := (nI 4)) hx hb dX2_logs_1 (by decide) ?_
  refine gc_goB (pl := []) (S2 := SE) (ad := ad) (sg := sg0) (vx_runS (As := [.int x1, .int (nI 4)]) (rest := []) ⟨hx, hb, hml, hown, hts⟩ (m_X2_needIndex l hl9 D cI cJ (fun j => ad (gw_p [] j)) (fun j => sg0 (gw_p [] j)) _ x1 (nI 4) ) (cwS 2 hts (gwS a95 a96 a97 a98) rfl rfl rfl (by decide +kernel) ⟨by decide, by decide⟩) (gc_preS hK hP hD hS hA hE rfl) rfl rfl hl.1 rfl (lv_room (Nat.le_of_ble_eq_true rfl)) dX2_logs_2 ⟨by decide, by decide⟩) hP hD hS hA rfl (fun v1 sp2 sg3 H locs hp4 ha5 hb6 hP hD hS => ?_) (fun E9 x9 ce9 sp2 sg3 H locs hp4 hc1 hc2 hc3 ha5 hb6 hP hD hS => ?_)
  · obtain ⟨rfl, ha1⟩ := hp4
    rw [show sg3 = sg0 from funext (fun k => hb6 k (by simp))] at hP hD
    refine W.eq (g2 := F0 m 5 ls []) rfl ?_
    refine lv_iload_n hx hb dX2_logs_5 rfl (lv_at hl 2 rfl) ?_
    refine lv_iconst (v := (nI 0)) hx hb dX2_logs_6 (by decide) ?_
    refine lv_sipush (v := (nI 1000)) hx hb dX2_logs_7 (by decide) ?_
    refine gc_goB (pl := []) (S2 := SE) (ad := ad) (sg := sg0) (vx_runS (As := [.int x2, .int (nI 0), .int (nI 1000)]) (rest := []) ⟨hx, hb, hml, hown, hts⟩ (m_X2_needRange l hl9 D cI cJ (fun j => ad (gw_p [] j)) (fun j => sg0 (gw_p [] j)) _ x2 (nI 0) (nI 1000) ) (cwS 3 hts (gwS a99 a100 a97 a101) rfl rfl rfl (by decide +kernel) ⟨by decide, by decide⟩) (gc_preS hK hP hD hS hA hE rfl) rfl rfl hl.1 rfl (lv_room (Nat.le_of_ble_eq_true rfl)) dX2_logs_10 ⟨by decide, by decide⟩) hP hD hS hA rfl (fun v7 sp8 sg9 H locs hp10 ha11 hb12 hP hD hS => ?_) (fun E9 x9 ce9 sp8 sg9 H locs hp10 hc1 hc2 hc3 ha11 hb12 hP hD hS => ?_)
    · obtain ⟨rfl, ha2⟩ := hp10
      rw [show sg9 = sg0 from funext (fun k => hb12 k (by simp))] at hP hD
      refine W.eq (g2 := F0 m 13 ls []) rfl ?_
      refine lv_iload_n hx hb dX2_logs_13 rfl (lv_at hl 3 rfl) ?_
      refine lv_iconst (v := (nI 0)) hx hb dX2_logs_14 (by decide) ?_
      refine lv_ldc (v := (nI 100000)) hx hb hown (hts _ a102) dX2_logs_15 ?_
      refine gc_goB (pl := []) (S2 := SE) (ad := ad) (sg := sg0) (vx_runS (As := [.int x3, .int (nI 0), .int (nI 100000)]) (rest := []) ⟨hx, hb, hml, hown, hts⟩ (m_X2_needRange l hl9 D cI cJ (fun j => ad (gw_p [] j)) (fun j => sg0 (gw_p [] j)) _ x3 (nI 0) (nI 100000) ) (cwS 3 hts (gwS a99 a100 a97 a101) rfl rfl rfl (by decide +kernel) ⟨by decide, by decide⟩) (gc_preS hK hP hD hS hA hE rfl) rfl rfl hl.1 rfl (lv_room (Nat.le_of_ble_eq_true rfl)) dX2_logs_17 ⟨by decide, by decide⟩) hP hD hS hA rfl (fun v13 sp14 sg15 H locs hp16 ha17 hb18 hP hD hS => ?_) (fun E9 x9 ce9 sp14 sg15 H locs hp16 hc1 hc2 hc3 ha17 hb18 hP hD hS => ?_)
      · obtain ⟨rfl, ha3⟩ := hp16
        rw [show sg15 = sg0 from funext (fun k => hb18 k (by simp))] at hP hD
        refine W.eq (g2 := F0 m 20 ls []) rfl ?_
        have hk9 : kLogs x1 x2 x3 = nI 0 := by simp [kLogs, kif, ix4.mp ha1, ha2, ha3]
        obtain ⟨j1, hj1, rfl⟩ := ixof4 ha1
        refine lv_aload_n hx hb dX2_logs_20 rfl (lv_at hl 0 rfl) ?_
        refine gw_getr (C := RX2) (T := TX2) (N := 6) hx hb hts inwX2 hown hK hP 0 0 1 rfl rfl rfl (by decide) (hts _ a103) (fun _ h9 => h9) dX2_logs_21 ?_
        refine gw_getrN (C := RX1) (T := TX1) (N := 12) hx hb hts inwX1 hown hK hP 1 0 4 rfl rfl rfl (by decide) (hE.nest _ (.fieldLinkNest RX2 37 RX1 "logsLeft" "[I" RX2) (by decide +kernel) rfl) (fun _ h9 => h9) dX2_logs_24 ?_
        refine lv_iload_n hx hb dX2_logs_27 rfl (lv_at hl 1 rfl) ?_
        refine lv_iload_n hx hb dX2_logs_28 rfl (lv_at hl 2 rfl) ?_
        refine gw_ast hx hb hK hP hD hS 4 0 (n := 4) rfl rfl (i := j1) (by omega) (by decide) dX2_logs_29 (fun H locs hP hD hS => ?_)
        obtain ⟨sg19, esg19⟩ : ∃ z : Nat → Nat → Int32, z = gw_u sg0 4 (upd (sg0 4) j1 x2) := ⟨_, rfl⟩
        rw [← esg19] at hP hD
        have hk : KG 1 9 6 sg0 sg19 := by rw [esg19]; exact hk.wa 4 (by omega) (by omega) _
        refine lv_aload_n hx hb dX2_logs_30 rfl (lv_at hl 0 rfl) ?_
        refine gw_getr (C := RX2) (T := TX2) (N := 6) hx hb hts inwX2 hown hK hP 0 0 1 rfl rfl rfl (by decide) (hts _ a103) (fun _ h9 => h9) dX2_logs_31 ?_
        refine gw_getrN (C := RX1) (T := TX1) (N := 12) hx hb hts inwX1 hown hK hP 1 1 5 rfl rfl rfl (by decide) (hE.nest _ (.fieldLinkNest RX2 41 RX1 "centsALog" "[I" RX2) (by decide +kernel) rfl) (fun _ h9 => h9) dX2_logs_34 ?_
        refine lv_iload_n hx hb dX2_logs_37 rfl (lv_at hl 1 rfl) ?_
        refine lv_iload_n hx hb dX2_logs_38 rfl (lv_at hl 3 rfl) ?_
        refine gw_ast hx hb hK hP hD hS 5 0 (n := 4) rfl rfl (i := j1) (by omega) (by decide) dX2_logs_39 (fun H locs hP hD hS => ?_)
        obtain ⟨sg20, esg20⟩ : ∃ z : Nat → Nat → Int32, z = gw_u sg19 5 (upd (sg19 5) j1 x3) := ⟨_, rfl⟩
        rw [← esg20] at hP hD
        have hk : KG 1 9 6 sg0 sg20 := by rw [esg20]; exact hk.wa 5 (by omega) (by omega) _
        refine lv_aload_n hx hb dX2_logs_40 rfl (lv_at hl 0 rfl) ?_
        refine gc_go0 (va_runV (As := []) (rest := []) ⟨hx, hb, hml, hown, hts⟩ (m_X2_forgetSearch l hl9 D cI cJ ad sg20 _  hk.1) (cwV 0 hts (gwV a104 a105 a106 a97 a107) rfl rfl rfl (by decide +kernel) ⟨by decide, by decide⟩) (gc_preV0 hK hP hD hS hA hE rfl rfl rfl) rfl rfl hl.1 rfl (lv_room (Nat.le_of_ble_eq_true rfl)) dX2_logs_41 ⟨by decide, by decide⟩) hD hS hA (fun v21 sg23 H locs hp24 hP hD hS => ?_)
        obtain ⟨hk1, rfl⟩ := hp24
        have hk := hk.trans hk1
        refine W.eq (g2 := F0 m 44 ls []) rfl ?_
        exact hret _ _ _ _ _ hP hS dX2_logs_44 (⟨hk, rfl, hk9⟩)
      · obtain ⟨rfl, hq⟩ := hp16
        rw [show sg15 = sg0 from funext (fun k => hb18 k (by simp))] at hP hD
        exact kt _ _ _ _ _ _ _ _ _ _ _ (⟨hk, Or.inr (⟨rfl, by simp [kLogs, kif, ix4.mp ha1, ha2, hq]⟩)⟩) hc1 hc2 hc3 hP hS (by decide) (by decide)
    · obtain ⟨rfl, hq⟩ := hp10
      rw [show sg9 = sg0 from funext (fun k => hb12 k (by simp))] at hP hD
      exact kt _ _ _ _ _ _ _ _ _ _ _ (⟨hk, Or.inr (⟨rfl, by simp [kLogs, kif, ix4.mp ha1, hq]⟩)⟩) hc1 hc2 hc3 hP hS (by decide) (by decide)
  · obtain ⟨rfl, hq⟩ := hp4
    rw [show sg3 = sg0 from funext (fun k => hb6 k (by simp))] at hP hD
    exact kt _ _ _ _ _ _ _ _ _ _ _ (⟨hk, Or.inl ⟨rfl, by simp [kLogs, kif, (not_congr ix4).mp hq]⟩⟩) hc1 hc2 hc3 hP hS (by decide) (by decide)
abbrev rmX2_order : Room := { frames := 7, cells := 4, slots := 24, locals := 104 }
set_option maxRecDepth 100000 in
set_option maxHeartbeats 4000000 in
theorem m_X2_order (l : Launch) (hl9 : l.stackTraces = false) (D : va_G) (cI : ClassId) (cJ : ClassId × ClassId) (ad : Nat → Nat) (sg0 : Nat → Nat → Int32) (sz : Nat) (x1 : Int32) (x2 : Int32) (x3 : Int32) (x4 : Int32) (hI : IvG 1 9 6 sg0) : gc_B l yX2_order wsX2_order rmX2_order D vwCl (tyS cI cJ) cI cJ gxT gxN SC [.ref (ad 0), .int x1, .int x2, .int x3, .int x4] ad sg0 sz 4 24 (fun v sg2 => KG 1 9 6 sg0 sg2 ∧ v = none ∧ kOrder x1 x2 x3 x4 = nI 0) (fun E sg2 => KG 1 9 6 sg0 sg2 ∧ ((E = "java/lang/IndexOutOfBoundsException" ∧ kOrder x1 x2 x3 x4 = nI 1) ∨ (E = "java/lang/IllegalArgumentException" ∧ kOrder x1 x2 x3 x4 = nI 2))) := by
  refine gc_Bv_of (cc := cX2_order) (maxL := 5) (by decide) rfl (Nat.le_of_ble_eq_true rfl) ?_
  intro p e s m below meth c A ls Q hin hE hret kt kx
  obtain ⟨⟨hx, hb, hml, hown, hts⟩, -, hlocks, -, hA, hP, hK, hD, hS, hl⟩ := hin
  have hts : ∀ w ∈ wsAll, w.before ([.ref (ad 0), .int x1, .int x2, .int x3, .int x4] : List Value).toArray s = true := fun w h => hts w (List.mem_cons_of_mem _ h)
  have hl : lv_has ls 5 [(0, .ref (ad 0)), (1, .int x1), (2, .int x2), (3, .int x3), (4, .int x4)] := hl
  have hk := KG.refl hI
  refine lv_iload_n hx hb dX2_order_0 rfl (lv_at hl 1 rfl) ?_
  refine lv_iconst (v := (nI 4)) hx hb dX2_order_1 (by decide) ?_
  refine gc_goB (pl := []) (S2 := SE) (ad := ad) (sg := sg0) (vx_runS (As := [.int x1, .int (nI 4)]) (rest := []) ⟨hx, hb, hml, hown, hts⟩ (m_X2_needIndex l hl9 D cI cJ (fun j => ad (gw_p [] j)) (fun j => sg0 (gw_p [] j)) _ x1 (nI 4) ) (cwS 2 hts (gwS a95 a96 a97 a98) rfl rfl rfl (by decide +kernel) ⟨by decide, by decide⟩) (gc_preS hK hP hD hS hA hE rfl) rfl rfl hl.1 rfl (lv_room (Nat.le_of_ble_eq_true rfl)) dX2_order_2 ⟨by decide, by decide⟩) hP hD hS hA rfl (fun v1 sp2 sg3 H locs hp4 ha5 hb6 hP hD hS => ?_) (fun E9 x9 ce9 sp2 sg3 H locs hp4 hc1 hc2 hc3 ha5 hb6 hP hD hS => ?_)
  · obtain ⟨rfl, ha1⟩ := hp4
    rw [show sg3 = sg0 from funext (fun k => hb6 k (by simp))] at hP hD
    refine W.eq (g2 := F0 m 5 ls []) rfl ?_
    refine lv_iload_n hx hb dX2_order_5 rfl (lv_at hl 2 rfl) ?_
    refine lv_iconst (v := (nI 0)) hx hb dX2_order_6 (by decide) ?_
    refine lv_sipush (v := (nI 1000)) hx hb dX2_order_7 (by decide) ?_
    refine gc_goB (pl := []) (S2 := SE) (ad := ad) (sg := sg0) (vx_runS (As := [.int x2, .int (nI 0), .int (nI 1000)]) (rest := []) ⟨hx, hb, hml, hown, hts⟩ (m_X2_needRange l hl9 D cI cJ (fun j => ad (gw_p [] j)) (fun j => sg0 (gw_p [] j)) _ x2 (nI 0) (nI 1000) ) (cwS 3 hts (gwS a99 a100 a97 a101) rfl rfl rfl (by decide +kernel) ⟨by decide, by decide⟩) (gc_preS hK hP hD hS hA hE rfl) rfl rfl hl.1 rfl (lv_room (Nat.le_of_ble_eq_true rfl)) dX2_order_10 ⟨by decide, by decide⟩) hP hD hS hA rfl (fun v7 sp8 sg9 H locs hp10 ha11 hb12 hP hD hS => ?_) (fun E9 x9 ce9 sp8 sg9 H locs hp10 hc1 hc2 hc3 ha11 hb12 hP hD hS => ?_)
    · obtain ⟨rfl, ha2⟩ := hp10
      rw [show sg9 = sg0 from funext (fun k => hb12 k (by simp))] at hP hD
      refine W.eq (g2 := F0 m 13 ls []) rfl ?_
      refine lv_iload_n hx hb dX2_order_13 rfl (lv_at hl 3 rfl) ?_
      refine lv_iload_n hx hb dX2_order_14 rfl (lv_at hl 2 rfl) ?_
      refine lv_sipush (v := (nI 1000)) hx hb dX2_order_15 (by decide) ?_
      refine gc_goB (pl := []) (S2 := SE) (ad := ad) (sg := sg0) (vx_runS (As := [.int x3, .int x2, .int (nI 1000)]) (rest := []) ⟨hx, hb, hml, hown, hts⟩ (m_X2_needRange l hl9 D cI cJ (fun j => ad (gw_p [] j)) (fun j => sg0 (gw_p [] j)) _ x3 x2 (nI 1000) ) (cwS 3 hts (gwS a99 a100 a97 a101) rfl rfl rfl (by decide +kernel) ⟨by decide, by decide⟩) (gc_preS hK hP hD hS hA hE rfl) rfl rfl hl.1 rfl (lv_room (Nat.le_of_ble_eq_true rfl)) dX2_order_18 ⟨by decide, by decide⟩) hP hD hS hA rfl (fun v13 sp14 sg15 H locs hp16 ha17 hb18 hP hD hS => ?_) (fun E9 x9 ce9 sp14 sg15 H locs hp16 hc1 hc2 hc3 ha17 hb18 hP hD hS => ?_)
      · obtain ⟨rfl, ha3⟩ := hp16
        rw [show sg15 = sg0 from funext (fun k => hb18 k (by simp))] at hP hD
        refine W.eq (g2 := F0 m 21 ls []) rfl ?_
        refine lv_iload hx hb dX2_order_21 (lv_at hl 4 rfl) ?_
        refine lv_iconst (v := (nI 0)) hx hb dX2_order_23 (by decide) ?_
        refine lv_sipush (v := (nI 1000)) hx hb dX2_order_24 (by decide) ?_
        refine gc_goB (pl := []) (S2 := SE) (ad := ad) (sg := sg0) (vx_runS (As := [.int x4, .int (nI 0), .int (nI 1000)]) (rest := []) ⟨hx, hb, hml, hown, hts⟩ (m_X2_needRange l hl9 D cI cJ (fun j => ad (gw_p [] j)) (fun j => sg0 (gw_p [] j)) _ x4 (nI 0) (nI 1000) ) (cwS 3 hts (gwS a99 a100 a97 a101) rfl rfl rfl (by decide +kernel) ⟨by decide, by decide⟩) (gc_preS hK hP hD hS hA hE rfl) rfl rfl hl.1 rfl (lv_room (Nat.le_of_ble_eq_true rfl)) dX2_order_27 ⟨by decide, by decide⟩) hP hD hS hA rfl (fun v19 sp20 sg21 H locs hp22 ha23 hb24 hP hD hS => ?_) (fun E9 x9 ce9 sp20 sg21 H locs hp22 hc1 hc2 hc3 ha23 hb24 hP hD hS => ?_)
        · obtain ⟨rfl, ha4⟩ := hp22
          rw [show sg21 = sg0 from funext (fun k => hb24 k (by simp))] at hP hD
          refine W.eq (g2 := F0 m 30 ls []) rfl ?_
          have hk9 : kOrder x1 x2 x3 x4 = nI 0 := by simp [kOrder, kif, ix4.mp ha1, ha2, ha3, ha4]
          obtain ⟨j1, hj1, rfl⟩ := ixof4 ha1
          refine lv_aload_n hx hb dX2_order_30 rfl (lv_at hl 0 rfl) ?_
          refine gw_getr (C := RX2) (T := TX2) (N := 6) hx hb hts inwX2 hown hK hP 0 0 1 rfl rfl rfl (by decide) (hts _ a103) (fun _ h9 => h9) dX2_order_31 ?_
          refine gw_getrN (C := RX1) (T := TX1) (N := 12) hx hb hts inwX1 hown hK hP 1 5 9 rfl rfl rfl (by decide) (hE.nest _ (.fieldLinkNest RX2 68 RX1 "least" "[I" RX2) (by decide +kernel) rfl) (fun _ h9 => h9) dX2_order_34 ?_
          refine lv_iload_n hx hb dX2_order_37 rfl (lv_at hl 1 rfl) ?_
          refine lv_iload_n hx hb dX2_order_38 rfl (lv_at hl 2 rfl) ?_
          refine gw_ast hx hb hK hP hD hS 9 0 (n := 4) rfl rfl (i := j1) (by omega) (by decide) dX2_order_39 (fun H locs hP hD hS => ?_)
          obtain ⟨sg25, esg25⟩ : ∃ z : Nat → Nat → Int32, z = gw_u sg0 9 (upd (sg0 9) j1 x2) := ⟨_, rfl⟩
          rw [← esg25] at hP hD
          have hk : KG 1 9 6 sg0 sg25 := by rw [esg25]; exact hk.wa 9 (by omega) (by omega) _
          refine lv_aload_n hx hb dX2_order_40 rfl (lv_at hl 0 rfl) ?_
          refine gw_getr (C := RX2) (T := TX2) (N := 6) hx hb hts inwX2 hown hK hP 0 0 1 rfl rfl rfl (by decide) (hts _ a103) (fun _ h9 => h9) dX2_order_41 ?_
          refine gw_getrN (C := RX1) (T := TX1) (N := 12) hx hb hts inwX1 hown hK hP 1 6 10 rfl rfl rfl (by decide) (hE.nest _ (.fieldLinkNest RX2 71 RX1 "most" "[I" RX2) (by decide +kernel) rfl) (fun _ h9 => h9) dX2_order_44 ?_
          refine lv_iload_n hx hb dX2_order_47 rfl (lv_at hl 1 rfl) ?_
          refine lv_iload_n hx hb dX2_order_48 rfl (lv_at hl 3 rfl) ?_
          refine gw_ast hx hb hK hP hD hS 10 0 (n := 4) rfl rfl (i := j1) (by omega) (by decide) dX2_order_49 (fun H locs hP hD hS => ?_)
          obtain ⟨sg26, esg26⟩ : ∃ z : Nat → Nat → Int32, z = gw_u sg25 10 (upd (sg25 10) j1 x3) := ⟨_, rfl⟩
          rw [← esg26] at hP hD
          have hk : KG 1 9 6 sg0 sg26 := by rw [esg26]; exact hk.wa 10 (by omega) (by omega) _
          refine lv_aload_n hx hb dX2_order_50 rfl (lv_at hl 0 rfl) ?_
          refine gw_getr (C := RX2) (T := TX2) (N := 6) hx hb hts inwX2 hown hK hP 0 0 1 rfl rfl rfl (by decide) (hts _ a103) (fun _ h9 => h9) dX2_order_51 ?_
          refine gw_getrN (C := RX1) (T := TX1) (N := 12) hx hb hts inwX1 hown hK hP 1 7 11 rfl rfl rfl (by decide) (hE.nest _ (.fieldLinkNest RX2 74 RX1 "worth" "[I" RX2) (by decide +kernel) rfl) (fun _ h9 => h9) dX2_order_54 ?_
          refine lv_iload_n hx hb dX2_order_57 rfl (lv_at hl 1 rfl) ?_
          refine lv_iload hx hb dX2_order_58 (lv_at hl 4 rfl) ?_
          refine gw_ast hx hb hK hP hD hS 11 0 (n := 4) rfl rfl (i := j1) (by omega) (by decide) dX2_order_60 (fun H locs hP hD hS => ?_)
          obtain ⟨sg27, esg27⟩ : ∃ z : Nat → Nat → Int32, z = gw_u sg26 11 (upd (sg26 11) j1 x4) := ⟨_, rfl⟩
          rw [← esg27] at hP hD
          have hk : KG 1 9 6 sg0 sg27 := by rw [esg27]; exact hk.wa 11 (by omega) (by omega) _
          refine lv_aload_n hx hb dX2_order_61 rfl (lv_at hl 0 rfl) ?_
          refine gc_go0 (va_runV (As := []) (rest := []) ⟨hx, hb, hml, hown, hts⟩ (m_X2_forgetSearch l hl9 D cI cJ ad sg27 _  hk.1) (cwV 0 hts (gwV a104 a105 a106 a97 a107) rfl rfl rfl (by decide +kernel) ⟨by decide, by decide⟩) (gc_preV0 hK hP hD hS hA hE rfl rfl rfl) rfl rfl hl.1 rfl (lv_room (Nat.le_of_ble_eq_true rfl)) dX2_order_62 ⟨by decide, by decide⟩) hD hS hA (fun v28 sg30 H locs hp31 hP hD hS => ?_)
          obtain ⟨hk1, rfl⟩ := hp31
          have hk := hk.trans hk1
          refine W.eq (g2 := F0 m 65 ls []) rfl ?_
          exact hret _ _ _ _ _ hP hS dX2_order_65 (⟨hk, rfl, hk9⟩)
        · obtain ⟨rfl, hq⟩ := hp22
          rw [show sg21 = sg0 from funext (fun k => hb24 k (by simp))] at hP hD
          exact kt _ _ _ _ _ _ _ _ _ _ _ (⟨hk, Or.inr (⟨rfl, by simp [kOrder, kif, ix4.mp ha1, ha2, ha3, hq]⟩)⟩) hc1 hc2 hc3 hP hS (by decide) (by decide)
      · obtain ⟨rfl, hq⟩ := hp16
        rw [show sg15 = sg0 from funext (fun k => hb18 k (by simp))] at hP hD
        exact kt _ _ _ _ _ _ _ _ _ _ _ (⟨hk, Or.inr (⟨rfl, by simp [kOrder, kif, ix4.mp ha1, ha2, hq]⟩)⟩) hc1 hc2 hc3 hP hS (by decide) (by decide)
    · obtain ⟨rfl, hq⟩ := hp10
      rw [show sg9 = sg0 from funext (fun k => hb12 k (by simp))] at hP hD
      exact kt _ _ _ _ _ _ _ _ _ _ _ (⟨hk, Or.inr (⟨rfl, by simp [kOrder, kif, ix4.mp ha1, hq]⟩)⟩) hc1 hc2 hc3 hP hS (by decide) (by decide)
  · obtain ⟨rfl, hq⟩ := hp4
    rw [show sg3 = sg0 from funext (fun k => hb6 k (by simp))] at hP hD
    exact kt _ _ _ _ _ _ _ _ _ _ _ (⟨hk, Or.inl ⟨rfl, by simp [kOrder, kif, (not_congr ix4).mp hq]⟩⟩) hc1 hc2 hc3 hP hS (by decide) (by decide)
abbrev rmX2_hours : Room := { frames := 7, cells := 2, slots := 12, locals := 104 }
set_option maxRecDepth 100000 in
set_option maxHeartbeats 4000000 in
theorem m_X2_hours (l : Launch) (hl9 : l.stackTraces = false) (D : va_G) (cI : ClassId) (cJ : ClassId × ClassId) (ad : Nat → Nat) (sg0 : Nat → Nat → Int32) (sz : Nat) (x1 : Int32) (x2 : Int32) (hI : IvG 1 9 6 sg0) : gc_B l yX2_hours wsX2_hours rmX2_hours D vwCl (tyS cI cJ) cI cJ gxT gxN SC [.ref (ad 0), .int x1, .int x2] ad sg0 sz 2 12 (fun v sg2 => KG 1 9 6 sg0 sg2 ∧ v = none ∧ kHours x1 x2 = nI 0) (fun E sg2 => KG 1 9 6 sg0 sg2 ∧ ((E = "java/lang/IllegalArgumentException" ∧ kHours x1 x2 = nI 1))) := by
  refine gc_Bv_of (cc := cX2_hours) (maxL := 3) (by decide) rfl (Nat.le_of_ble_eq_true rfl) ?_
  intro p e s m below meth c A ls Q hin hE hret kt kx
  obtain ⟨⟨hx, hb, hml, hown, hts⟩, -, hlocks, -, hA, hP, hK, hD, hS, hl⟩ := hin
  have hts : ∀ w ∈ wsAll, w.before ([.ref (ad 0), .int x1, .int x2] : List Value).toArray s = true := fun w h => hts w (List.mem_cons_of_mem _ h)
  have hl : lv_has ls 3 [(0, .ref (ad 0)), (1, .int x1), (2, .int x2)] := hl
  have hk := KG.refl hI
  refine lv_iload_n hx hb dX2_hours_0 rfl (lv_at hl 1 rfl) ?_
  refine lv_iconst (v := (nI 0)) hx hb dX2_hours_1 (by decide) ?_
  refine lv_sipush (v := (nI 1440)) hx hb dX2_hours_2 (by decide) ?_
  refine gc_goB (pl := []) (S2 := SE) (ad := ad) (sg := sg0) (vx_runS (As := [.int x1, .int (nI 0), .int (nI 1440)]) (rest := []) ⟨hx, hb, hml, hown, hts⟩ (m_X2_needRange l hl9 D cI cJ (fun j => ad (gw_p [] j)) (fun j => sg0 (gw_p [] j)) _ x1 (nI 0) (nI 1440) ) (cwS 3 hts (gwS a99 a100 a97 a101) rfl rfl rfl (by decide +kernel) ⟨by decide, by decide⟩) (gc_preS hK hP hD hS hA hE rfl) rfl rfl hl.1 rfl (lv_room (Nat.le_of_ble_eq_true rfl)) dX2_hours_5 ⟨by decide, by decide⟩) hP hD hS hA rfl (fun v1 sp2 sg3 H locs hp4 ha5 hb6 hP hD hS => ?_) (fun E9 x9 ce9 sp2 sg3 H locs hp4 hc1 hc2 hc3 ha5 hb6 hP hD hS => ?_)
  · obtain ⟨rfl, ha1⟩ := hp4
    rw [show sg3 = sg0 from funext (fun k => hb6 k (by simp))] at hP hD
    refine W.eq (g2 := F0 m 8 ls []) rfl ?_
    refine lv_iload_n hx hb dX2_hours_8 rfl (lv_at hl 2 rfl) ?_
    refine lv_iconst (v := (nI 0)) hx hb dX2_hours_9 (by decide) ?_
    refine lv_sipush (v := (nI 1440)) hx hb dX2_hours_10 (by decide) ?_
    refine gc_goB (pl := []) (S2 := SE) (ad := ad) (sg := sg0) (vx_runS (As := [.int x2, .int (nI 0), .int (nI 1440)]) (rest := []) ⟨hx, hb, hml, hown, hts⟩ (m_X2_needRange l hl9 D cI cJ (fun j => ad (gw_p [] j)) (fun j => sg0 (gw_p [] j)) _ x2 (nI 0) (nI 1440) ) (cwS 3 hts (gwS a99 a100 a97 a101) rfl rfl rfl (by decide +kernel) ⟨by decide, by decide⟩) (gc_preS hK hP hD hS hA hE rfl) rfl rfl hl.1 rfl (lv_room (Nat.le_of_ble_eq_true rfl)) dX2_hours_13 ⟨by decide, by decide⟩) hP hD hS hA rfl (fun v7 sp8 sg9 H locs hp10 ha11 hb12 hP hD hS => ?_) (fun E9 x9 ce9 sp8 sg9 H locs hp10 hc1 hc2 hc3 ha11 hb12 hP hD hS => ?_)
    · obtain ⟨rfl, ha2⟩ := hp10
      rw [show sg9 = sg0 from funext (fun k => hb12 k (by simp))] at hP hD
      refine W.eq (g2 := F0 m 16 ls []) rfl ?_
      have hk9 : kHours x1 x2 = nI 0 := by simp [kHours, kif, ha1, ha2]
      refine lv_aload_n hx hb dX2_hours_16 rfl (lv_at hl 0 rfl) ?_
      refine gw_getr (C := RX2) (T := TX2) (N := 6) hx hb hts inwX2 hown hK hP 0 0 1 rfl rfl rfl (by decide) (hts _ a103) (fun _ h9 => h9) dX2_hours_17 ?_
      refine lv_iload_n hx hb dX2_hours_20 rfl (lv_at hl 1 rfl) ?_
      refine gw_putN (C := RX1) (T := TX1) (N := 12) (ty := .int) hx hb hts inwX1 tyX1 tyX1_ok nmX1 hown hK hP hD hS 1 10 rfl rfl rfl (by decide) (hE.nest _ (.fieldLinkNest RX2 77 RX1 "minutesADay" "I" RX2) (by decide +kernel) rfl) (fun _ h9 => h9) rfl (by decide +kernel) rfl rfl dX2_hours_21 (fun H locs hP hD hS => ?_)
      obtain ⟨sg13, esg13⟩ : ∃ z : Nat → Nat → Int32, z = gw_u sg0 1 (upd (sg0 1) 10 x1) := ⟨_, rfl⟩
      rw [← esg13] at hP hD
      have hk : KG 1 9 6 sg0 sg13 := by rw [esg13]; exact hk.wf (by decide) _
      refine lv_aload_n hx hb dX2_hours_24 rfl (lv_at hl 0 rfl) ?_
      refine gw_getr (C := RX2) (T := TX2) (N := 6) hx hb hts inwX2 hown hK hP 0 0 1 rfl rfl rfl (by decide) (hts _ a103) (fun _ h9 => h9) dX2_hours_25 ?_
      refine lv_iload_n hx hb dX2_hours_28 rfl (lv_at hl 2 rfl) ?_
      refine gw_putN (C := RX1) (T := TX1) (N := 12) (ty := .int) hx hb hts inwX1 tyX1 tyX1_ok nmX1 hown hK hP hD hS 1 11 rfl rfl rfl (by decide) (hE.nest _ (.fieldLinkNest RX2 80 RX1 "change" "I" RX2) (by decide +kernel) rfl) (fun _ h9 => h9) rfl (by decide +kernel) rfl rfl dX2_hours_29 (fun H locs hP hD hS => ?_)
      obtain ⟨sg14, esg14⟩ : ∃ z : Nat → Nat → Int32, z = gw_u sg13 1 (upd (sg13 1) 11 x2) := ⟨_, rfl⟩
      rw [← esg14] at hP hD
      have hk : KG 1 9 6 sg0 sg14 := by rw [esg14]; exact hk.wf (by decide) _
      refine lv_aload_n hx hb dX2_hours_32 rfl (lv_at hl 0 rfl) ?_
      refine gc_go0 (va_runV (As := []) (rest := []) ⟨hx, hb, hml, hown, hts⟩ (m_X2_forgetSearch l hl9 D cI cJ ad sg14 _  hk.1) (cwV 0 hts (gwV a104 a105 a106 a97 a107) rfl rfl rfl (by decide +kernel) ⟨by decide, by decide⟩) (gc_preV0 hK hP hD hS hA hE rfl rfl rfl) rfl rfl hl.1 rfl (lv_room (Nat.le_of_ble_eq_true rfl)) dX2_hours_33 ⟨by decide, by decide⟩) hD hS hA (fun v15 sg17 H locs hp18 hP hD hS => ?_)
      obtain ⟨hk1, rfl⟩ := hp18
      have hk := hk.trans hk1
      refine W.eq (g2 := F0 m 36 ls []) rfl ?_
      exact hret _ _ _ _ _ hP hS dX2_hours_36 (⟨hk, rfl, hk9⟩)
    · obtain ⟨rfl, hq⟩ := hp10
      rw [show sg9 = sg0 from funext (fun k => hb12 k (by simp))] at hP hD
      exact kt _ _ _ _ _ _ _ _ _ _ _ (⟨hk, ⟨rfl, by simp [kHours, kif, ha1, hq]⟩⟩) hc1 hc2 hc3 hP hS (by decide) (by decide)
  · obtain ⟨rfl, hq⟩ := hp4
    rw [show sg3 = sg0 from funext (fun k => hb6 k (by simp))] at hP hD
    exact kt _ _ _ _ _ _ _ _ _ _ _ (⟨hk, ⟨rfl, by simp [kHours, kif, hq]⟩⟩) hc1 hc2 hc3 hP hS (by decide) (by decide)
abbrev rmX2_gives : Room := { frames := 7, cells := 3, slots := 18, locals := 104 }
set_option maxRecDepth 100000 in
set_option maxHeartbeats 4000000 in
theorem m_X2_gives (l : Launch) (hl9 : l.stackTraces = false) (D : va_G) (cI : ClassId) (cJ : ClassId × ClassId) (ad : Nat → Nat) (sg0 : Nat → Nat → Int32) (sz : Nat) (x1 : Int32) (x2 : Int32) (x3 : Int32) (hI : IvG 1 9 6 sg0) : gc_B l yX2_gives wsX2_gives rmX2_gives D vwCl (tyS cI cJ) cI cJ gxT gxN SC [.ref (ad 0), .int x1, .int x2, .int x3] ad sg0 sz 3 18 (fun v sg2 => KG 1 9 6 sg0 sg2 ∧ v = none ∧ kGives (sg0 1 9) x1 x2 x3 = nI 0) (fun E sg2 => KG 1 9 6 sg0 sg2 ∧ ((E = "java/lang/IndexOutOfBoundsException" ∧ kGives (sg0 1 9) x1 x2 x3 = nI 1) ∨ (E = "java/lang/IllegalArgumentException" ∧ kGives (sg0 1 9) x1 x2 x3 = nI 2))) := by
  refine gc_Bv_of (cc := cX2_gives) (maxL := 4) (by decide) rfl (Nat.le_of_ble_eq_true rfl) ?_
  intro p e s m below meth c A ls Q hin hE hret kt kx
  obtain ⟨⟨hx, hb, hml, hown, hts⟩, -, hlocks, -, hA, hP, hK, hD, hS, hl⟩ := hin
  have hts : ∀ w ∈ wsAll, w.before ([.ref (ad 0), .int x1, .int x2, .int x3] : List Value).toArray s = true := fun w h => hts w (List.mem_cons_of_mem _ h)
  have hl : lv_has ls 4 [(0, .ref (ad 0)), (1, .int x1), (2, .int x2), (3, .int x3)] := hl
  have hk := KG.refl hI
  refine lv_iload_n hx hb dX2_gives_0 rfl (lv_at hl 1 rfl) ?_
  refine lv_aload_n hx hb dX2_gives_1 rfl (lv_at hl 0 rfl) ?_
  refine gw_getr (C := RX2) (T := TX2) (N := 6) hx hb hts inwX2 hown hK hP 0 0 1 rfl rfl rfl (by decide) (hts _ a103) (fun _ h9 => h9) dX2_gives_2 ?_
  refine gw_getiN (C := RX1) (T := TX1) (N := 12) hx hb hts inwX1 hown hK hP 1 9 rfl rfl rfl (by decide) (hE.nest _ (.fieldLinkNest RX2 47 RX1 "patterns" "I" RX2) (by decide +kernel) rfl) (fun _ h9 => h9) dX2_gives_5 ?_
  obtain ⟨N, hN, eN⟩ := hk.1.1
  refine gw_top (y := (nI N)) (eN) ?_
  refine gc_goB (pl := []) (S2 := SE) (ad := ad) (sg := sg0) (vx_runS (As := [.int x1, .int (nI N)]) (rest := []) ⟨hx, hb, hml, hown, hts⟩ (m_X2_needIndex l hl9 D cI cJ (fun j => ad (gw_p [] j)) (fun j => sg0 (gw_p [] j)) _ x1 (nI N) ) (cwS 2 hts (gwS a95 a96 a97 a98) rfl rfl rfl (by decide +kernel) ⟨by decide, by decide⟩) (gc_preS hK hP hD hS hA hE rfl) rfl rfl hl.1 rfl (lv_room (Nat.le_of_ble_eq_true rfl)) dX2_gives_8 ⟨by decide, by decide⟩) hP hD hS hA rfl (fun v1 sp2 sg3 H locs hp4 ha5 hb6 hP hD hS => ?_) (fun E9 x9 ce9 sp2 sg3 H locs hp4 hc1 hc2 hc3 ha5 hb6 hP hD hS => ?_)
  · obtain ⟨rfl, ha1⟩ := hp4
    rw [show sg3 = sg0 from funext (fun k => hb6 k (by simp))] at hP hD
    refine W.eq (g2 := F0 m 11 ls []) rfl ?_
    refine lv_iload_n hx hb dX2_gives_11 rfl (lv_at hl 2 rfl) ?_
    refine lv_iconst (v := (nI 4)) hx hb dX2_gives_12 (by decide) ?_
    refine gc_goB (pl := []) (S2 := SE) (ad := ad) (sg := sg0) (vx_runS (As := [.int x2, .int (nI 4)]) (rest := []) ⟨hx, hb, hml, hown, hts⟩ (m_X2_needIndex l hl9 D cI cJ (fun j => ad (gw_p [] j)) (fun j => sg0 (gw_p [] j)) _ x2 (nI 4) ) (cwS 2 hts (gwS a95 a96 a97 a98) rfl rfl rfl (by decide +kernel) ⟨by decide, by decide⟩) (gc_preS hK hP hD hS hA hE rfl) rfl rfl hl.1 rfl (lv_room (Nat.le_of_ble_eq_true rfl)) dX2_gives_13 ⟨by decide, by decide⟩) hP hD hS hA rfl (fun v7 sp8 sg9 H locs hp10 ha11 hb12 hP hD hS => ?_) (fun E9 x9 ce9 sp8 sg9 H locs hp10 hc1 hc2 hc3 ha11 hb12 hP hD hS => ?_)
    · obtain ⟨rfl, ha2⟩ := hp10
      rw [show sg9 = sg0 from funext (fun k => hb12 k (by simp))] at hP hD
      refine W.eq (g2 := F0 m 16 ls []) rfl ?_
      refine lv_iload_n hx hb dX2_gives_16 rfl (lv_at hl 3 rfl) ?_
      refine lv_iconst (v := (nI 0)) hx hb dX2_gives_17 (by decide) ?_
      refine lv_bipush (v := (nI 9)) hx hb dX2_gives_18 (by decide) ?_
      refine gc_goB (pl := []) (S2 := SE) (ad := ad) (sg := sg0) (vx_runS (As := [.int x3, .int (nI 0), .int (nI 9)]) (rest := []) ⟨hx, hb, hml, hown, hts⟩ (m_X2_needRange l hl9 D cI cJ (fun j => ad (gw_p [] j)) (fun j => sg0 (gw_p [] j)) _ x3 (nI 0) (nI 9) ) (cwS 3 hts (gwS a99 a100 a97 a101) rfl rfl rfl (by decide +kernel) ⟨by decide, by decide⟩) (gc_preS hK hP hD hS hA hE rfl) rfl rfl hl.1 rfl (lv_room (Nat.le_of_ble_eq_true rfl)) dX2_gives_20 ⟨by decide, by decide⟩) hP hD hS hA rfl (fun v13 sp14 sg15 H locs hp16 ha17 hb18 hP hD hS => ?_) (fun E9 x9 ce9 sp14 sg15 H locs hp16 hc1 hc2 hc3 ha17 hb18 hP hD hS => ?_)
      · obtain ⟨rfl, ha3⟩ := hp16
        rw [show sg15 = sg0 from funext (fun k => hb18 k (by simp))] at hP hD
        refine W.eq (g2 := F0 m 23 ls []) rfl ?_
        have hk9 : kGives (sg0 1 9) x1 x2 x3 = nI 0 := by simp [kGives, kif, eN, ha1, ix4.mp ha2, ha3]
        obtain ⟨j1, hj1, rfl⟩ := ixofN hN ha1
        obtain ⟨j2, hj2, rfl⟩ := ixof4 ha2
        refine lv_aload_n hx hb dX2_gives_23 rfl (lv_at hl 0 rfl) ?_
        refine gw_getr (C := RX2) (T := TX2) (N := 6) hx hb hts inwX2 hown hK hP 0 0 1 rfl rfl rfl (by decide) (hts _ a103) (fun _ h9 => h9) dX2_gives_24 ?_
        refine gw_getrN (C := RX1) (T := TX1) (N := 12) hx hb hts inwX1 hown hK hP 1 4 8 rfl rfl rfl (by decide) (hE.nest _ (.fieldLinkNest RX2 64 RX1 "boardsALog" "[[I" RX2) (by decide +kernel) rfl) (fun _ h9 => h9) dX2_gives_27 ?_
        refine lv_iload_n hx hb dX2_gives_30 rfl (lv_at hl 1 rfl) ?_
        refine gw_aald hx hb hK hP 8 1 (n := 6) (b := 13) rfl rfl rfl (i := j1) (by omega) (by decide) dX2_gives_31 ?_
        refine lv_iload_n hx hb dX2_gives_32 rfl (lv_at hl 2 rfl) ?_
        refine lv_iload_n hx hb dX2_gives_33 rfl (lv_at hl 3 rfl) ?_
        refine gw_ast hx hb hK hP hD hS (13 + j1) 0 (n := 4) (rowSC _ (by omega)) rfl (i := j2) (by omega) (by decide) dX2_gives_34 (fun H locs hP hD hS => ?_)
        obtain ⟨sg19, esg19⟩ : ∃ z : Nat → Nat → Int32, z = gw_u sg0 (13 + j1) (upd (sg0 (13 + j1)) j2 x3) := ⟨_, rfl⟩
        rw [← esg19] at hP hD
        have hk : KG 1 9 6 sg0 sg19 := by rw [esg19]; exact hk.wa (13 + j1) (by omega) (by omega) _
        refine lv_aload_n hx hb dX2_gives_35 rfl (lv_at hl 0 rfl) ?_
        refine gc_go0 (va_runV (As := []) (rest := []) ⟨hx, hb, hml, hown, hts⟩ (m_X2_forgetSearch l hl9 D cI cJ ad sg19 _  hk.1) (cwV 0 hts (gwV a104 a105 a106 a97 a107) rfl rfl rfl (by decide +kernel) ⟨by decide, by decide⟩) (gc_preV0 hK hP hD hS hA hE rfl rfl rfl) rfl rfl hl.1 rfl (lv_room (Nat.le_of_ble_eq_true rfl)) dX2_gives_36 ⟨by decide, by decide⟩) hD hS hA (fun v20 sg22 H locs hp23 hP hD hS => ?_)
        obtain ⟨hk1, rfl⟩ := hp23
        have hk := hk.trans hk1
        refine W.eq (g2 := F0 m 39 ls []) rfl ?_
        exact hret _ _ _ _ _ hP hS dX2_gives_39 (⟨hk, rfl, hk9⟩)
      · obtain ⟨rfl, hq⟩ := hp16
        rw [show sg15 = sg0 from funext (fun k => hb18 k (by simp))] at hP hD
        exact kt _ _ _ _ _ _ _ _ _ _ _ (⟨hk, Or.inr (⟨rfl, by simp [kGives, kif, eN, ha1, ix4.mp ha2, hq]⟩)⟩) hc1 hc2 hc3 hP hS (by decide) (by decide)
    · obtain ⟨rfl, hq⟩ := hp10
      rw [show sg9 = sg0 from funext (fun k => hb12 k (by simp))] at hP hD
      exact kt _ _ _ _ _ _ _ _ _ _ _ (⟨hk, Or.inl ⟨rfl, by simp [kGives, kif, eN, ha1, (not_congr ix4).mp hq]⟩⟩) hc1 hc2 hc3 hP hS (by decide) (by decide)
  · obtain ⟨rfl, hq⟩ := hp4
    rw [show sg3 = sg0 from funext (fun k => hb6 k (by simp))] at hP hD
    exact kt _ _ _ _ _ _ _ _ _ _ _ (⟨hk, Or.inl ⟨rfl, by simp [kGives, kif, eN, hq]⟩⟩) hc1 hc2 hc3 hP hS (by decide) (by decide)
abbrev rmX2_pattern : Room := { frames := 7, cells := 3, slots := 18, locals := 104 }
set_option maxRecDepth 100000 in
set_option maxHeartbeats 4000000 in
theorem m_X2_pattern (l : Launch) (hl9 : l.stackTraces = false) (D : va_G) (cI : ClassId) (cJ : ClassId × ClassId) (ad : Nat → Nat) (sg0 : Nat → Nat → Int32) (sz : Nat) (x1 : Int32) (x2 : Int32) (hI : IvG 1 9 6 sg0) : gc_B l yX2_pattern wsX2_pattern rmX2_pattern D vwCl (tyS cI cJ) cI cJ gxT gxN SC [.ref (ad 0), .int x1, .int x2] ad sg0 sz 3 18 (fun v sg2 => v = some (.int (sg0 1 9)) ∧ kPattern (sg0 1 9) x1 x2 = nI 0 ∧ IvG 1 9 6 sg2 ∧ sg2 1 9 = sg0 1 9 + 1) (fun E sg2 => KG 1 9 6 sg0 sg2 ∧ ((E = "java/lang/IndexOutOfBoundsException" ∧ kPattern (sg0 1 9) x1 x2 = nI 1) ∨ (E = "java/lang/IllegalArgumentException" ∧ kPattern (sg0 1 9) x1 x2 = nI 2) ∨ (E = "java/lang/IllegalStateException" ∧ kPattern (sg0 1 9) x1 x2 = nI 3))) := by
  refine gc_Bi_of (cc := cX2_pattern) (maxL := 4) (by decide) rfl (Nat.le_of_ble_eq_true rfl) ?_
  intro p e s m below meth c A ls Q hin hE hret kt kx
  obtain ⟨⟨hx, hb, hml, hown, hts⟩, -, hlocks, -, hA, hP, hK, hD, hS, hl⟩ := hin
  have hts : ∀ w ∈ wsAll, w.before ([.ref (ad 0), .int x1, .int x2] : List Value).toArray s = true := fun w h => hts w (List.mem_cons_of_mem _ h)
  have hl : lv_has ls 4 [(0, .ref (ad 0)), (1, .int x1), (2, .int x2)] := hl
  have hk := KG.refl hI
  refine lv_iload_n hx hb dX2_pattern_0 rfl (lv_at hl 1 rfl) ?_
  refine lv_iconst (v := (nI 4)) hx hb dX2_pattern_1 (by decide) ?_
  refine gc_goB (pl := []) (S2 := SE) (ad := ad) (sg := sg0) (vx_runS (As := [.int x1, .int (nI 4)]) (rest := []) ⟨hx, hb, hml, hown, hts⟩ (m_X2_needIndex l hl9 D cI cJ (fun j => ad (gw_p [] j)) (fun j => sg0 (gw_p [] j)) _ x1 (nI 4) ) (cwS 2 hts (gwS a95 a96 a97 a98) rfl rfl rfl (by decide +kernel) ⟨by decide, by decide⟩) (gc_preS hK hP hD hS hA hE rfl) rfl rfl hl.1 rfl (lv_room (Nat.le_of_ble_eq_true rfl)) dX2_pattern_2 ⟨by decide, by decide⟩) hP hD hS hA rfl (fun v1 sp2 sg3 H locs hp4 ha5 hb6 hP hD hS => ?_) (fun E9 x9 ce9 sp2 sg3 H locs hp4 hc1 hc2 hc3 ha5 hb6 hP hD hS => ?_)
  · obtain ⟨rfl, ha1⟩ := hp4
    rw [show sg3 = sg0 from funext (fun k => hb6 k (by simp))] at hP hD
    refine W.eq (g2 := F0 m 5 ls []) rfl ?_
    refine lv_iload_n hx hb dX2_pattern_5 rfl (lv_at hl 2 rfl) ?_
    refine lv_iconst (v := (nI 1)) hx hb dX2_pattern_6 (by decide) ?_
    refine lv_sipush (v := (nI 480)) hx hb dX2_pattern_7 (by decide) ?_
    refine gc_goB (pl := []) (S2 := SE) (ad := ad) (sg := sg0) (vx_runS (As := [.int x2, .int (nI 1), .int (nI 480)]) (rest := []) ⟨hx, hb, hml, hown, hts⟩ (m_X2_needRange l hl9 D cI cJ (fun j => ad (gw_p [] j)) (fun j => sg0 (gw_p [] j)) _ x2 (nI 1) (nI 480) ) (cwS 3 hts (gwS a99 a100 a97 a101) rfl rfl rfl (by decide +kernel) ⟨by decide, by decide⟩) (gc_preS hK hP hD hS hA hE rfl) rfl rfl hl.1 rfl (lv_room (Nat.le_of_ble_eq_true rfl)) dX2_pattern_10 ⟨by decide, by decide⟩) hP hD hS hA rfl (fun v7 sp8 sg9 H locs hp10 ha11 hb12 hP hD hS => ?_) (fun E9 x9 ce9 sp8 sg9 H locs hp10 hc1 hc2 hc3 ha11 hb12 hP hD hS => ?_)
    · obtain ⟨rfl, ha2⟩ := hp10
      rw [show sg9 = sg0 from funext (fun k => hb12 k (by simp))] at hP hD
      refine W.eq (g2 := F0 m 13 ls []) rfl ?_
      refine lv_aload_n hx hb dX2_pattern_13 rfl (lv_at hl 0 rfl) ?_
      refine gw_getr (C := RX2) (T := TX2) (N := 6) hx hb hts inwX2 hown hK hP 0 0 1 rfl rfl rfl (by decide) (hts _ a103) (fun _ h9 => h9) dX2_pattern_14 ?_
      refine gw_getiN (C := RX1) (T := TX1) (N := 12) hx hb hts inwX1 hown hK hP 1 9 rfl rfl rfl (by decide) (hE.nest _ (.fieldLinkNest RX2 47 RX1 "patterns" "I" RX2) (by decide +kernel) rfl) (fun _ h9 => h9) dX2_pattern_17 ?_
      obtain ⟨N, hN, eN⟩ := hk.1.1
      refine gw_top (y := (nI N)) (eN) ?_
      refine lv_istore_n (lv' := [(3, .int (nI N)), (0, .ref (ad 0)), (1, .int x1), (2, .int x2)]) hx hb dX2_pattern_20 rfl hl (by decide) rfl (fun ls hl => ?_)
      refine lv_iload_n hx hb dX2_pattern_21 rfl (lv_at hl 0 rfl) ?_
      refine lv_bipush (v := (nI 6)) hx hb dX2_pattern_22 (by decide) ?_
      refine lv_icmp_lt (tgt := 37) hx hb dX2_pattern_24 (by decide) (fun hlt => ?_) (fun hlt => ?_)
      · have hlt : N < 6 := (nI_ltI (a := N) (b := 6) (by omega) (by omega)).mp hlt
        have hk9 : kPattern (sg0 1 9) x1 x2 = nI 0 := by simp [kPattern, kif, ix4.mp ha1, ha2, eN, nI_ne6 hlt]
        obtain ⟨j1, hj1, rfl⟩ := ixof4 ha1
        refine lv_aload_n hx hb dX2_pattern_37 rfl (lv_at hl 1 rfl) ?_
        refine gw_getr (C := RX2) (T := TX2) (N := 6) hx hb hts inwX2 hown hK hP 0 0 1 rfl rfl rfl (by decide) (hts _ a103) (fun _ h9 => h9) dX2_pattern_38 ?_
        refine gw_getrN (C := RX1) (T := TX1) (N := 12) hx hb hts inwX1 hown hK hP 1 2 6 rfl rfl rfl (by decide) (hE.nest _ (.fieldLinkNest RX2 58 RX1 "classOf" "[I" RX2) (by decide +kernel) rfl) (fun _ h9 => h9) dX2_pattern_41 ?_
        refine lv_iload_n hx hb dX2_pattern_44 rfl (lv_at hl 0 rfl) ?_
        refine lv_iload_n hx hb dX2_pattern_45 rfl (lv_at hl 2 rfl) ?_
        refine gw_ast hx hb hK hP hD hS 6 0 (n := 6) rfl rfl (i := N) (by omega) (by decide) dX2_pattern_46 (fun H locs hP hD hS => ?_)
        obtain ⟨sg13, esg13⟩ : ∃ z : Nat → Nat → Int32, z = gw_u sg0 6 (upd (sg0 6) N (nI j1)) := ⟨_, rfl⟩
        rw [← esg13] at hP hD
        have hk : KG 1 9 6 sg0 sg13 := by rw [esg13]; exact hk.wc _ (by omega)
        refine lv_aload_n hx hb dX2_pattern_47 rfl (lv_at hl 1 rfl) ?_
        refine gw_getr (C := RX2) (T := TX2) (N := 6) hx hb hts inwX2 hown hK hP 0 0 1 rfl rfl rfl (by decide) (hts _ a103) (fun _ h9 => h9) dX2_pattern_48 ?_
        refine gw_getrN (C := RX1) (T := TX1) (N := 12) hx hb hts inwX1 hown hK hP 1 3 7 rfl rfl rfl (by decide) (hE.nest _ (.fieldLinkNest RX2 61 RX1 "minutesALog" "[I" RX2) (by decide +kernel) rfl) (fun _ h9 => h9) dX2_pattern_51 ?_
        refine lv_iload_n hx hb dX2_pattern_54 rfl (lv_at hl 0 rfl) ?_
        refine lv_iload_n hx hb dX2_pattern_55 rfl (lv_at hl 3 rfl) ?_
        refine gw_ast hx hb hK hP hD hS 7 0 (n := 6) rfl rfl (i := N) (by omega) (by decide) dX2_pattern_56 (fun H locs hP hD hS => ?_)
        obtain ⟨sg14, esg14⟩ : ∃ z : Nat → Nat → Int32, z = gw_u sg13 7 (upd (sg13 7) N x2) := ⟨_, rfl⟩
        rw [← esg14] at hP hD
        have hk : KG 1 9 6 sg0 sg14 := by rw [esg14]; exact hk.wa 7 (by omega) (by omega) _
        refine lv_aload_n hx hb dX2_pattern_57 rfl (lv_at hl 1 rfl) ?_
        refine gw_getr (C := RX2) (T := TX2) (N := 6) hx hb hts inwX2 hown hK hP 0 0 1 rfl rfl rfl (by decide) (hts _ a103) (fun _ h9 => h9) dX2_pattern_58 ?_
        refine lv_iload_n hx hb dX2_pattern_61 rfl (lv_at hl 0 rfl) ?_
        refine lv_iconst (v := (nI 1)) hx hb dX2_pattern_62 (by decide) ?_
        refine lv_iadd hx hb dX2_pattern_63 ?_
        refine gw_top (y := (nI (N + 1))) (nI_add _ _) ?_
        refine gw_putN (C := RX1) (T := TX1) (N := 12) (ty := .int) hx hb hts inwX1 tyX1 tyX1_ok nmX1 hown hK hP hD hS 1 9 rfl rfl rfl (by decide) (hE.nest _ (.fieldLinkNest RX2 47 RX1 "patterns" "I" RX2) (by decide +kernel) rfl) (fun _ h9 => h9) rfl (by decide +kernel) rfl rfl dX2_pattern_64 (fun H locs hP hD hS => ?_)
        obtain ⟨sg15, esg15⟩ : ∃ z : Nat → Nat → Int32, z = gw_u sg14 1 (upd (sg14 1) 9 (nI (N + 1))) := ⟨_, rfl⟩
        rw [← esg15] at hP hD
        have hpw : sg15 1 9 = nI (N + 1) := by simp [esg15, gw_u, upd]
        have hk : KG 1 9 6 sg15 sg15 := KG.refl (by rw [esg15]; exact hk.wp (by omega))
        refine lv_aload_n hx hb dX2_pattern_67 rfl (lv_at hl 1 rfl) ?_
        refine gc_go0 (va_runV (As := []) (rest := []) ⟨hx, hb, hml, hown, hts⟩ (m_X2_forgetSearch l hl9 D cI cJ ad sg15 _  hk.1) (cwV 0 hts (gwV a104 a105 a106 a97 a107) rfl rfl rfl (by decide +kernel) ⟨by decide, by decide⟩) (gc_preV0 hK hP hD hS hA hE rfl rfl rfl) rfl rfl hl.1 rfl (lv_room (Nat.le_of_ble_eq_true rfl)) dX2_pattern_68 ⟨by decide, by decide⟩) hD hS hA (fun v16 sg18 H locs hp19 hP hD hS => ?_)
        obtain ⟨hk1, rfl⟩ := hp19
        have hk := hk.trans hk1
        refine W.eq (g2 := F0 m 71 ls []) rfl ?_
        refine lv_iload_n hx hb dX2_pattern_71 rfl (lv_at hl 0 rfl) ?_
        refine W.widen (k := 3) (n := 18) (by decide) (by decide) ?_
        exact hret _ _ _ _ _ _ hP hS dX2_pattern_72 (⟨by rw [eN], hk9, hk.1, by rw [hk.2, hpw, eN]; exact (nI_1 N).symm⟩)
      · have hlt : ¬ (N < 6) := fun q => hlt ((nI_ltI (a := N) (b := 6) (by omega) (by omega)).mpr q)
        obtain ⟨sa9, hstr⟩ := hE.2.2.1 (RX2, 53, "there is no room for a pattern more") (by decide)
        exact kx "java/lang/IllegalStateException" "there is no room for a pattern more" ["java/lang/RuntimeException", "java/lang/Exception"] 51 53 55 sa9 _ _ _ _ _ 27 ls hl9 (by decide) (by decide) (hts _ a4) (hts _ a5) hstr (vx_hat (B := .castable "java/lang/IllegalStateException" "java/lang/IllegalStateException" :: vxD) (fun w hw => hts w (vxg_55 w hw)) vxb_55 (vx_c (hE.nest _ (.castable "java/lang/IllegalStateException" "java/lang/IllegalStateException") (by decide) rfl) (fun w hw => hE.nest _ w (vxDN w hw) (vxDT w hw)))) (by decide +kernel) (hl.1.trans hml.symm) dX2_pattern_27 dX2_pattern_30 dX2_pattern_31 dX2_pattern_33 dX2_pattern_36 (by decide) (by decide) (by decide) (by decide) (by decide) (by decide) (⟨hk, Or.inr (Or.inr (⟨rfl, by simp [kPattern, kif, ix4.mp ha1, ha2, eN, show N = 6 by omega]⟩))⟩) hP hS
    · obtain ⟨rfl, hq⟩ := hp10
      rw [show sg9 = sg0 from funext (fun k => hb12 k (by simp))] at hP hD
      exact kt _ _ _ _ _ _ _ _ _ _ _ (⟨hk, Or.inr (Or.inl ⟨rfl, by simp [kPattern, kif, ix4.mp ha1, hq]⟩)⟩) hc1 hc2 hc3 hP hS (by decide) (by decide)
  · obtain ⟨rfl, hq⟩ := hp4
    rw [show sg3 = sg0 from funext (fun k => hb6 k (by simp))] at hP hD
    exact kt _ _ _ _ _ _ _ _ _ _ _ (⟨hk, Or.inl ⟨rfl, by simp [kPattern, kif, (not_congr ix4).mp hq]⟩⟩) hc1 hc2 hc3 hP hS (by decide) (by decide)
abbrev rmX2_run : Room := { frames := 17, cells := 1, slots := 6, locals := 366 }
set_option maxRecDepth 100000 in
set_option maxHeartbeats 4000000 in
theorem m_X2_run (l : Launch) (hl9 : l.stackTraces = false) (D : va_G) (cI : ClassId) (cJ : ClassId × ClassId) (ad : Nat → Nat) (sg0 : Nat → Nat → Int32) (sz : Nat) (x1 : Int32) (hI : IvG 1 9 6 sg0) : gc_B l yX2_run wsX2_run rmX2_run D vwCl (tyS cI cJ) cI cJ gxT gxN SC [.ref (ad 0), .int x1] ad sg0 sz 1 6 (fun v sg2 => KG 1 9 6 sg0 sg2 ∧ ∃ r : Int32, v = some (.int r)) (fun E sg2 => KG 1 9 6 sg0 sg2 ∧ (E = "java/lang/IllegalArgumentException")) := by
  refine gc_Bi_of (cc := cX2_run) (maxL := 2) (by decide) rfl (Nat.le_of_ble_eq_true rfl) ?_
  intro p e s m below meth c A ls Q hin hE hret kt kx
  obtain ⟨⟨hx, hb, hml, hown, hts⟩, -, hlocks, -, hA, hP, hK, hD, hS, hl⟩ := hin
  have hts : ∀ w ∈ wsAll, w.before ([.ref (ad 0), .int x1] : List Value).toArray s = true := fun w h => hts w (List.mem_cons_of_mem _ h)
  have hl : lv_has ls 2 [(0, .ref (ad 0)), (1, .int x1)] := hl
  have hk := KG.refl hI
  refine lv_iload_n hx hb dX2_run_0 rfl (lv_at hl 1 rfl) ?_
  refine lv_iconst (v := (nI 0)) hx hb dX2_run_1 (by decide) ?_
  refine lv_sipush (v := (nI 20000)) hx hb dX2_run_2 (by decide) ?_
  refine gc_goB (pl := []) (S2 := SE) (ad := ad) (sg := sg0) (vx_runS (As := [.int x1, .int (nI 0), .int (nI 20000)]) (rest := []) ⟨hx, hb, hml, hown, hts⟩ (m_X2_needRange l hl9 D cI cJ (fun j => ad (gw_p [] j)) (fun j => sg0 (gw_p [] j)) _ x1 (nI 0) (nI 20000) ) (cwS 3 hts (gwS a99 a100 a97 a101) rfl rfl rfl (by decide +kernel) ⟨by decide, by decide⟩) (gc_preS hK hP hD hS hA hE rfl) rfl rfl hl.1 rfl (lv_room (Nat.le_of_ble_eq_true rfl)) dX2_run_5 ⟨by decide, by decide⟩) hP hD hS hA rfl (fun v1 sp2 sg3 H locs hp4 ha5 hb6 hP hD hS => ?_) (fun E9 x9 ce9 sp2 sg3 H locs hp4 hc1 hc2 hc3 ha5 hb6 hP hD hS => ?_)
  · obtain ⟨rfl, ha1⟩ := hp4
    rw [show sg3 = sg0 from funext (fun k => hb6 k (by simp))] at hP hD
    refine W.eq (g2 := F0 m 8 ls []) rfl ?_
    refine lv_aload_n hx hb dX2_run_8 rfl (lv_at hl 0 rfl) ?_
    refine gw_getr (C := RX2) (T := TX2) (N := 6) hx hb hts inwX2 hown hK hP 0 1 2 rfl rfl rfl (by decide) (hts _ a94) (fun _ h9 => h9) dX2_run_9 ?_
    refine lv_iload_n hx hb dX2_run_12 rfl (lv_at hl 1 rfl) ?_
    refine lv_iconst (v := (-1)) hx hb dX2_run_13 (by decide) ?_
    refine gc_go (pl := [2, 19, 20, 21, 22, 23, 24, 25, 1, 4, 5, 6, 7, 8, 9, 10, 11, 12, 13, 14, 15, 16, 17, 18]) (S2 := SS) (ad := ad) (sg := sg0) (va_runVN (As := [.int x1, .int (-1)]) (rest := []) ⟨hx, hb, hml, hown, hts⟩ (m_X0_goThroughPlans l hl9 D cI cJ (fun j => ad (gw_p [2, 19, 20, 21, 22, 23, 24, 25, 1, 4, 5, 6, 7, 8, 9, 10, 11, 12, 13, 14, 15, 16, 17, 18] j)) (fun j => sg0 (gw_p [2, 19, 20, 21, 22, 23, 24, 25, 1, 4, 5, 6, 7, 8, 9, 10, 11, 12, 13, 14, 15, 16, 17, 18] j)) _ x1 (-1) hk.1) (⟨va_cnB 2 hts (gwN a110) rfl rfl rfl (hE.2.2.2.1 (.methodLinkNest RX2 83 yX0_goThroughPlans RX2) (by decide +kernel)).2 (hts _ a18) (by decide +kernel) ⟨by decide, by decide⟩, hts _ a108, hts _ a109⟩) (gc_preV hK hP hD hS hA hE rfl rfl rfl rfl) rfl rfl hl.1 rfl (lv_room (Nat.le_of_ble_eq_true rfl)) dX2_run_14 ⟨by decide, by decide⟩) hP hD hS hA rfl (fun v7 sp8 sg9 H locs hp10 ha11 hb12 hP hD hS => ?_)
    obtain ⟨hk1, rfl⟩ := hp10
    have hk : KG 1 9 6 sg0 sg9 := hk.trans (KG.back (y := 8) (c := 11) hk1 ha11 (by decide) (by decide))
    refine W.eq (g2 := F0 m 17 ls []) rfl ?_
    refine lv_aload_n hx hb dX2_run_17 rfl (lv_at hl 0 rfl) ?_
    refine lv_iconst (v := (nI 1)) hx hb dX2_run_18 (by decide) ?_
    refine gw_put (C := RX2) (T := TX2) (N := 6) (ty := .boolean) hx hb hts inwX2 tyX2 tyX2_ok nmX2 hown hK hP hD hS 0 3 rfl rfl rfl (by decide) (hts _ a93) (fun _ h9 => h9) rfl (by decide +kernel) rfl rfl dX2_run_19 (fun H locs hP hD hS => ?_)
    obtain ⟨sg14, esg14⟩ : ∃ z : Nat → Nat → Int32, z = gw_u sg9 0 (upd (sg9 0) 3 (nI 1)) := ⟨_, rfl⟩
    rw [← esg14] at hP hD
    have hk : KG 1 9 6 sg0 sg14 := by rw [esg14]; exact hk.wa 0 (by omega) (by omega) _
    refine lv_aload_n hx hb dX2_run_22 rfl (lv_at hl 0 rfl) ?_
    refine gw_getr (C := RX2) (T := TX2) (N := 6) hx hb hts inwX2 hown hK hP 0 1 2 rfl rfl rfl (by decide) (hts _ a94) (fun _ h9 => h9) dX2_run_23 ?_
    refine gw_getiN (C := RX0) (T := TX0) (N := 15) hx hb hts inwX0 hown hK hP 2 11 rfl rfl rfl (by decide) (hE.nest _ (.fieldLinkNest RX2 90 RX0 "spent" "Z" RX2) (by decide +kernel) rfl) (fun _ h9 => h9) dX2_run_26 ?_
    refine lv_topi (fun v15 hv15 => ?_)
    refine lv_if_eq (tgt := 34) hx hb dX2_run_29 (by decide) (fun hc16 => ?_) (fun hc16 => ?_)
    · refine lv_aload_n hx hb dX2_run_34 rfl (lv_at hl 0 rfl) ?_
      refine gw_getr (C := RX2) (T := TX2) (N := 6) hx hb hts inwX2 hown hK hP 0 1 2 rfl rfl rfl (by decide) (hts _ a94) (fun _ h9 => h9) dX2_run_35 ?_
      refine gw_getiN (C := RX0) (T := TX0) (N := 15) hx hb hts inwX0 hown hK hP 2 12 rfl rfl rfl (by decide) (hE.nest _ (.fieldLinkNest RX2 93 RX0 "found" "Z" RX2) (by decide +kernel) rfl) (fun _ h9 => h9) dX2_run_38 ?_
      refine lv_topi (fun v17 hv17 => ?_)
      refine lv_if_eq (tgt := 48) hx hb dX2_run_41 (by decide) (fun hc18 => ?_) (fun hc18 => ?_)
      · refine lv_iconst (v := (nI 1)) hx hb dX2_run_48 (by decide) ?_
        exact hret _ _ _ _ _ _ hP hS dX2_run_49 (⟨hk, _, rfl⟩)
      · refine lv_iconst (v := (nI 0)) hx hb dX2_run_44 (by decide) ?_
        refine lv_goto (tgt := 49) hx hb dX2_run_45 (by decide) ?_
        exact hret _ _ _ _ _ _ hP hS dX2_run_49 (⟨hk, _, rfl⟩)
    · refine lv_iconst (v := (nI 2)) hx hb dX2_run_32 (by decide) ?_
      exact hret _ _ _ _ _ _ hP hS dX2_run_33 (⟨hk, _, rfl⟩)
  · obtain ⟨rfl, hq⟩ := hp4
    rw [show sg3 = sg0 from funext (fun k => hb6 k (by simp))] at hP hD
    exact kt _ _ _ _ _ _ _ _ _ _ _ (⟨hk, rfl⟩) hc1 hc2 hc3 hP hS (by decide) (by decide)
abbrev rmX2_search : Room := { frames := 7, cells := 2, slots := 12, locals := 103 }
set_option maxRecDepth 100000 in
set_option maxHeartbeats 4000000 in
theorem m_X2_search (l : Launch) (hl9 : l.stackTraces = false) (D : va_G) (cI : ClassId) (cJ : ClassId × ClassId) (ad : Nat → Nat) (sg0 : Nat → Nat → Int32) (sz : Nat) (x1 : Int32) (hI : IvG 1 9 6 sg0) : gc_B l yX2_search wsX2_search rmX2_search D vwCl (tyS cI cJ) cI cJ gxT gxN SC [.ref (ad 0), .int x1] ad sg0 sz 2 12 (fun v sg2 => KG 1 9 6 sg0 sg2 ∧ ∃ r : Int32, v = some (.int r)) (fun E sg2 => KG 1 9 6 sg0 sg2 ∧ (E = "java/lang/IndexOutOfBoundsException" ∨ E = "java/lang/IllegalStateException")) := by
  refine gc_Bi_of (cc := cX2_search) (maxL := 2) (by decide) rfl (Nat.le_of_ble_eq_true rfl) ?_
  intro p e s m below meth c A ls Q hin hE hret kt kx
  obtain ⟨⟨hx, hb, hml, hown, hts⟩, -, hlocks, -, hA, hP, hK, hD, hS, hl⟩ := hin
  have hts : ∀ w ∈ wsAll, w.before ([.ref (ad 0), .int x1] : List Value).toArray s = true := fun w h => hts w (List.mem_cons_of_mem _ h)
  have hl : lv_has ls 2 [(0, .ref (ad 0)), (1, .int x1)] := hl
  have hk := KG.refl hI
  refine lv_iload_n hx hb dX2_search_0 rfl (lv_at hl 1 rfl) ?_
  refine lv_iconst (v := (nI 4)) hx hb dX2_search_1 (by decide) ?_
  refine gc_goB (pl := []) (S2 := SE) (ad := ad) (sg := sg0) (vx_runS (As := [.int x1, .int (nI 4)]) (rest := []) ⟨hx, hb, hml, hown, hts⟩ (m_X2_needIndex l hl9 D cI cJ (fun j => ad (gw_p [] j)) (fun j => sg0 (gw_p [] j)) _ x1 (nI 4) ) (cwS 2 hts (gwS a95 a96 a97 a98) rfl rfl rfl (by decide +kernel) ⟨by decide, by decide⟩) (gc_preS hK hP hD hS hA hE rfl) rfl rfl hl.1 rfl (lv_room (Nat.le_of_ble_eq_true rfl)) dX2_search_2 ⟨by decide, by decide⟩) hP hD hS hA rfl (fun v1 sp2 sg3 H locs hp4 ha5 hb6 hP hD hS => ?_) (fun E9 x9 ce9 sp2 sg3 H locs hp4 hc1 hc2 hc3 ha5 hb6 hP hD hS => ?_)
  · obtain ⟨rfl, ha1⟩ := hp4
    rw [show sg3 = sg0 from funext (fun k => hb6 k (by simp))] at hP hD
    refine W.eq (g2 := F0 m 5 ls []) rfl ?_
    refine lv_aload_n hx hb dX2_search_5 rfl (lv_at hl 0 rfl) ?_
    refine gw_geti (C := RX2) (T := TX2) (N := 6) hx hb hts inwX2 hown hK hP 0 3 rfl rfl rfl (by decide) (hts _ a93) (fun _ h9 => h9) dX2_search_6 ?_
    refine lv_topi (fun v7 hv7 => ?_)
    refine lv_if_ne (tgt := 22) hx hb dX2_search_9 (by decide) (fun hc8 => ?_) (fun hc8 => ?_)
    · obtain ⟨j1, hj1, rfl⟩ := ixof4 ha1
      refine lv_iload_n hx hb dX2_search_22 rfl (lv_at hl 1 rfl) ?_
      rcases (show j1 = 0 ∨ j1 = 1 ∨ j1 = 2 ∨ j1 = 3 by omega) with rfl | rfl | rfl | rfl
      · refine lv_tableIn (tgt := 48) (off := 25) hx hb dX2_search_23 (by decide) (by decide) rfl (by decide) ?_
        refine lv_aload_n hx hb dX2_search_48 rfl (lv_at hl 0 rfl) ?_
        refine gw_getr (C := RX2) (T := TX2) (N := 6) hx hb hts inwX2 hown hK hP 0 1 2 rfl rfl rfl (by decide) (hts _ a94) (fun _ h9 => h9) dX2_search_49 ?_
        refine gw_getiN (C := RX0) (T := TX0) (N := 15) hx hb hts inwX0 hown hK hP 2 10 rfl rfl rfl (by decide) (hE.nest _ (.fieldLinkNest RX2 98 RX0 "steps" "I" RX2) (by decide +kernel) rfl) (fun _ h9 => h9) dX2_search_52 ?_
        refine lv_topi (fun v9 hv9 => ?_)
        refine W.widen (k := 2) (n := 12) (by decide) (by decide) ?_
        exact hret _ _ _ _ _ _ hP hS dX2_search_55 (⟨hk, _, rfl⟩)
      · refine lv_tableIn (tgt := 56) (off := 33) hx hb dX2_search_23 (by decide) (by decide) rfl (by decide) ?_
        refine lv_aload_n hx hb dX2_search_56 rfl (lv_at hl 0 rfl) ?_
        refine gw_getr (C := RX2) (T := TX2) (N := 6) hx hb hts inwX2 hown hK hP 0 1 2 rfl rfl rfl (by decide) (hts _ a94) (fun _ h9 => h9) dX2_search_57 ?_
        refine gw_getiN (C := RX0) (T := TX0) (N := 15) hx hb hts inwX0 hown hK hP 2 11 rfl rfl rfl (by decide) (hE.nest _ (.fieldLinkNest RX2 90 RX0 "spent" "Z" RX2) (by decide +kernel) rfl) (fun _ h9 => h9) dX2_search_60 ?_
        refine lv_topi (fun v10 hv10 => ?_)
        refine lv_if_eq (tgt := 70) hx hb dX2_search_63 (by decide) (fun hc11 => ?_) (fun hc11 => ?_)
        · refine lv_iconst (v := (nI 1)) hx hb dX2_search_70 (by decide) ?_
          refine W.widen (k := 2) (n := 12) (by decide) (by decide) ?_
          exact hret _ _ _ _ _ _ hP hS dX2_search_71 (⟨hk, _, rfl⟩)
        · refine lv_iconst (v := (nI 0)) hx hb dX2_search_66 (by decide) ?_
          refine lv_goto (tgt := 71) hx hb dX2_search_67 (by decide) ?_
          refine W.widen (k := 2) (n := 12) (by decide) (by decide) ?_
          exact hret _ _ _ _ _ _ hP hS dX2_search_71 (⟨hk, _, rfl⟩)
      · refine lv_tableIn (tgt := 72) (off := 49) hx hb dX2_search_23 (by decide) (by decide) rfl (by decide) ?_
        refine lv_aload_n hx hb dX2_search_72 rfl (lv_at hl 0 rfl) ?_
        refine gw_getr (C := RX2) (T := TX2) (N := 6) hx hb hts inwX2 hown hK hP 0 1 2 rfl rfl rfl (by decide) (hts _ a94) (fun _ h9 => h9) dX2_search_73 ?_
        refine gw_getiN (C := RX0) (T := TX0) (N := 15) hx hb hts inwX0 hown hK hP 2 12 rfl rfl rfl (by decide) (hE.nest _ (.fieldLinkNest RX2 93 RX0 "found" "Z" RX2) (by decide +kernel) rfl) (fun _ h9 => h9) dX2_search_76 ?_
        refine lv_topi (fun v12 hv12 => ?_)
        refine lv_if_eq (tgt := 86) hx hb dX2_search_79 (by decide) (fun hc13 => ?_) (fun hc13 => ?_)
        · refine lv_iconst (v := (nI 0)) hx hb dX2_search_86 (by decide) ?_
          refine W.widen (k := 2) (n := 12) (by decide) (by decide) ?_
          exact hret _ _ _ _ _ _ hP hS dX2_search_87 (⟨hk, _, rfl⟩)
        · refine lv_iconst (v := (nI 1)) hx hb dX2_search_82 (by decide) ?_
          refine lv_goto (tgt := 87) hx hb dX2_search_83 (by decide) ?_
          refine W.widen (k := 2) (n := 12) (by decide) (by decide) ?_
          exact hret _ _ _ _ _ _ hP hS dX2_search_87 (⟨hk, _, rfl⟩)
      · refine lv_tableOut (tgt := 88) hx hb dX2_search_23 (by decide) (by decide) ?_
        refine lv_aload_n hx hb dX2_search_88 rfl (lv_at hl 0 rfl) ?_
        refine gw_getr (C := RX2) (T := TX2) (N := 6) hx hb hts inwX2 hown hK hP 0 0 1 rfl rfl rfl (by decide) (hts _ a103) (fun _ h9 => h9) dX2_search_89 ?_
        refine gc_go (pl := [1, 4, 5, 6, 7, 8, 9, 10, 11, 12, 13, 14, 15, 16, 17, 18, 25]) (S2 := SY) (ad := ad) (sg := sg0) (va_runVN (As := []) (rest := []) ⟨hx, hb, hml, hown, hts⟩ (m_X1_boundOfGain l hl9 D cI cJ (fun j => ad (gw_p [1, 4, 5, 6, 7, 8, 9, 10, 11, 12, 13, 14, 15, 16, 17, 18, 25] j)) (fun j => sg0 (gw_p [1, 4, 5, 6, 7, 8, 9, 10, 11, 12, 13, 14, 15, 16, 17, 18, 25] j)) _  hk.1) (⟨va_cnB 0 hts (gwN a113) rfl rfl rfl (hE.2.2.2.1 (.methodLinkNest RX2 101 yX1_boundOfGain RX2) (by decide +kernel)).2 (hts _ a80) (by decide +kernel) ⟨by decide, by decide⟩, hts _ a111, hts _ a112⟩) (gc_preV hK hP hD hS hA hE rfl rfl rfl rfl) rfl rfl hl.1 rfl (lv_room (Nat.le_of_ble_eq_true rfl)) dX2_search_92 ⟨by decide, by decide⟩) hP hD hS hA rfl (fun v14 sp15 sg16 H locs hp17 ha18 hb19 hP hD hS => ?_)
        obtain ⟨hk1, r20, rfl⟩ := hp17
        have hk : KG 1 9 6 sg0 sg16 := hk.trans (KG.back (y := 0) (c := 3) hk1 ha18 (by decide) (by decide))
        refine W.eq (g2 := F0 m 95 ls [.int r20]) rfl ?_
        refine W.widen (k := 2) (n := 12) (by decide) (by decide) ?_
        exact hret _ _ _ _ _ _ hP hS dX2_search_95 (⟨hk, _, rfl⟩)
    · obtain ⟨sa9, hstr⟩ := hE.2.2.1 (RX2, 96, "there was no search since something was told") (by decide)
      exact kx "java/lang/IllegalStateException" "there was no search since something was told" ["java/lang/RuntimeException", "java/lang/Exception"] 51 96 55 sa9 _ _ _ _ _ 12 ls hl9 (by decide) (by decide) (hts _ a4) (hts _ a5) hstr (vx_hat (B := .castable "java/lang/IllegalStateException" "java/lang/IllegalStateException" :: vxD) (fun w hw => hts w (vxg_55 w hw)) vxb_55 (vx_c (hE.nest _ (.castable "java/lang/IllegalStateException" "java/lang/IllegalStateException") (by decide) rfl) (fun w hw => hE.nest _ w (vxDN w hw) (vxDT w hw)))) (by decide +kernel) (hl.1.trans hml.symm) dX2_search_12 dX2_search_15 dX2_search_16 dX2_search_18 dX2_search_21 (by decide) (by decide) (by decide) (by decide) (by decide) (by decide) (⟨hk, Or.inr (rfl)⟩) hP hS
  · obtain ⟨rfl, hq⟩ := hp4
    rw [show sg3 = sg0 from funext (fun k => hb6 k (by simp))] at hP hD
    exact kt _ _ _ _ _ _ _ _ _ _ _ (⟨hk, Or.inl rfl⟩) hc1 hc2 hc3 hP hS (by decide) (by decide)
abbrev rmX2_used : Room := { frames := 7, cells := 2, slots := 12, locals := 103 }
set_option maxRecDepth 100000 in
set_option maxHeartbeats 4000000 in
theorem m_X2_used (l : Launch) (hl9 : l.stackTraces = false) (D : va_G) (cI : ClassId) (cJ : ClassId × ClassId) (ad : Nat → Nat) (sg0 : Nat → Nat → Int32) (sz : Nat) (x1 : Int32) (hI : IvG 1 9 6 sg0) : gc_B l yX2_used wsX2_used rmX2_used D vwCl (tyS cI cJ) cI cJ gxT gxN SC [.ref (ad 0), .int x1] ad sg0 sz 2 12 (fun v sg2 => KG 1 9 6 sg0 sg2 ∧ ∃ r : Int32, v = some (.int r)) (fun E sg2 => KG 1 9 6 sg0 sg2 ∧ (E = "java/lang/IndexOutOfBoundsException" ∨ E = "java/lang/IllegalStateException")) := by
  refine gc_Bi_of (cc := cX2_used) (maxL := 2) (by decide) rfl (Nat.le_of_ble_eq_true rfl) ?_
  intro p e s m below meth c A ls Q hin hE hret kt kx
  obtain ⟨⟨hx, hb, hml, hown, hts⟩, -, hlocks, -, hA, hP, hK, hD, hS, hl⟩ := hin
  have hts : ∀ w ∈ wsAll, w.before ([.ref (ad 0), .int x1] : List Value).toArray s = true := fun w h => hts w (List.mem_cons_of_mem _ h)
  have hl : lv_has ls 2 [(0, .ref (ad 0)), (1, .int x1)] := hl
  have hk := KG.refl hI
  refine lv_iload_n hx hb dX2_used_0 rfl (lv_at hl 1 rfl) ?_
  refine lv_aload_n hx hb dX2_used_1 rfl (lv_at hl 0 rfl) ?_
  refine gw_getr (C := RX2) (T := TX2) (N := 6) hx hb hts inwX2 hown hK hP 0 0 1 rfl rfl rfl (by decide) (hts _ a103) (fun _ h9 => h9) dX2_used_2 ?_
  refine gw_getiN (C := RX1) (T := TX1) (N := 12) hx hb hts inwX1 hown hK hP 1 9 rfl rfl rfl (by decide) (hE.nest _ (.fieldLinkNest RX2 47 RX1 "patterns" "I" RX2) (by decide +kernel) rfl) (fun _ h9 => h9) dX2_used_5 ?_
  obtain ⟨N, hN, eN⟩ := hk.1.1
  refine gw_top (y := (nI N)) (eN) ?_
  refine gc_goB (pl := []) (S2 := SE) (ad := ad) (sg := sg0) (vx_runS (As := [.int x1, .int (nI N)]) (rest := []) ⟨hx, hb, hml, hown, hts⟩ (m_X2_needIndex l hl9 D cI cJ (fun j => ad (gw_p [] j)) (fun j => sg0 (gw_p [] j)) _ x1 (nI N) ) (cwS 2 hts (gwS a95 a96 a97 a98) rfl rfl rfl (by decide +kernel) ⟨by decide, by decide⟩) (gc_preS hK hP hD hS hA hE rfl) rfl rfl hl.1 rfl (lv_room (Nat.le_of_ble_eq_true rfl)) dX2_used_8 ⟨by decide, by decide⟩) hP hD hS hA rfl (fun v1 sp2 sg3 H locs hp4 ha5 hb6 hP hD hS => ?_) (fun E9 x9 ce9 sp2 sg3 H locs hp4 hc1 hc2 hc3 ha5 hb6 hP hD hS => ?_)
  · obtain ⟨rfl, ha1⟩ := hp4
    rw [show sg3 = sg0 from funext (fun k => hb6 k (by simp))] at hP hD
    refine W.eq (g2 := F0 m 11 ls []) rfl ?_
    refine lv_aload_n hx hb dX2_used_11 rfl (lv_at hl 0 rfl) ?_
    refine gw_getr (C := RX2) (T := TX2) (N := 6) hx hb hts inwX2 hown hK hP 0 1 2 rfl rfl rfl (by decide) (hts _ a94) (fun _ h9 => h9) dX2_used_12 ?_
    refine gc_goB (pl := [2, 19, 20, 21, 22, 23, 24, 25, 1, 4, 5, 6, 7, 8, 9, 10, 11, 12, 13, 14, 15, 16, 17, 18]) (S2 := SS) (ad := ad) (sg := sg0) (vx_runS (As := [.ref (ad 2)]) (rest := []) ⟨hx, hb, hml, hown, hts⟩ (m_X2_needBest l hl9 D cI cJ (fun j => ad (gw_p [2, 19, 20, 21, 22, 23, 24, 25, 1, 4, 5, 6, 7, 8, 9, 10, 11, 12, 13, 14, 15, 16, 17, 18] j)) (fun j => sg0 (gw_p [2, 19, 20, 21, 22, 23, 24, 25, 1, 4, 5, 6, 7, 8, 9, 10, 11, 12, 13, 14, 15, 16, 17, 18] j)) _  ) (cwS 1 hts (gwS a114 a115 a97 a116) rfl rfl rfl (by decide +kernel) ⟨by decide, by decide⟩) (gc_preS hK hP hD hS hA hE rfl) rfl rfl hl.1 rfl (lv_room (Nat.le_of_ble_eq_true rfl)) dX2_used_15 ⟨by decide, by decide⟩) hP hD hS hA rfl (fun v7 sp8 sg9 H locs hp10 ha11 hb12 hP hD hS => ?_) (fun E9 x9 ce9 sp8 sg9 H locs hp10 hc1 hc2 hc3 ha11 hb12 hP hD hS => ?_)
    · obtain ⟨rfl, hq1, hq2⟩ := hp10
      rw [gw_same hq1 ha11 hb12 rfl] at hP hD
      refine W.eq (g2 := F0 m 18 ls []) rfl ?_
      obtain ⟨j1, hj1, rfl⟩ := ixofN hN ha1
      refine lv_aload_n hx hb dX2_used_18 rfl (lv_at hl 0 rfl) ?_
      refine gw_getr (C := RX2) (T := TX2) (N := 6) hx hb hts inwX2 hown hK hP 0 1 2 rfl rfl rfl (by decide) (hts _ a94) (fun _ h9 => h9) dX2_used_19 ?_
      refine gw_getrN (C := RX0) (T := TX0) (N := 15) hx hb hts inwX0 hown hK hP 2 14 25 rfl rfl rfl (by decide) (hE.nest _ (.fieldLinkNest RX2 109 RX0 "bestCounts" "[I" RX2) (by decide +kernel) rfl) (fun _ h9 => h9) dX2_used_22 ?_
      refine lv_iload_n hx hb dX2_used_25 rfl (lv_at hl 1 rfl) ?_
      refine gw_ald hx hb hK hP 25 0 (n := 6) rfl rfl (i := j1) (by omega) (by decide) dX2_used_26 ?_
      refine lv_topi (fun v13 hv13 => ?_)
      exact hret _ _ _ _ _ _ hP hS dX2_used_27 (⟨hk, _, rfl⟩)
    · obtain ⟨rfl, hq1, hq2⟩ := hp10
      rw [gw_same hq1 ha11 hb12 rfl] at hP hD
      exact kt _ _ _ _ _ _ _ _ _ _ _ (⟨hk, Or.inr (rfl)⟩) hc1 hc2 hc3 hP hS (by decide) (by decide)
  · obtain ⟨rfl, hq⟩ := hp4
    rw [show sg3 = sg0 from funext (fun k => hb6 k (by simp))] at hP hD
    exact kt _ _ _ _ _ _ _ _ _ _ _ (⟨hk, Or.inl rfl⟩) hc1 hc2 hc3 hP hS (by decide) (by decide)
abbrev rmX2_best : Room := { frames := 7, cells := 2, slots := 12, locals := 103 }
set_option maxRecDepth 100000 in
set_option maxHeartbeats 4000000 in
theorem m_X2_best (l : Launch) (hl9 : l.stackTraces = false) (D : va_G) (cI : ClassId) (cJ : ClassId × ClassId) (ad : Nat → Nat) (sg0 : Nat → Nat → Int32) (sz : Nat) (x1 : Int32) (hI : IvG 1 9 6 sg0) : gc_B l yX2_best wsX2_best rmX2_best D vwCl (tyS cI cJ) cI cJ gxT gxN SC [.ref (ad 0), .int x1] ad sg0 sz 2 12 (fun v sg2 => KG 1 9 6 sg0 sg2 ∧ ∃ r : Int32, v = some (.int r)) (fun E sg2 => KG 1 9 6 sg0 sg2 ∧ (E = "java/lang/IndexOutOfBoundsException" ∨ E = "java/lang/IllegalStateException")) := by
  refine gc_Bi_of (cc := cX2_best) (maxL := 2) (by decide) rfl (Nat.le_of_ble_eq_true rfl) ?_
  intro p e s m below meth c A ls Q hin hE hret kt kx
  obtain ⟨⟨hx, hb, hml, hown, hts⟩, -, hlocks, -, hA, hP, hK, hD, hS, hl⟩ := hin
  have hts : ∀ w ∈ wsAll, w.before ([.ref (ad 0), .int x1] : List Value).toArray s = true := fun w h => hts w (List.mem_cons_of_mem _ h)
  have hl : lv_has ls 2 [(0, .ref (ad 0)), (1, .int x1)] := hl
  have hk := KG.refl hI
  refine lv_iload_n hx hb dX2_best_0 rfl (lv_at hl 1 rfl) ?_
  refine lv_iconst (v := (nI 3)) hx hb dX2_best_1 (by decide) ?_
  refine gc_goB (pl := []) (S2 := SE) (ad := ad) (sg := sg0) (vx_runS (As := [.int x1, .int (nI 3)]) (rest := []) ⟨hx, hb, hml, hown, hts⟩ (m_X2_needIndex l hl9 D cI cJ (fun j => ad (gw_p [] j)) (fun j => sg0 (gw_p [] j)) _ x1 (nI 3) ) (cwS 2 hts (gwS a95 a96 a97 a98) rfl rfl rfl (by decide +kernel) ⟨by decide, by decide⟩) (gc_preS hK hP hD hS hA hE rfl) rfl rfl hl.1 rfl (lv_room (Nat.le_of_ble_eq_true rfl)) dX2_best_2 ⟨by decide, by decide⟩) hP hD hS hA rfl (fun v1 sp2 sg3 H locs hp4 ha5 hb6 hP hD hS => ?_) (fun E9 x9 ce9 sp2 sg3 H locs hp4 hc1 hc2 hc3 ha5 hb6 hP hD hS => ?_)
  · obtain ⟨rfl, ha1⟩ := hp4
    rw [show sg3 = sg0 from funext (fun k => hb6 k (by simp))] at hP hD
    refine W.eq (g2 := F0 m 5 ls []) rfl ?_
    refine lv_aload_n hx hb dX2_best_5 rfl (lv_at hl 0 rfl) ?_
    refine gw_getr (C := RX2) (T := TX2) (N := 6) hx hb hts inwX2 hown hK hP 0 1 2 rfl rfl rfl (by decide) (hts _ a94) (fun _ h9 => h9) dX2_best_6 ?_
    refine gc_goB (pl := [2, 19, 20, 21, 22, 23, 24, 25, 1, 4, 5, 6, 7, 8, 9, 10, 11, 12, 13, 14, 15, 16, 17, 18]) (S2 := SS) (ad := ad) (sg := sg0) (vx_runS (As := [.ref (ad 2)]) (rest := []) ⟨hx, hb, hml, hown, hts⟩ (m_X2_needBest l hl9 D cI cJ (fun j => ad (gw_p [2, 19, 20, 21, 22, 23, 24, 25, 1, 4, 5, 6, 7, 8, 9, 10, 11, 12, 13, 14, 15, 16, 17, 18] j)) (fun j => sg0 (gw_p [2, 19, 20, 21, 22, 23, 24, 25, 1, 4, 5, 6, 7, 8, 9, 10, 11, 12, 13, 14, 15, 16, 17, 18] j)) _  ) (cwS 1 hts (gwS a114 a115 a97 a116) rfl rfl rfl (by decide +kernel) ⟨by decide, by decide⟩) (gc_preS hK hP hD hS hA hE rfl) rfl rfl hl.1 rfl (lv_room (Nat.le_of_ble_eq_true rfl)) dX2_best_9 ⟨by decide, by decide⟩) hP hD hS hA rfl (fun v7 sp8 sg9 H locs hp10 ha11 hb12 hP hD hS => ?_) (fun E9 x9 ce9 sp8 sg9 H locs hp10 hc1 hc2 hc3 ha11 hb12 hP hD hS => ?_)
    · obtain ⟨rfl, hq1, hq2⟩ := hp10
      rw [gw_same hq1 ha11 hb12 rfl] at hP hD
      refine W.eq (g2 := F0 m 12 ls []) rfl ?_
      obtain ⟨j1, hj1, rfl⟩ := ixof3 ha1
      refine lv_iload_n hx hb dX2_best_12 rfl (lv_at hl 1 rfl) ?_
      rcases (show j1 = 0 ∨ j1 = 1 ∨ j1 = 2 by omega) with rfl | rfl | rfl
      · refine lv_lookup (tgt := 40) (off := 27) hx hb dX2_best_13 rfl (by decide) (by decide) ?_
        refine lv_aload_n hx hb dX2_best_40 rfl (lv_at hl 0 rfl) ?_
        refine gw_getr (C := RX2) (T := TX2) (N := 6) hx hb hts inwX2 hown hK hP 0 1 2 rfl rfl rfl (by decide) (hts _ a94) (fun _ h9 => h9) dX2_best_41 ?_
        refine gw_getiN (C := RX0) (T := TX0) (N := 15) hx hb hts inwX0 hown hK hP 2 13 rfl rfl rfl (by decide) (hE.nest _ (.fieldLinkNest RX2 112 RX0 "bestGain" "I" RX2) (by decide +kernel) rfl) (fun _ h9 => h9) dX2_best_44 ?_
        refine lv_topi (fun v13 hv13 => ?_)
        exact hret _ _ _ _ _ _ hP hS dX2_best_47 (⟨hk, _, rfl⟩)
      · refine lv_lookup (tgt := 48) (off := 35) hx hb dX2_best_13 rfl (by decide) (by decide) ?_
        refine lv_aload_n hx hb dX2_best_48 rfl (lv_at hl 0 rfl) ?_
        refine gw_getr (C := RX2) (T := TX2) (N := 6) hx hb hts inwX2 hown hK hP 0 0 1 rfl rfl rfl (by decide) (hts _ a103) (fun _ h9 => h9) dX2_best_49 ?_
        refine lv_aload_n hx hb dX2_best_52 rfl (lv_at hl 0 rfl) ?_
        refine gw_getr (C := RX2) (T := TX2) (N := 6) hx hb hts inwX2 hown hK hP 0 1 2 rfl rfl rfl (by decide) (hts _ a94) (fun _ h9 => h9) dX2_best_53 ?_
        refine gw_getrN (C := RX0) (T := TX0) (N := 15) hx hb hts inwX0 hown hK hP 2 14 25 rfl rfl rfl (by decide) (hE.nest _ (.fieldLinkNest RX2 109 RX0 "bestCounts" "[I" RX2) (by decide +kernel) rfl) (fun _ h9 => h9) dX2_best_56 ?_
        refine gc_go (pl := [1, 4, 5, 6, 7, 8, 9, 10, 11, 12, 13, 14, 15, 16, 17, 18, 25]) (S2 := SY) (ad := ad) (sg := sg0) (va_runVN (As := [.ref (ad 25)]) (rest := []) ⟨hx, hb, hml, hown, hts⟩ (m_X1_minutesOf l hl9 D cI cJ (fun j => ad (gw_p [1, 4, 5, 6, 7, 8, 9, 10, 11, 12, 13, 14, 15, 16, 17, 18, 25] j)) (fun j => sg0 (gw_p [1, 4, 5, 6, 7, 8, 9, 10, 11, 12, 13, 14, 15, 16, 17, 18, 25] j)) _  hk.1) (⟨va_cnB 1 hts (gwN a119) rfl rfl rfl (hE.2.2.2.1 (.methodLinkNest RX2 115 yX1_minutesOf RX2) (by decide +kernel)).2 (hts _ a80) (by decide +kernel) ⟨by decide, by decide⟩, hts _ a117, hts _ a118⟩) (gc_preV hK hP hD hS hA hE rfl rfl rfl rfl) rfl rfl hl.1 rfl (lv_room (Nat.le_of_ble_eq_true rfl)) dX2_best_59 ⟨by decide, by decide⟩) hP hD hS hA rfl (fun v14 sp15 sg16 H locs hp17 ha18 hb19 hP hD hS => ?_)
        obtain ⟨hk1, r20, rfl⟩ := hp17
        have hk : KG 1 9 6 sg0 sg16 := hk.trans (KG.back (y := 0) (c := 3) hk1 ha18 (by decide) (by decide))
        refine W.eq (g2 := F0 m 62 ls [.int r20]) rfl ?_
        exact hret _ _ _ _ _ _ hP hS dX2_best_62 (⟨hk, _, rfl⟩)
      · refine lv_lookup (tgt := 63) (off := 50) hx hb dX2_best_13 rfl (by decide) (by decide) ?_
        refine lv_aload_n hx hb dX2_best_63 rfl (lv_at hl 0 rfl) ?_
        refine gw_getr (C := RX2) (T := TX2) (N := 6) hx hb hts inwX2 hown hK hP 0 0 1 rfl rfl rfl (by decide) (hts _ a103) (fun _ h9 => h9) dX2_best_64 ?_
        refine lv_aload_n hx hb dX2_best_67 rfl (lv_at hl 0 rfl) ?_
        refine gw_getr (C := RX2) (T := TX2) (N := 6) hx hb hts inwX2 hown hK hP 0 1 2 rfl rfl rfl (by decide) (hts _ a94) (fun _ h9 => h9) dX2_best_68 ?_
        refine gw_getrN (C := RX0) (T := TX0) (N := 15) hx hb hts inwX0 hown hK hP 2 14 25 rfl rfl rfl (by decide) (hE.nest _ (.fieldLinkNest RX2 109 RX0 "bestCounts" "[I" RX2) (by decide +kernel) rfl) (fun _ h9 => h9) dX2_best_71 ?_
        refine gc_go (pl := [1, 4, 5, 6, 7, 8, 9, 10, 11, 12, 13, 14, 15, 16, 17, 18, 25]) (S2 := SY) (ad := ad) (sg := sg0) (va_runVN (As := [.ref (ad 25)]) (rest := []) ⟨hx, hb, hml, hown, hts⟩ (m_X1_patternsUsedIn l hl9 D cI cJ (fun j => ad (gw_p [1, 4, 5, 6, 7, 8, 9, 10, 11, 12, 13, 14, 15, 16, 17, 18, 25] j)) (fun j => sg0 (gw_p [1, 4, 5, 6, 7, 8, 9, 10, 11, 12, 13, 14, 15, 16, 17, 18, 25] j)) _  hk.1) (⟨va_cnB 1 hts (gwN a81) rfl rfl rfl (hE.2.2.2.1 (.methodLinkNest RX2 119 yX1_patternsUsedIn RX2) (by decide +kernel)).2 (hts _ a80) (by decide +kernel) ⟨by decide, by decide⟩, hts _ a78, hts _ a79⟩) (gc_preV hK hP hD hS hA hE rfl rfl rfl rfl) rfl rfl hl.1 rfl (lv_room (Nat.le_of_ble_eq_true rfl)) dX2_best_74 ⟨by decide, by decide⟩) hP hD hS hA rfl (fun v21 sp22 sg23 H locs hp24 ha25 hb26 hP hD hS => ?_)
        obtain ⟨hk1, r27, rfl⟩ := hp24
        have hk : KG 1 9 6 sg0 sg23 := hk.trans (KG.back (y := 0) (c := 3) hk1 ha25 (by decide) (by decide))
        refine W.eq (g2 := F0 m 77 ls [.int r27]) rfl ?_
        exact hret _ _ _ _ _ _ hP hS dX2_best_77 (⟨hk, _, rfl⟩)
    · obtain ⟨rfl, hq1, hq2⟩ := hp10
      rw [gw_same hq1 ha11 hb12 rfl] at hP hD
      exact kt _ _ _ _ _ _ _ _ _ _ _ (⟨hk, Or.inr (rfl)⟩) hc1 hc2 hc3 hP hS (by decide) (by decide)
  · obtain ⟨rfl, hq⟩ := hp4
    rw [show sg3 = sg0 from funext (fun k => hb6 k (by simp))] at hP hD
    exact kt _ _ _ _ _ _ _ _ _ _ _ (⟨hk, Or.inl rfl⟩) hc1 hc2 hc3 hP hS (by decide) (by decide)
abbrev rmX2_made : Room := { frames := 7, cells := 2, slots := 12, locals := 103 }
set_option maxRecDepth 100000 in
set_option maxHeartbeats 4000000 in
theorem m_X2_made (l : Launch) (hl9 : l.stackTraces = false) (D : va_G) (cI : ClassId) (cJ : ClassId × ClassId) (ad : Nat → Nat) (sg0 : Nat → Nat → Int32) (sz : Nat) (x1 : Int32) (hI : IvG 1 9 6 sg0) : gc_B l yX2_made wsX2_made rmX2_made D vwCl (tyS cI cJ) cI cJ gxT gxN SC [.ref (ad 0), .int x1] ad sg0 sz 2 12 (fun v sg2 => KG 1 9 6 sg0 sg2 ∧ ∃ r : Int32, v = some (.int r)) (fun E sg2 => KG 1 9 6 sg0 sg2 ∧ (E = "java/lang/IndexOutOfBoundsException" ∨ E = "java/lang/IllegalStateException")) := by
  refine gc_Bi_of (cc := cX2_made) (maxL := 2) (by decide) rfl (Nat.le_of_ble_eq_true rfl) ?_
  intro p e s m below meth c A ls Q hin hE hret kt kx
  obtain ⟨⟨hx, hb, hml, hown, hts⟩, -, hlocks, -, hA, hP, hK, hD, hS, hl⟩ := hin
  have hts : ∀ w ∈ wsAll, w.before ([.ref (ad 0), .int x1] : List Value).toArray s = true := fun w h => hts w (List.mem_cons_of_mem _ h)
  have hl : lv_has ls 2 [(0, .ref (ad 0)), (1, .int x1)] := hl
  have hk := KG.refl hI
  refine lv_iload_n hx hb dX2_made_0 rfl (lv_at hl 1 rfl) ?_
  refine lv_iconst (v := (nI 4)) hx hb dX2_made_1 (by decide) ?_
  refine gc_goB (pl := []) (S2 := SE) (ad := ad) (sg := sg0) (vx_runS (As := [.int x1, .int (nI 4)]) (rest := []) ⟨hx, hb, hml, hown, hts⟩ (m_X2_needIndex l hl9 D cI cJ (fun j => ad (gw_p [] j)) (fun j => sg0 (gw_p [] j)) _ x1 (nI 4) ) (cwS 2 hts (gwS a95 a96 a97 a98) rfl rfl rfl (by decide +kernel) ⟨by decide, by decide⟩) (gc_preS hK hP hD hS hA hE rfl) rfl rfl hl.1 rfl (lv_room (Nat.le_of_ble_eq_true rfl)) dX2_made_2 ⟨by decide, by decide⟩) hP hD hS hA rfl (fun v1 sp2 sg3 H locs hp4 ha5 hb6 hP hD hS => ?_) (fun E9 x9 ce9 sp2 sg3 H locs hp4 hc1 hc2 hc3 ha5 hb6 hP hD hS => ?_)
  · obtain ⟨rfl, ha1⟩ := hp4
    rw [show sg3 = sg0 from funext (fun k => hb6 k (by simp))] at hP hD
    refine W.eq (g2 := F0 m 5 ls []) rfl ?_
    refine lv_aload_n hx hb dX2_made_5 rfl (lv_at hl 0 rfl) ?_
    refine gw_getr (C := RX2) (T := TX2) (N := 6) hx hb hts inwX2 hown hK hP 0 1 2 rfl rfl rfl (by decide) (hts _ a94) (fun _ h9 => h9) dX2_made_6 ?_
    refine gc_goB (pl := [2, 19, 20, 21, 22, 23, 24, 25, 1, 4, 5, 6, 7, 8, 9, 10, 11, 12, 13, 14, 15, 16, 17, 18]) (S2 := SS) (ad := ad) (sg := sg0) (vx_runS (As := [.ref (ad 2)]) (rest := []) ⟨hx, hb, hml, hown, hts⟩ (m_X2_needBest l hl9 D cI cJ (fun j => ad (gw_p [2, 19, 20, 21, 22, 23, 24, 25, 1, 4, 5, 6, 7, 8, 9, 10, 11, 12, 13, 14, 15, 16, 17, 18] j)) (fun j => sg0 (gw_p [2, 19, 20, 21, 22, 23, 24, 25, 1, 4, 5, 6, 7, 8, 9, 10, 11, 12, 13, 14, 15, 16, 17, 18] j)) _  ) (cwS 1 hts (gwS a114 a115 a97 a116) rfl rfl rfl (by decide +kernel) ⟨by decide, by decide⟩) (gc_preS hK hP hD hS hA hE rfl) rfl rfl hl.1 rfl (lv_room (Nat.le_of_ble_eq_true rfl)) dX2_made_9 ⟨by decide, by decide⟩) hP hD hS hA rfl (fun v7 sp8 sg9 H locs hp10 ha11 hb12 hP hD hS => ?_) (fun E9 x9 ce9 sp8 sg9 H locs hp10 hc1 hc2 hc3 ha11 hb12 hP hD hS => ?_)
    · obtain ⟨rfl, hq1, hq2⟩ := hp10
      rw [gw_same hq1 ha11 hb12 rfl] at hP hD
      refine W.eq (g2 := F0 m 12 ls []) rfl ?_
      obtain ⟨j1, hj1, rfl⟩ := ixof4 ha1
      refine lv_aload_n hx hb dX2_made_12 rfl (lv_at hl 0 rfl) ?_
      refine gw_getr (C := RX2) (T := TX2) (N := 6) hx hb hts inwX2 hown hK hP 0 0 1 rfl rfl rfl (by decide) (hts _ a103) (fun _ h9 => h9) dX2_made_13 ?_
      refine lv_aload_n hx hb dX2_made_16 rfl (lv_at hl 0 rfl) ?_
      refine gw_getr (C := RX2) (T := TX2) (N := 6) hx hb hts inwX2 hown hK hP 0 1 2 rfl rfl rfl (by decide) (hts _ a94) (fun _ h9 => h9) dX2_made_17 ?_
      refine gw_getrN (C := RX0) (T := TX0) (N := 15) hx hb hts inwX0 hown hK hP 2 14 25 rfl rfl rfl (by decide) (hE.nest _ (.fieldLinkNest RX2 109 RX0 "bestCounts" "[I" RX2) (by decide +kernel) rfl) (fun _ h9 => h9) dX2_made_20 ?_
      refine lv_iload_n hx hb dX2_made_23 rfl (lv_at hl 1 rfl) ?_
      refine gc_go (pl := [1, 4, 5, 6, 7, 8, 9, 10, 11, 12, 13, 14, 15, 16, 17, 18, 25]) (S2 := SY) (ad := ad) (sg := sg0) (va_runVN (As := [.ref (ad 25), .int (nI j1)]) (rest := []) ⟨hx, hb, hml, hown, hts⟩ (m_X1_madeBy l hl9 D cI cJ (fun j => ad (gw_p [1, 4, 5, 6, 7, 8, 9, 10, 11, 12, 13, 14, 15, 16, 17, 18, 25] j)) (fun j => sg0 (gw_p [1, 4, 5, 6, 7, 8, 9, 10, 11, 12, 13, 14, 15, 16, 17, 18, 25] j)) _ j1 (by omega) hk.1) (⟨va_cnB 2 hts (gwN a91) rfl rfl rfl (hE.2.2.2.1 (.methodLinkNest RX2 122 yX1_madeBy RX2) (by decide +kernel)).2 (hts _ a80) (by decide +kernel) ⟨by decide, by decide⟩, hts _ a89, hts _ a90⟩) (gc_preV hK hP hD hS hA hE rfl rfl rfl rfl) rfl rfl hl.1 rfl (lv_room (Nat.le_of_ble_eq_true rfl)) dX2_made_24 ⟨by decide, by decide⟩) hP hD hS hA rfl (fun v13 sp14 sg15 H locs hp16 ha17 hb18 hP hD hS => ?_)
      obtain ⟨hk1, r19, rfl⟩ := hp16
      have hk : KG 1 9 6 sg0 sg15 := hk.trans (KG.back (y := 0) (c := 3) hk1 ha17 (by decide) (by decide))
      refine W.eq (g2 := F0 m 27 ls [.int r19]) rfl ?_
      exact hret _ _ _ _ _ _ hP hS dX2_made_27 (⟨hk, _, rfl⟩)
    · obtain ⟨rfl, hq1, hq2⟩ := hp10
      rw [gw_same hq1 ha11 hb12 rfl] at hP hD
      exact kt _ _ _ _ _ _ _ _ _ _ _ (⟨hk, Or.inr (rfl)⟩) hc1 hc2 hc3 hP hS (by decide) (by decide)
  · obtain ⟨rfl, hq⟩ := hp4
    rw [show sg3 = sg0 from funext (fun k => hb6 k (by simp))] at hP hD
    exact kt _ _ _ _ _ _ _ _ _ _ _ (⟨hk, Or.inl rfl⟩) hc1 hc2 hc3 hP hS (by decide) (by decide)
abbrev rmX2_saw : Room := { frames := 7, cells := 1, slots := 6, locals := 102 }
set_option maxRecDepth 100000 in
set_option maxHeartbeats 4000000 in
theorem m_X2_saw (l : Launch) (hl9 : l.stackTraces = false) (D : va_G) (cI : ClassId) (cJ : ClassId × ClassId) (ad : Nat → Nat) (sg0 : Nat → Nat → Int32) (sz : Nat) (hI : IvG 1 9 6 sg0) : gc_B l yX2_saw wsX2_saw rmX2_saw D vwCl (tyS cI cJ) cI cJ gxT gxN SC [.ref (ad 0)] ad sg0 sz 1 6 (fun v sg2 => KG 1 9 6 sg0 sg2 ∧ ∃ r : Int32, v = some (.int r)) (fun E sg2 => KG 1 9 6 sg0 sg2 ∧ (E = "java/lang/IllegalStateException")) := by
  refine gc_Bi_of (cc := cX2_saw) (maxL := 2) (by decide) rfl (Nat.le_of_ble_eq_true rfl) ?_
  intro p e s m below meth c A ls Q hin hE hret kt kx
  obtain ⟨⟨hx, hb, hml, hown, hts⟩, -, hlocks, -, hA, hP, hK, hD, hS, hl⟩ := hin
  have hts : ∀ w ∈ wsAll, w.before ([.ref (ad 0)] : List Value).toArray s = true := fun w h => hts w (List.mem_cons_of_mem _ h)
  have hl : lv_has ls 2 [(0, .ref (ad 0))] := hl
  have hk := KG.refl hI
  refine lv_aload_n hx hb dX2_saw_0 rfl (lv_at hl 0 rfl) ?_
  refine gw_getr (C := RX2) (T := TX2) (N := 6) hx hb hts inwX2 hown hK hP 0 1 2 rfl rfl rfl (by decide) (hts _ a94) (fun _ h9 => h9) dX2_saw_1 ?_
  refine gc_goB (pl := [2, 19, 20, 21, 22, 23, 24, 25, 1, 4, 5, 6, 7, 8, 9, 10, 11, 12, 13, 14, 15, 16, 17, 18]) (S2 := SS) (ad := ad) (sg := sg0) (vx_runS (As := [.ref (ad 2)]) (rest := []) ⟨hx, hb, hml, hown, hts⟩ (m_X2_needBest l hl9 D cI cJ (fun j => ad (gw_p [2, 19, 20, 21, 22, 23, 24, 25, 1, 4, 5, 6, 7, 8, 9, 10, 11, 12, 13, 14, 15, 16, 17, 18] j)) (fun j => sg0 (gw_p [2, 19, 20, 21, 22, 23, 24, 25, 1, 4, 5, 6, 7, 8, 9, 10, 11, 12, 13, 14, 15, 16, 17, 18] j)) _  ) (cwS 1 hts (gwS a114 a115 a97 a116) rfl rfl rfl (by decide +kernel) ⟨by decide, by decide⟩) (gc_preS hK hP hD hS hA hE rfl) rfl rfl hl.1 rfl (lv_room (Nat.le_of_ble_eq_true rfl)) dX2_saw_4 ⟨by decide, by decide⟩) hP hD hS hA rfl (fun v1 sp2 sg3 H locs hp4 ha5 hb6 hP hD hS => ?_) (fun E9 x9 ce9 sp2 sg3 H locs hp4 hc1 hc2 hc3 ha5 hb6 hP hD hS => ?_)
  · obtain ⟨rfl, hq1, hq2⟩ := hp4
    rw [gw_same hq1 ha5 hb6 rfl] at hP hD
    refine W.eq (g2 := F0 m 7 ls []) rfl ?_
    refine lv_aload_n hx hb dX2_saw_7 rfl (lv_at hl 0 rfl) ?_
    refine gw_getr (C := RX2) (T := TX2) (N := 6) hx hb hts inwX2 hown hK hP 0 1 2 rfl rfl rfl (by decide) (hts _ a94) (fun _ h9 => h9) dX2_saw_8 ?_
    refine gw_getiN (C := RX0) (T := TX0) (N := 15) hx hb hts inwX0 hown hK hP 2 13 rfl rfl rfl (by decide) (hE.nest _ (.fieldLinkNest RX2 112 RX0 "bestGain" "I" RX2) (by decide +kernel) rfl) (fun _ h9 => h9) dX2_saw_11 ?_
    refine lv_topi (fun v7 hv7 => ?_)
    refine lv_istore_n (lv' := [(1, .int v7), (0, .ref (ad 0))]) hx hb dX2_saw_14 rfl hl (by decide) rfl (fun ls hl => ?_)
    refine lv_aload_n hx hb dX2_saw_15 rfl (lv_at hl 1 rfl) ?_
    refine gw_getr (C := RX2) (T := TX2) (N := 6) hx hb hts inwX2 hown hK hP 0 0 1 rfl rfl rfl (by decide) (hts _ a103) (fun _ h9 => h9) dX2_saw_16 ?_
    refine lv_aload_n hx hb dX2_saw_19 rfl (lv_at hl 1 rfl) ?_
    refine gw_getr (C := RX2) (T := TX2) (N := 6) hx hb hts inwX2 hown hK hP 0 1 2 rfl rfl rfl (by decide) (hts _ a94) (fun _ h9 => h9) dX2_saw_20 ?_
    refine gw_getrN (C := RX0) (T := TX0) (N := 15) hx hb hts inwX0 hown hK hP 2 14 25 rfl rfl rfl (by decide) (hE.nest _ (.fieldLinkNest RX2 109 RX0 "bestCounts" "[I" RX2) (by decide +kernel) rfl) (fun _ h9 => h9) dX2_saw_23 ?_
    refine gc_go (pl := [1, 4, 5, 6, 7, 8, 9, 10, 11, 12, 13, 14, 15, 16, 17, 18, 25]) (S2 := SY) (ad := ad) (sg := sg0) (va_runVN (As := [.ref (ad 25)]) (rest := []) ⟨hx, hb, hml, hown, hts⟩ (m_X1_doPlan l hl9 D cI cJ (fun j => ad (gw_p [1, 4, 5, 6, 7, 8, 9, 10, 11, 12, 13, 14, 15, 16, 17, 18, 25] j)) (fun j => sg0 (gw_p [1, 4, 5, 6, 7, 8, 9, 10, 11, 12, 13, 14, 15, 16, 17, 18, 25] j)) _  hk.1) (⟨va_cnB 1 hts (gwN a122) rfl rfl rfl (hE.2.2.2.1 (.methodLinkNest RX2 126 yX1_doPlan RX2) (by decide +kernel)).2 (hts _ a80) (by decide +kernel) ⟨by decide, by decide⟩, hts _ a120, hts _ a121⟩) (gc_preV hK hP hD hS hA hE rfl rfl rfl rfl) rfl rfl hl.1 rfl (lv_room (Nat.le_of_ble_eq_true rfl)) dX2_saw_26 ⟨by decide, by decide⟩) hP hD hS hA rfl (fun v8 sp9 sg10 H locs hp11 ha12 hb13 hP hD hS => ?_)
    obtain ⟨hk1, rfl⟩ := hp11
    have hk : KG 1 9 6 sg0 sg10 := hk.trans (KG.back (y := 0) (c := 3) hk1 ha12 (by decide) (by decide))
    refine W.eq (g2 := F0 m 29 ls []) rfl ?_
    refine lv_aload_n hx hb dX2_saw_29 rfl (lv_at hl 1 rfl) ?_
    refine lv_dup hx hb dX2_saw_30 rfl ?_
    refine gw_geti (C := RX2) (T := TX2) (N := 6) hx hb hts inwX2 hown hK hP 0 5 rfl rfl rfl (by decide) (hts _ a123) (fun _ h9 => h9) dX2_saw_31 ?_
    refine lv_topi (fun v15 hv15 => ?_)
    refine lv_iload_n hx hb dX2_saw_34 rfl (lv_at hl 0 rfl) ?_
    refine lv_iadd hx hb dX2_saw_35 ?_
    refine lv_topi (fun v16 hv16 => ?_)
    refine gw_put (C := RX2) (T := TX2) (N := 6) (ty := .int) hx hb hts inwX2 tyX2 tyX2_ok nmX2 hown hK hP hD hS 0 5 rfl rfl rfl (by decide) (hts _ a123) (fun _ h9 => h9) rfl (by decide +kernel) rfl rfl dX2_saw_36 (fun H locs hP hD hS => ?_)
    obtain ⟨sg17, esg17⟩ : ∃ z : Nat → Nat → Int32, z = gw_u sg10 0 (upd (sg10 0) 5 v16) := ⟨_, rfl⟩
    rw [← esg17] at hP hD
    have hk : KG 1 9 6 sg0 sg17 := by rw [esg17]; exact hk.wa 0 (by omega) (by omega) _
    refine lv_aload_n hx hb dX2_saw_39 rfl (lv_at hl 1 rfl) ?_
    refine lv_dup hx hb dX2_saw_40 rfl ?_
    refine gw_geti (C := RX2) (T := TX2) (N := 6) hx hb hts inwX2 hown hK hP 0 4 rfl rfl rfl (by decide) (hts _ a124) (fun _ h9 => h9) dX2_saw_41 ?_
    refine lv_topi (fun v18 hv18 => ?_)
    refine lv_iconst (v := (nI 1)) hx hb dX2_saw_44 (by decide) ?_
    refine lv_iadd hx hb dX2_saw_45 ?_
    refine lv_topi (fun v19 hv19 => ?_)
    refine gw_put (C := RX2) (T := TX2) (N := 6) (ty := .int) hx hb hts inwX2 tyX2 tyX2_ok nmX2 hown hK hP hD hS 0 4 rfl rfl rfl (by decide) (hts _ a124) (fun _ h9 => h9) rfl (by decide +kernel) rfl rfl dX2_saw_46 (fun H locs hP hD hS => ?_)
    obtain ⟨sg20, esg20⟩ : ∃ z : Nat → Nat → Int32, z = gw_u sg17 0 (upd (sg17 0) 4 v19) := ⟨_, rfl⟩
    rw [← esg20] at hP hD
    have hk : KG 1 9 6 sg0 sg20 := by rw [esg20]; exact hk.wa 0 (by omega) (by omega) _
    refine lv_aload_n hx hb dX2_saw_49 rfl (lv_at hl 1 rfl) ?_
    refine gw_getr (C := RX2) (T := TX2) (N := 6) hx hb hts inwX2 hown hK hP 0 1 2 rfl rfl rfl (by decide) (hts _ a94) (fun _ h9 => h9) dX2_saw_50 ?_
    refine lv_iconst (v := (nI 0)) hx hb dX2_saw_53 (by decide) ?_
    refine gw_putN (C := RX0) (T := TX0) (N := 15) (ty := .boolean) hx hb hts inwX0 tyX0 tyX0_ok nmX0 hown hK hP hD hS 2 12 rfl rfl rfl (by decide) (hE.nest _ (.fieldLinkNest RX2 93 RX0 "found" "Z" RX2) (by decide +kernel) rfl) (fun _ h9 => h9) rfl (by decide +kernel) rfl rfl dX2_saw_54 (fun H locs hP hD hS => ?_)
    obtain ⟨sg21, esg21⟩ : ∃ z : Nat → Nat → Int32, z = gw_u sg20 2 (upd (sg20 2) 12 (nI 0)) := ⟨_, rfl⟩
    rw [← esg21] at hP hD
    have hk : KG 1 9 6 sg0 sg21 := by rw [esg21]; exact hk.wa 2 (by omega) (by omega) _
    refine lv_iload_n hx hb dX2_saw_57 rfl (lv_at hl 0 rfl) ?_
    exact hret _ _ _ _ _ _ hP hS dX2_saw_58 (⟨hk, _, rfl⟩)
  · obtain ⟨rfl, hq1, hq2⟩ := hp4
    rw [gw_same hq1 ha5 hb6 rfl] at hP hD
    exact kt _ _ _ _ _ _ _ _ _ _ _ (⟨hk, rfl⟩) hc1 hc2 hc3 hP hS (by decide) (by decide)
abbrev rmX2_mill : Room := { frames := 7, cells := 1, slots := 6, locals := 103 }
set_option maxRecDepth 100000 in
set_option maxHeartbeats 4000000 in
theorem m_X2_mill (l : Launch) (hl9 : l.stackTraces = false) (D : va_G) (cI : ClassId) (cJ : ClassId × ClassId) (ad : Nat → Nat) (sg0 : Nat → Nat → Int32) (sz : Nat) (x1 : Int32) (hI : IvG 1 9 6 sg0) : gc_B l yX2_mill wsX2_mill rmX2_mill D vwCl (tyS cI cJ) cI cJ gxT gxN SC [.ref (ad 0), .int x1] ad sg0 sz 1 6 (fun v sg2 => KG 1 9 6 sg0 sg2 ∧ ∃ r : Int32, v = some (.int r)) (fun E sg2 => KG 1 9 6 sg0 sg2 ∧ (E = "java/lang/IndexOutOfBoundsException")) := by
  refine gc_Bi_of (cc := cX2_mill) (maxL := 2) (by decide) rfl (Nat.le_of_ble_eq_true rfl) ?_
  intro p e s m below meth c A ls Q hin hE hret kt kx
  obtain ⟨⟨hx, hb, hml, hown, hts⟩, -, hlocks, -, hA, hP, hK, hD, hS, hl⟩ := hin
  have hts : ∀ w ∈ wsAll, w.before ([.ref (ad 0), .int x1] : List Value).toArray s = true := fun w h => hts w (List.mem_cons_of_mem _ h)
  have hl : lv_has ls 2 [(0, .ref (ad 0)), (1, .int x1)] := hl
  have hk := KG.refl hI
  refine lv_iload_n hx hb dX2_mill_0 rfl (lv_at hl 1 rfl) ?_
  refine lv_bipush (v := (nI 6)) hx hb dX2_mill_1 (by decide) ?_
  refine gc_goB (pl := []) (S2 := SE) (ad := ad) (sg := sg0) (vx_runS (As := [.int x1, .int (nI 6)]) (rest := []) ⟨hx, hb, hml, hown, hts⟩ (m_X2_needIndex l hl9 D cI cJ (fun j => ad (gw_p [] j)) (fun j => sg0 (gw_p [] j)) _ x1 (nI 6) ) (cwS 2 hts (gwS a95 a96 a97 a98) rfl rfl rfl (by decide +kernel) ⟨by decide, by decide⟩) (gc_preS hK hP hD hS hA hE rfl) rfl rfl hl.1 rfl (lv_room (Nat.le_of_ble_eq_true rfl)) dX2_mill_3 ⟨by decide, by decide⟩) hP hD hS hA rfl (fun v1 sp2 sg3 H locs hp4 ha5 hb6 hP hD hS => ?_) (fun E9 x9 ce9 sp2 sg3 H locs hp4 hc1 hc2 hc3 ha5 hb6 hP hD hS => ?_)
  · obtain ⟨rfl, ha1⟩ := hp4
    rw [show sg3 = sg0 from funext (fun k => hb6 k (by simp))] at hP hD
    refine W.eq (g2 := F0 m 6 ls []) rfl ?_
    obtain ⟨j1, hj1, rfl⟩ := ixof6 ha1
    refine lv_iload_n hx hb dX2_mill_6 rfl (lv_at hl 1 rfl) ?_
    rcases (show j1 = 0 ∨ j1 = 1 ∨ 2 ≤ j1 by omega) with rfl | rfl | hj2
    · refine lv_lookup (tgt := 32) (off := 25) hx hb dX2_mill_7 rfl (by decide) (by decide) ?_
      refine lv_aload_n hx hb dX2_mill_32 rfl (lv_at hl 0 rfl) ?_
      refine gw_geti (C := RX2) (T := TX2) (N := 6) hx hb hts inwX2 hown hK hP 0 4 rfl rfl rfl (by decide) (hts _ a124) (fun _ h9 => h9) dX2_mill_33 ?_
      refine lv_topi (fun v7 hv7 => ?_)
      exact hret _ _ _ _ _ _ hP hS dX2_mill_36 (⟨hk, _, rfl⟩)
    · refine lv_lookup (tgt := 37) (off := 30) hx hb dX2_mill_7 rfl (by decide) (by decide) ?_
      refine lv_aload_n hx hb dX2_mill_37 rfl (lv_at hl 0 rfl) ?_
      refine gw_geti (C := RX2) (T := TX2) (N := 6) hx hb hts inwX2 hown hK hP 0 5 rfl rfl rfl (by decide) (hts _ a123) (fun _ h9 => h9) dX2_mill_38 ?_
      refine lv_topi (fun v8 hv8 => ?_)
      exact hret _ _ _ _ _ _ hP hS dX2_mill_41 (⟨hk, _, rfl⟩)
    · refine lv_lookup (tgt := 42) (off := 35) hx hb dX2_mill_7 rfl (mill_off hj1 hj2) (by decide) ?_
      refine lv_aload_n hx hb dX2_mill_42 rfl (lv_at hl 0 rfl) ?_
      refine gw_getr (C := RX2) (T := TX2) (N := 6) hx hb hts inwX2 hown hK hP 0 0 1 rfl rfl rfl (by decide) (hts _ a103) (fun _ h9 => h9) dX2_mill_43 ?_
      refine gw_getrN (C := RX1) (T := TX1) (N := 12) hx hb hts inwX1 hown hK hP 1 8 12 rfl rfl rfl (by decide) (hE.nest _ (.fieldLinkNest RX2 136 RX1 "stock" "[I" RX2) (by decide +kernel) rfl) (fun _ h9 => h9) dX2_mill_46 ?_
      refine lv_iload_n hx hb dX2_mill_49 rfl (lv_at hl 1 rfl) ?_
      refine lv_iconst (v := (nI 2)) hx hb dX2_mill_50 (by decide) ?_
      refine lv_isub hx hb dX2_mill_51 ?_
      refine gw_top (y := (nI (j1 - 2))) (nI_sub hj2) ?_
      refine gw_ald hx hb hK hP 12 0 (n := 4) rfl rfl (i := j1 - 2) (by omega) (by decide) dX2_mill_52 ?_
      refine lv_topi (fun v9 hv9 => ?_)
      exact hret _ _ _ _ _ _ hP hS dX2_mill_53 (⟨hk, _, rfl⟩)
  · obtain ⟨rfl, hq⟩ := hp4
    rw [show sg3 = sg0 from funext (fun k => hb6 k (by simp))] at hP hD
    exact kt _ _ _ _ _ _ _ _ _ _ _ (⟨hk, rfl⟩) hc1 hc2 hc3 hP hS (by decide) (by decide)
abbrev rmX2_gainOfTrial : Room := { frames := 17, cells := 1, slots := 6, locals := 366 }
set_option maxRecDepth 100000 in
set_option maxHeartbeats 4000000 in
theorem m_X2_gainOfTrial (l : Launch) (hl9 : l.stackTraces = false) (D : va_G) (cI : ClassId) (cJ : ClassId × ClassId) (ad : Nat → Nat) (sg0 : Nat → Nat → Int32) (sz : Nat) (x1 : Int32) (x2 : Int32) (hI : IvG 1 9 6 sg0) : gc_B l yX2_gainOfTrial wsX2_gainOfTrial rmX2_gainOfTrial D vwCl (tyS cI cJ) cI cJ gxT gxN SC [.ref (ad 0), .int x1, .int x2] ad sg0 sz 1 6 (fun v sg2 => KG 1 9 6 sg0 sg2 ∧ ∃ r : Int32, v = some (.int r)) (fun E sg2 => KG 1 9 6 sg0 sg2 ∧ (E = "java/lang/IllegalStateException")) := by
  refine gc_Bi_of (cc := cX2_gainOfTrial) (maxL := 3) (by decide) rfl (Nat.le_of_ble_eq_true rfl) ?_
  intro p e s m below meth c A ls Q hin hE hret kt kx
  obtain ⟨⟨hx, hb, hml, hown, hts⟩, -, hlocks, -, hA, hP, hK, hD, hS, hl⟩ := hin
  have hts : ∀ w ∈ wsAll, w.before ([.ref (ad 0), .int x1, .int x2] : List Value).toArray s = true := fun w h => hts w (List.mem_cons_of_mem _ h)
  have hl : lv_has ls 3 [(0, .ref (ad 0)), (1, .int x1), (2, .int x2)] := hl
  have hk := KG.refl hI
  refine lv_aload_n hx hb dX2_gainOfTrial_0 rfl (lv_at hl 0 rfl) ?_
  refine gw_getr (C := RX2) (T := TX2) (N := 6) hx hb hts inwX2 hown hK hP 0 2 3 rfl rfl rfl (by decide) (hts _ a125) (fun _ h9 => h9) dX2_gainOfTrial_1 ?_
  refine lv_iload_n hx hb dX2_gainOfTrial_4 rfl (lv_at hl 1 rfl) ?_
  refine lv_iload_n hx hb dX2_gainOfTrial_5 rfl (lv_at hl 2 rfl) ?_
  refine gc_go (pl := [3, 26, 27, 28, 29, 30, 31, 32, 1, 4, 5, 6, 7, 8, 9, 10, 11, 12, 13, 14, 15, 16, 17, 18]) (S2 := SS) (ad := ad) (sg := sg0) (va_runVN (As := [.int x1, .int x2]) (rest := []) ⟨hx, hb, hml, hown, hts⟩ (m_X0_goThroughPlans l hl9 D cI cJ (fun j => ad (gw_p [3, 26, 27, 28, 29, 30, 31, 32, 1, 4, 5, 6, 7, 8, 9, 10, 11, 12, 13, 14, 15, 16, 17, 18] j)) (fun j => sg0 (gw_p [3, 26, 27, 28, 29, 30, 31, 32, 1, 4, 5, 6, 7, 8, 9, 10, 11, 12, 13, 14, 15, 16, 17, 18] j)) _ x1 x2 hk.1) (⟨va_cnB 2 hts (gwN a110) rfl rfl rfl (hE.2.2.2.1 (.methodLinkNest RX2 83 yX0_goThroughPlans RX2) (by decide +kernel)).2 (hts _ a18) (by decide +kernel) ⟨by decide, by decide⟩, hts _ a108, hts _ a109⟩) (gc_preV hK hP hD hS hA hE rfl rfl rfl rfl) rfl rfl hl.1 rfl (lv_room (Nat.le_of_ble_eq_true rfl)) dX2_gainOfTrial_6 ⟨by decide, by decide⟩) hP hD hS hA rfl (fun v1 sp2 sg3 H locs hp4 ha5 hb6 hP hD hS => ?_)
  obtain ⟨hk1, rfl⟩ := hp4
  have hk : KG 1 9 6 sg0 sg3 := hk.trans (KG.back (y := 8) (c := 11) hk1 ha5 (by decide) (by decide))
  refine W.eq (g2 := F0 m 9 ls []) rfl ?_
  refine lv_aload_n hx hb dX2_gainOfTrial_9 rfl (lv_at hl 0 rfl) ?_
  refine gw_getr (C := RX2) (T := TX2) (N := 6) hx hb hts inwX2 hown hK hP 0 2 3 rfl rfl rfl (by decide) (hts _ a125) (fun _ h9 => h9) dX2_gainOfTrial_10 ?_
  refine gc_goB (pl := [3, 26, 27, 28, 29, 30, 31, 32, 1, 4, 5, 6, 7, 8, 9, 10, 11, 12, 13, 14, 15, 16, 17, 18]) (S2 := SS) (ad := ad) (sg := sg3) (vx_runS (As := [.ref (ad 3)]) (rest := []) ⟨hx, hb, hml, hown, hts⟩ (m_X2_needBest l hl9 D cI cJ (fun j => ad (gw_p [3, 26, 27, 28, 29, 30, 31, 32, 1, 4, 5, 6, 7, 8, 9, 10, 11, 12, 13, 14, 15, 16, 17, 18] j)) (fun j => sg3 (gw_p [3, 26, 27, 28, 29, 30, 31, 32, 1, 4, 5, 6, 7, 8, 9, 10, 11, 12, 13, 14, 15, 16, 17, 18] j)) _  ) (cwS 1 hts (gwS a114 a115 a97 a116) rfl rfl rfl (by decide +kernel) ⟨by decide, by decide⟩) (gc_preS hK hP hD hS hA hE rfl) rfl rfl hl.1 rfl (lv_room (Nat.le_of_ble_eq_true rfl)) dX2_gainOfTrial_13 ⟨by decide, by decide⟩) hP hD hS hA rfl (fun v8 sp9 sg10 H locs hp11 ha12 hb13 hP hD hS => ?_) (fun E9 x9 ce9 sp9 sg10 H locs hp11 hc1 hc2 hc3 ha12 hb13 hP hD hS => ?_)
  · obtain ⟨rfl, hq1, hq2⟩ := hp11
    rw [gw_same hq1 ha12 hb13 rfl] at hP hD
    refine W.eq (g2 := F0 m 16 ls []) rfl ?_
    refine lv_aload_n hx hb dX2_gainOfTrial_16 rfl (lv_at hl 0 rfl) ?_
    refine gw_getr (C := RX2) (T := TX2) (N := 6) hx hb hts inwX2 hown hK hP 0 2 3 rfl rfl rfl (by decide) (hts _ a125) (fun _ h9 => h9) dX2_gainOfTrial_17 ?_
    refine gw_getiN (C := RX0) (T := TX0) (N := 15) hx hb hts inwX0 hown hK hP 3 13 rfl rfl rfl (by decide) (hE.nest _ (.fieldLinkNest RX2 112 RX0 "bestGain" "I" RX2) (by decide +kernel) rfl) (fun _ h9 => h9) dX2_gainOfTrial_20 ?_
    refine lv_topi (fun v14 hv14 => ?_)
    exact hret _ _ _ _ _ _ hP hS dX2_gainOfTrial_23 (⟨hk, _, rfl⟩)
  · obtain ⟨rfl, hq1, hq2⟩ := hp11
    rw [gw_same hq1 ha12 hb13 rfl] at hP hD
    exact kt _ _ _ _ _ _ _ _ _ _ _ (⟨hk, rfl⟩) hc1 hc2 hc3 hP hS (by decide) (by decide)
abbrev rmX2_cost : Room := { frames := 18, cells := 4, slots := 24, locals := 388 }
set_option maxRecDepth 100000 in
set_option maxHeartbeats 4000000 in
theorem m_X2_cost (l : Launch) (hl9 : l.stackTraces = false) (D : va_G) (cI : ClassId) (cJ : ClassId × ClassId) (ad : Nat → Nat) (sg0 : Nat → Nat → Int32) (sz : Nat) (x1 : Int32) (x2 : Int32) (hI : IvG 1 9 6 sg0) : gc_B l yX2_cost wsX2_cost rmX2_cost D vwCl (tyS cI cJ) cI cJ gxT gxN SC [.ref (ad 0), .int x1, .int x2] ad sg0 sz 4 24 (fun v sg2 => KG 1 9 6 sg0 sg2 ∧ ∃ r : Int32, v = some (.int r)) (fun E sg2 => KG 1 9 6 sg0 sg2 ∧ (E = "java/lang/IndexOutOfBoundsException" ∨ E = "java/lang/IllegalArgumentException" ∨ E = "java/lang/IllegalStateException")) := by
  refine gc_Bi_of (cc := cX2_cost) (maxL := 5) (by decide) rfl (Nat.le_of_ble_eq_true rfl) ?_
  intro p e s m below meth c A ls Q hin hE hret kt kx
  obtain ⟨⟨hx, hb, hml, hown, hts⟩, -, hlocks, -, hA, hP, hK, hD, hS, hl⟩ := hin
  have hts : ∀ w ∈ wsAll, w.before ([.ref (ad 0), .int x1, .int x2] : List Value).toArray s = true := fun w h => hts w (List.mem_cons_of_mem _ h)
  have hl : lv_has ls 5 [(0, .ref (ad 0)), (1, .int x1), (2, .int x2)] := hl
  have hk := KG.refl hI
  refine lv_iload_n hx hb dX2_cost_0 rfl (lv_at hl 1 rfl) ?_
  refine lv_iconst (v := (nI 4)) hx hb dX2_cost_1 (by decide) ?_
  refine gc_goB (pl := []) (S2 := SE) (ad := ad) (sg := sg0) (vx_runS (As := [.int x1, .int (nI 4)]) (rest := []) ⟨hx, hb, hml, hown, hts⟩ (m_X2_needIndex l hl9 D cI cJ (fun j => ad (gw_p [] j)) (fun j => sg0 (gw_p [] j)) _ x1 (nI 4) ) (cwS 2 hts (gwS a95 a96 a97 a98) rfl rfl rfl (by decide +kernel) ⟨by decide, by decide⟩) (gc_preS hK hP hD hS hA hE rfl) rfl rfl hl.1 rfl (lv_room (Nat.le_of_ble_eq_true rfl)) dX2_cost_2 ⟨by decide, by decide⟩) hP hD hS hA rfl (fun v1 sp2 sg3 H locs hp4 ha5 hb6 hP hD hS => ?_) (fun E9 x9 ce9 sp2 sg3 H locs hp4 hc1 hc2 hc3 ha5 hb6 hP hD hS => ?_)
  · obtain ⟨rfl, ha1⟩ := hp4
    rw [show sg3 = sg0 from funext (fun k => hb6 k (by simp))] at hP hD
    refine W.eq (g2 := F0 m 5 ls []) rfl ?_
    refine lv_iload_n hx hb dX2_cost_5 rfl (lv_at hl 2 rfl) ?_
    refine lv_iconst (v := (nI 0)) hx hb dX2_cost_6 (by decide) ?_
    refine lv_sipush (v := (nI 20000)) hx hb dX2_cost_7 (by decide) ?_
    refine gc_goB (pl := []) (S2 := SE) (ad := ad) (sg := sg0) (vx_runS (As := [.int x2, .int (nI 0), .int (nI 20000)]) (rest := []) ⟨hx, hb, hml, hown, hts⟩ (m_X2_needRange l hl9 D cI cJ (fun j => ad (gw_p [] j)) (fun j => sg0 (gw_p [] j)) _ x2 (nI 0) (nI 20000) ) (cwS 3 hts (gwS a99 a100 a97 a101) rfl rfl rfl (by decide +kernel) ⟨by decide, by decide⟩) (gc_preS hK hP hD hS hA hE rfl) rfl rfl hl.1 rfl (lv_room (Nat.le_of_ble_eq_true rfl)) dX2_cost_10 ⟨by decide, by decide⟩) hP hD hS hA rfl (fun v7 sp8 sg9 H locs hp10 ha11 hb12 hP hD hS => ?_) (fun E9 x9 ce9 sp8 sg9 H locs hp10 hc1 hc2 hc3 ha11 hb12 hP hD hS => ?_)
    · obtain ⟨rfl, ha2⟩ := hp10
      rw [show sg9 = sg0 from funext (fun k => hb12 k (by simp))] at hP hD
      refine W.eq (g2 := F0 m 13 ls []) rfl ?_
      refine lv_aload_n hx hb dX2_cost_13 rfl (lv_at hl 0 rfl) ?_
      refine lv_iload_n hx hb dX2_cost_14 rfl (lv_at hl 2 rfl) ?_
      refine lv_iconst (v := (-1)) hx hb dX2_cost_15 (by decide) ?_
      refine gc_goB (pl := [0, 1, 2, 3, 4, 5, 6, 7, 8, 9, 10, 11, 12, 13, 14, 15, 16, 17, 18, 19, 20, 21, 22, 23, 24, 25, 26, 27, 28, 29, 30, 31, 32]) (S2 := SC) (ad := ad) (sg := sg0) (vx_runV (As := [.int x2, .int (-1)]) (rest := []) ⟨hx, hb, hml, hown, hts⟩ (m_X2_gainOfTrial l hl9 D cI cJ (fun j => ad (gw_p [0, 1, 2, 3, 4, 5, 6, 7, 8, 9, 10, 11, 12, 13, 14, 15, 16, 17, 18, 19, 20, 21, 22, 23, 24, 25, 26, 27, 28, 29, 30, 31, 32] j)) (fun j => sg0 (gw_p [0, 1, 2, 3, 4, 5, 6, 7, 8, 9, 10, 11, 12, 13, 14, 15, 16, 17, 18, 19, 20, 21, 22, 23, 24, 25, 26, 27, 28, 29, 30, 31, 32] j)) _ x2 (-1) hk.1) (cwV 2 hts (gwV a126 a127 a128 a97 a129) rfl rfl rfl (by decide +kernel) ⟨by decide, by decide⟩) (gc_preV hK hP hD hS hA hE rfl rfl rfl rfl) rfl rfl hl.1 rfl (lv_room (Nat.le_of_ble_eq_true rfl)) dX2_cost_16 ⟨by decide, by decide⟩) hP hD hS hA rfl (fun v13 sp14 sg15 H locs hp16 ha17 hb18 hP hD hS => ?_) (fun E9 x9 ce9 sp14 sg15 H locs hp16 hc1 hc2 hc3 ha17 hb18 hP hD hS => ?_)
      · obtain ⟨hk1, r19, rfl⟩ := hp16
        have hk : KG 1 9 6 sg0 sg15 := hk.trans (KG.back (y := 1) (c := 6) hk1 ha17 (by decide) (by decide))
        refine W.eq (g2 := F0 m 19 ls [.int r19]) rfl ?_
        refine lv_istore_n (lv' := [(3, .int r19), (0, .ref (ad 0)), (1, .int x1), (2, .int x2)]) hx hb dX2_cost_19 rfl hl (by decide) rfl (fun ls hl => ?_)
        refine lv_aload_n hx hb dX2_cost_20 rfl (lv_at hl 1 rfl) ?_
        refine lv_iload_n hx hb dX2_cost_21 rfl (lv_at hl 3 rfl) ?_
        refine lv_iload_n hx hb dX2_cost_22 rfl (lv_at hl 2 rfl) ?_
        refine gc_goB (pl := [0, 1, 2, 3, 4, 5, 6, 7, 8, 9, 10, 11, 12, 13, 14, 15, 16, 17, 18, 19, 20, 21, 22, 23, 24, 25, 26, 27, 28, 29, 30, 31, 32]) (S2 := SC) (ad := ad) (sg := sg15) (vx_runV (As := [.int x2, .int x1]) (rest := []) ⟨hx, hb, hml, hown, hts⟩ (m_X2_gainOfTrial l hl9 D cI cJ (fun j => ad (gw_p [0, 1, 2, 3, 4, 5, 6, 7, 8, 9, 10, 11, 12, 13, 14, 15, 16, 17, 18, 19, 20, 21, 22, 23, 24, 25, 26, 27, 28, 29, 30, 31, 32] j)) (fun j => sg15 (gw_p [0, 1, 2, 3, 4, 5, 6, 7, 8, 9, 10, 11, 12, 13, 14, 15, 16, 17, 18, 19, 20, 21, 22, 23, 24, 25, 26, 27, 28, 29, 30, 31, 32] j)) _ x2 x1 hk.1) (cwV 2 hts (gwV a126 a127 a128 a97 a129) rfl rfl rfl (by decide +kernel) ⟨by decide, by decide⟩) (gc_preV hK hP hD hS hA hE rfl rfl rfl rfl) rfl rfl hl.1 rfl (lv_room (Nat.le_of_ble_eq_true rfl)) dX2_cost_23 ⟨by decide, by decide⟩) hP hD hS hA rfl (fun v20 sp21 sg22 H locs hp23 ha24 hb25 hP hD hS => ?_) (fun E9 x9 ce9 sp21 sg22 H locs hp23 hc1 hc2 hc3 ha24 hb25 hP hD hS => ?_)
        · obtain ⟨hk1, r26, rfl⟩ := hp23
          have hk : KG 1 9 6 sg0 sg22 := hk.trans (KG.back (y := 1) (c := 6) hk1 ha24 (by decide) (by decide))
          refine W.eq (g2 := F0 m 26 ls [.int r26]) rfl ?_
          refine lv_istore (lv' := [(4, .int r26), (3, .int r19), (0, .ref (ad 0)), (1, .int x1), (2, .int x2)]) hx hb dX2_cost_26 hl (by decide) rfl (fun ls hl => ?_)
          refine lv_iload_n hx hb dX2_cost_28 rfl (lv_at hl 1 rfl) ?_
          refine lv_iload hx hb dX2_cost_29 (lv_at hl 0 rfl) ?_
          refine lv_isub hx hb dX2_cost_31 ?_
          refine lv_topi (fun v27 hv27 => ?_)
          exact hret _ _ _ _ _ _ hP hS dX2_cost_32 (⟨hk, _, rfl⟩)
        · obtain ⟨hk1, rfl⟩ := hp23
          have hk : KG 1 9 6 sg0 sg22 := hk.trans (KG.back (y := 1) (c := 6) hk1 ha24 (by decide) (by decide))
          exact kt _ _ _ _ _ _ _ _ _ _ _ (⟨hk, Or.inr (Or.inr (rfl))⟩) hc1 hc2 hc3 hP hS (by decide) (by decide)
      · obtain ⟨hk1, rfl⟩ := hp16
        have hk : KG 1 9 6 sg0 sg15 := hk.trans (KG.back (y := 1) (c := 6) hk1 ha17 (by decide) (by decide))
        exact kt _ _ _ _ _ _ _ _ _ _ _ (⟨hk, Or.inr (Or.inr (rfl))⟩) hc1 hc2 hc3 hP hS (by decide) (by decide)
    · obtain ⟨rfl, hq⟩ := hp10
      rw [show sg9 = sg0 from funext (fun k => hb12 k (by simp))] at hP hD
      exact kt _ _ _ _ _ _ _ _ _ _ _ (⟨hk, Or.inr (Or.inl rfl)⟩) hc1 hc2 hc3 hP hS (by decide) (by decide)
  · obtain ⟨rfl, hq⟩ := hp4
    rw [show sg3 = sg0 from funext (fun k => hb6 k (by simp))] at hP hD
    exact kt _ _ _ _ _ _ _ _ _ _ _ (⟨hk, Or.inl rfl⟩) hc1 hc2 hc3 hP hS (by decide) (by decide)
end
section
abbrev rmX3_isIn : Room := { frames := 0, cells := 0, slots := 0, locals := 0 }
set_option maxRecDepth 100000 in
set_option maxHeartbeats 4000000 in
theorem m_X3_isIn (l : Launch) (hl9 : l.stackTraces = false) (D : va_G) (cI : ClassId) (cJ : ClassId × ClassId) (ad : Nat → Nat) (sg0 : Nat → Nat → Int32) (sz : Nat) (x0 : Int32) (x1 : Int32) (x2 : Int32) : gc_M l yX3_isIn wsX3_isIn rmX3_isIn D vwCl (tyS cI cJ) cI cJ gxT gxN SE [.int x0, .int x1, .int x2] ad sg0 sz 0 0 (fun v sg2 => (v = some (.int (nI 1)) ∧ inR x0 x1 x2) ∨ (v = some (.int (nI 0)) ∧ ¬ inR x0 x1 x2)) := by
  refine gc_Mz_of (cc := cX3_isIn) (maxL := 3) (by decide) rfl (Nat.le_of_ble_eq_true rfl) ?_
  intro p e s m below meth c A ls Q hin hE hret
  obtain ⟨⟨hx, hb, hml, hown, hts⟩, -, hlocks, -, hA, hP, hK, hD, hS, hl⟩ := hin
  have hts : ∀ w ∈ wsAll, w.before ([.int x0, .int x1, .int x2] : List Value).toArray s = true := fun w h => hts w (List.mem_cons_of_mem _ h)
  have hl : lv_has ls 3 [(0, .int x0), (1, .int x1), (2, .int x2)] := hl
  refine lv_iload_n hx hb dX3_isIn_0 rfl (lv_at hl 0 rfl) ?_
  refine lv_iload_n hx hb dX3_isIn_1 rfl (lv_at hl 1 rfl) ?_
  refine lv_icmp_lt (tgt := 14) hx hb dX3_isIn_2 (by decide) (fun h1 => ?_) (fun h1 => ?_)
  · refine lv_iconst (v := (nI 0)) hx hb dX3_isIn_14 (by decide) ?_
    exact hret _ _ _ _ _ _ hP hS dX3_isIn_15 rfl (Or.inr ⟨rfl, by first | exact fun q => q.1 h1 | exact fun q => q.2 h6⟩)
  · refine lv_iload_n hx hb dX3_isIn_5 rfl (lv_at hl 0 rfl) ?_
    refine lv_iload_n hx hb dX3_isIn_6 rfl (lv_at hl 2 rfl) ?_
    refine lv_icmp_gt (tgt := 14) hx hb dX3_isIn_7 (by decide) (fun h6 => ?_) (fun h6 => ?_)
    · refine lv_iconst (v := (nI 0)) hx hb dX3_isIn_14 (by decide) ?_
      exact hret _ _ _ _ _ _ hP hS dX3_isIn_15 rfl (Or.inr ⟨rfl, by first | exact fun q => q.1 h1 | exact fun q => q.2 h6⟩)
    · refine lv_iconst (v := (nI 1)) hx hb dX3_isIn_10 (by decide) ?_
      refine lv_goto (tgt := 15) hx hb dX3_isIn_11 (by decide) ?_
      exact hret _ _ _ _ _ _ hP hS dX3_isIn_15 rfl (Or.inl ⟨rfl, h1, h6⟩)
abbrev rmX3_thrown : Room := { frames := 0, cells := 0, slots := 0, locals := 0 }
set_option maxRecDepth 100000 in
set_option maxHeartbeats 4000000 in
theorem m_X3_thrown (l : Launch) (hl9 : l.stackTraces = false) (D : va_G) (cI : ClassId) (cJ : ClassId × ClassId) (ad : Nat → Nat) (sg0 : Nat → Nat → Int32) (sz : Nat) : gc_M l yX3_thrown wsX3_thrown rmX3_thrown D vwCl (tyS cI cJ) cI cJ gxT gxN SM [.ref (ad 0)] ad sg0 sz 0 0 (fun v sg2 => v = some (.int (sg0 0 0)) ∧ sg2 = sg0) := by
  refine gc_Mi_of (cc := cX3_thrown) (maxL := 1) (by decide) rfl (Nat.le_of_ble_eq_true rfl) ?_
  intro p e s m below meth c A ls Q hin hE hret
  obtain ⟨⟨hx, hb, hml, hown, hts⟩, -, hlocks, -, hA, hP, hK, hD, hS, hl⟩ := hin
  have hts : ∀ w ∈ wsAll, w.before ([.ref (ad 0)] : List Value).toArray s = true := fun w h => hts w (List.mem_cons_of_mem _ h)
  have hl : lv_has ls 1 [(0, .ref (ad 0))] := hl
  refine lv_aload_n hx hb dX3_thrown_0 rfl (lv_at hl 0 rfl) ?_
  refine gw_geti (C := RX3) (T := TX3) (N := 27) hx hb hts inwX3 hown hK hP 0 0 rfl rfl rfl (by decide) (hts _ a130) (fun _ h9 => h9) dX3_thrown_1 ?_
  refine lv_topi (fun v1 hv1 => ?_)
  exact hret _ _ _ _ _ _ hP hS dX3_thrown_4 (⟨by rw [hv1], rfl⟩)
abbrev rmX3_forget : Room := { frames := 0, cells := 0, slots := 0, locals := 0 }
set_option maxRecDepth 100000 in
set_option maxHeartbeats 4000000 in
theorem m_X3_forget (l : Launch) (hl9 : l.stackTraces = false) (D : va_G) (cI : ClassId) (cJ : ClassId × ClassId) (ad : Nat → Nat) (sg0 : Nat → Nat → Int32) (sz : Nat) (hI : IvM sg0) : gc_M l yX3_forget wsX3_forget rmX3_forget D vwCl (tyS cI cJ) cI cJ gxT gxN SM [.ref (ad 0)] ad sg0 sz 0 0 (fun v sg2 => KM sg0 sg2 ∧ v = none ∧ ∀ j : Nat, j ≠ 15 → j ≠ 16 → sg2 0 j = sg0 0 j) := by
  refine gc_Mv_of (cc := cX3_forget) (maxL := 1) (by decide) rfl (Nat.le_of_ble_eq_true rfl) ?_
  intro p e s m below meth c A ls Q hin hE hret
  obtain ⟨⟨hx, hb, hml, hown, hts⟩, -, hlocks, -, hA, hP, hK, hD, hS, hl⟩ := hin
  have hts : ∀ w ∈ wsAll, w.before ([.ref (ad 0)] : List Value).toArray s = true := fun w h => hts w (List.mem_cons_of_mem _ h)
  have hl : lv_has ls 1 [(0, .ref (ad 0))] := hl
  have hk := KM.refl hI
  refine lv_aload_n hx hb dX3_forget_0 rfl (lv_at hl 0 rfl) ?_
  refine lv_iconst (v := (nI 0)) hx hb dX3_forget_1 (by decide) ?_
  refine gw_put (C := RX3) (T := TX3) (N := 27) (ty := .boolean) hx hb hts inwX3 tyX3 tyX3_ok nmX3 hown hK hP hD hS 0 15 rfl rfl rfl (by decide) (hts _ a131) (fun _ h9 => h9) rfl (by decide +kernel) rfl rfl dX3_forget_2 (fun H locs hP hD hS => ?_)
  obtain ⟨sg1, esg1⟩ : ∃ z : Nat → Nat → Int32, z = gw_u sg0 0 (upd (sg0 0) 15 (nI 0)) := ⟨_, rfl⟩
  rw [← esg1] at hP hD
  have hk : KM sg0 sg1 := by rw [esg1]; exact hk.wf (by decide) (by decide) (by decide) _
  refine lv_aload_n hx hb dX3_forget_5 rfl (lv_at hl 0 rfl) ?_
  refine lv_iconst (v := (nI 0)) hx hb dX3_forget_6 (by decide) ?_
  refine gw_put (C := RX3) (T := TX3) (N := 27) (ty := .boolean) hx hb hts inwX3 tyX3 tyX3_ok nmX3 hown hK hP hD hS 0 16 rfl rfl rfl (by decide) (hts _ a132) (fun _ h9 => h9) rfl (by decide +kernel) rfl rfl dX3_forget_7 (fun H locs hP hD hS => ?_)
  obtain ⟨sg2, esg2⟩ : ∃ z : Nat → Nat → Int32, z = gw_u sg1 0 (upd (sg1 0) 16 (nI 0)) := ⟨_, rfl⟩
  rw [← esg2] at hP hD
  have hk : KM sg0 sg2 := by rw [esg2]; exact hk.wf (by decide) (by decide) (by decide) _
  exact hret _ _ _ _ _ hP hS dX3_forget_10 (⟨hk, rfl, fun j h1 h2 => by simp [esg2, esg1, gw_u, upd, h1, h2]⟩)
abbrev rmX3_logs : Room := { frames := 1, cells := 0, slots := 0, locals := 22 }
set_option maxRecDepth 100000 in
set_option maxHeartbeats 4000000 in
theorem m_X3_logs (l : Launch) (hl9 : l.stackTraces = false) (D : va_G) (cI : ClassId) (cJ : ClassId × ClassId) (ad : Nat → Nat) (sg0 : Nat → Nat → Int32) (sz : Nat) (x1 : Int32) (x2 : Int32) (x3 : Int32) (hI : IvM sg0) : gc_M l yX3_logs wsX3_logs rmX3_logs D vwCl (tyS cI cJ) cI cJ gxT gxN SM [.ref (ad 0), .int x1, .int x2, .int x3] ad sg0 sz 0 0 (fun v sg2 => KM sg0 sg2 ∧ v = none ∧ sg2 0 0 = kLogs x1 x2 x3) := by
  refine gc_Mv_of (cc := cX3_logs) (maxL := 4) (by decide) rfl (Nat.le_of_ble_eq_true rfl) ?_
  intro p e s m below meth c A ls Q hin hE hret
  obtain ⟨⟨hx, hb, hml, hown, hts⟩, -, hlocks, -, hA, hP, hK, hD, hS, hl⟩ := hin
  have hts : ∀ w ∈ wsAll, w.before ([.ref (ad 0), .int x1, .int x2, .int x3] : List Value).toArray s = true := fun w h => hts w (List.mem_cons_of_mem _ h)
  have hl : lv_has ls 4 [(0, .ref (ad 0)), (1, .int x1), (2, .int x2), (3, .int x3)] := hl
  have hk := KM.refl hI
  refine lv_aload_n hx hb dX3_logs_0 rfl (lv_at hl 0 rfl) ?_
  refine lv_iload_n hx hb dX3_logs_1 rfl (lv_at hl 1 rfl) ?_
  refine lv_iconst (v := (nI 0)) hx hb dX3_logs_2 (by decide) ?_
  refine lv_iconst (v := (nI 3)) hx hb dX3_logs_3 (by decide) ?_
  refine gc_go (pl := []) (S2 := SE) (ad := ad) (sg := sg0) (va_runS (As := [.int x1, .int (nI 0), .int (nI 3)]) (rest := [.ref (ad 0)]) ⟨hx, hb, hml, hown, hts⟩ (m_X3_isIn l hl9 D cI cJ (fun j => ad (gw_p [] j)) (fun j => sg0 (gw_p [] j)) _ x1 (nI 0) (nI 3) ) (cwS 3 hts (gwS a133 a134 a135 a136) rfl rfl rfl (by decide +kernel) ⟨by decide, by decide⟩) (gc_preS hK hP hD hS hA hE rfl) rfl rfl hl.1 rfl (lv_room (Nat.le_of_ble_eq_true rfl)) dX3_logs_4 ⟨by decide, by decide⟩) hP hD hS hA rfl (fun v1 sp2 sg3 H locs hp4 ha5 hb6 hP hD hS => ?_)
  rw [show sg3 = sg0 from funext (fun k => hb6 k (by simp))] at hP hD
  rcases hp4 with ⟨rfl, hi1⟩ | ⟨rfl, hi1⟩
  · refine W.eq (g2 := F0 m 7 ls [.int (nI 1), .ref (ad 0)]) rfl ?_
    refine lv_if_ne (tgt := 14) hx hb dX3_logs_7 (by decide) (fun hc7 => ?_) (fun hc7 => ?_)
    · refine lv_iload_n hx hb dX3_logs_14 rfl (lv_at hl 2 rfl) ?_
      refine lv_iconst (v := (nI 0)) hx hb dX3_logs_15 (by decide) ?_
      refine lv_sipush (v := (nI 1000)) hx hb dX3_logs_16 (by decide) ?_
      refine gc_go (pl := []) (S2 := SE) (ad := ad) (sg := sg0) (va_runS (As := [.int x2, .int (nI 0), .int (nI 1000)]) (rest := [.ref (ad 0)]) ⟨hx, hb, hml, hown, hts⟩ (m_X3_isIn l hl9 D cI cJ (fun j => ad (gw_p [] j)) (fun j => sg0 (gw_p [] j)) _ x2 (nI 0) (nI 1000) ) (cwS 3 hts (gwS a133 a134 a135 a136) rfl rfl rfl (by decide +kernel) ⟨by decide, by decide⟩) (gc_preS hK hP hD hS hA hE rfl) rfl rfl hl.1 rfl (lv_room (Nat.le_of_ble_eq_true rfl)) dX3_logs_19 ⟨by decide, by decide⟩) hP hD hS hA rfl (fun v8 sp9 sg10 H locs hp11 ha12 hb13 hP hD hS => ?_)
      rw [show sg10 = sg0 from funext (fun k => hb13 k (by simp))] at hP hD
      rcases hp11 with ⟨rfl, hi2⟩ | ⟨rfl, hi2⟩
      · refine W.eq (g2 := F0 m 22 ls [.int (nI 1), .ref (ad 0)]) rfl ?_
        refine lv_if_eq (tgt := 35) hx hb dX3_logs_22 (by decide) (fun hc14 => ?_) (fun hc14 => ?_)
        · exact absurd hc14 (by decide)
        · refine lv_iload_n hx hb dX3_logs_25 rfl (lv_at hl 3 rfl) ?_
          refine lv_iconst (v := (nI 0)) hx hb dX3_logs_26 (by decide) ?_
          refine lv_ldc (v := (nI 100000)) hx hb hown (hts _ a137) dX3_logs_27 ?_
          refine gc_go (pl := []) (S2 := SE) (ad := ad) (sg := sg0) (va_runS (As := [.int x3, .int (nI 0), .int (nI 100000)]) (rest := [.ref (ad 0)]) ⟨hx, hb, hml, hown, hts⟩ (m_X3_isIn l hl9 D cI cJ (fun j => ad (gw_p [] j)) (fun j => sg0 (gw_p [] j)) _ x3 (nI 0) (nI 100000) ) (cwS 3 hts (gwS a133 a134 a135 a136) rfl rfl rfl (by decide +kernel) ⟨by decide, by decide⟩) (gc_preS hK hP hD hS hA hE rfl) rfl rfl hl.1 rfl (lv_room (Nat.le_of_ble_eq_true rfl)) dX3_logs_29 ⟨by decide, by decide⟩) hP hD hS hA rfl (fun v15 sp16 sg17 H locs hp18 ha19 hb20 hP hD hS => ?_)
          rw [show sg17 = sg0 from funext (fun k => hb20 k (by simp))] at hP hD
          rcases hp18 with ⟨rfl, hi3⟩ | ⟨rfl, hi3⟩
          · refine W.eq (g2 := F0 m 32 ls [.int (nI 1), .ref (ad 0)]) rfl ?_
            refine lv_if_ne (tgt := 39) hx hb dX3_logs_32 (by decide) (fun hc21 => ?_) (fun hc21 => ?_)
            · refine lv_iconst (v := (nI 0)) hx hb dX3_logs_39 (by decide) ?_
              refine gw_put (C := RX3) (T := TX3) (N := 27) (ty := .int) hx hb hts inwX3 tyX3 tyX3_ok nmX3 hown hK hP hD hS 0 0 rfl rfl rfl (by decide) (hts _ a130) (fun _ h9 => h9) rfl (by decide +kernel) rfl rfl dX3_logs_40 (fun H locs hP hD hS => ?_)
              obtain ⟨sg22, esg22⟩ : ∃ z : Nat → Nat → Int32, z = gw_u sg0 0 (upd (sg0 0) 0 (nI 0)) := ⟨_, rfl⟩
              rw [← esg22] at hP hD
              have hk : KM sg0 sg22 := by rw [esg22]; exact hk.wf (by decide) (by decide) (by decide) _
              refine lv_aload_n hx hb dX3_logs_43 rfl (lv_at hl 0 rfl) ?_
              refine gw_geti (C := RX3) (T := TX3) (N := 27) hx hb hts inwX3 hown hK hP 0 0 rfl rfl rfl (by decide) (hts _ a130) (fun _ h9 => h9) dX3_logs_44 ?_
              refine gw_top (y := (nI 0)) (by simp [esg22, gw_u, upd]) ?_
              refine lv_if_ne (tgt := 68) hx hb dX3_logs_47 (by decide) (fun hc23 => ?_) (fun hc23 => ?_)
              · exact absurd hc23 (by decide)
              · have hk9 : kLogs x1 x2 x3 = nI 0 := by simp [kLogs, kif, hi1, hi2, hi3]
                obtain ⟨j1, hj1, rfl⟩ := inof3 hi1
                refine lv_aload_n hx hb dX3_logs_50 rfl (lv_at hl 0 rfl) ?_
                refine gw_getr (C := RX3) (T := TX3) (N := 27) hx hb hts inwX3 hown hK hP 0 1 1 rfl rfl rfl (by decide) (hts _ a138) (fun _ h9 => h9) dX3_logs_51 ?_
                refine lv_iload_n hx hb dX3_logs_54 rfl (lv_at hl 1 rfl) ?_
                refine lv_iload_n hx hb dX3_logs_55 rfl (lv_at hl 2 rfl) ?_
                refine gw_ast hx hb hK hP hD hS 1 0 (n := 4) rfl rfl (i := j1) (by omega) (by decide) dX3_logs_56 (fun H locs hP hD hS => ?_)
                obtain ⟨sg24, esg24⟩ : ∃ z : Nat → Nat → Int32, z = gw_u sg22 1 (upd (sg22 1) j1 x2) := ⟨_, rfl⟩
                rw [← esg24] at hP hD
                have hk : KM sg0 sg24 := by rw [esg24]; exact hk.wa 1 (by decide) (by decide) _
                refine lv_aload_n hx hb dX3_logs_57 rfl (lv_at hl 0 rfl) ?_
                refine gw_getr (C := RX3) (T := TX3) (N := 27) hx hb hts inwX3 hown hK hP 0 2 2 rfl rfl rfl (by decide) (hts _ a139) (fun _ h9 => h9) dX3_logs_58 ?_
                refine lv_iload_n hx hb dX3_logs_61 rfl (lv_at hl 1 rfl) ?_
                refine lv_iload_n hx hb dX3_logs_62 rfl (lv_at hl 3 rfl) ?_
                refine gw_ast hx hb hK hP hD hS 2 0 (n := 4) rfl rfl (i := j1) (by omega) (by decide) dX3_logs_63 (fun H locs hP hD hS => ?_)
                obtain ⟨sg25, esg25⟩ : ∃ z : Nat → Nat → Int32, z = gw_u sg24 2 (upd (sg24 2) j1 x3) := ⟨_, rfl⟩
                rw [← esg25] at hP hD
                have hk : KM sg0 sg25 := by rw [esg25]; exact hk.wa 2 (by decide) (by decide) _
                refine lv_aload_n hx hb dX3_logs_64 rfl (lv_at hl 0 rfl) ?_
                refine gc_go0 (va_runV (As := []) (rest := []) ⟨hx, hb, hml, hown, hts⟩ (m_X3_forget l hl9 D cI cJ ad sg25 _  hk.1) (cwV 0 hts (gwV a140 a141 a142 a135 a143) rfl rfl rfl (by decide +kernel) ⟨by decide, by decide⟩) (gc_preV0 hK hP hD hS hA hE rfl rfl rfl) rfl rfl hl.1 rfl (lv_room (Nat.le_of_ble_eq_true rfl)) dX3_logs_65 ⟨by decide, by decide⟩) hD hS hA (fun v26 sg28 H locs hp29 hP hD hS => ?_)
                obtain ⟨hk1, rfl, hq7⟩ := hp29
                have hq9 := hq7 0 (by decide) (by decide)
                have hk := hk.trans hk1
                refine W.eq (g2 := F0 m 68 ls []) rfl ?_
                exact hret _ _ _ _ _ hP hS dX3_logs_68 (⟨hk, rfl, (show _ = (nI 0) from by simp [hq9, esg25, esg24, esg22, gw_u, upd]).trans hk9.symm⟩)
            · exact absurd hc21 (by decide)
          · refine W.eq (g2 := F0 m 32 ls [.int (nI 0), .ref (ad 0)]) rfl ?_
            refine lv_if_ne (tgt := 39) hx hb dX3_logs_32 (by decide) (fun hc32 => ?_) (fun hc32 => ?_)
            · exact absurd hc32 (by decide)
            · refine lv_iconst (v := (nI 2)) hx hb dX3_logs_35 (by decide) ?_
              refine lv_goto (tgt := 40) hx hb dX3_logs_36 (by decide) ?_
              refine gw_put (C := RX3) (T := TX3) (N := 27) (ty := .int) hx hb hts inwX3 tyX3 tyX3_ok nmX3 hown hK hP hD hS 0 0 rfl rfl rfl (by decide) (hts _ a130) (fun _ h9 => h9) rfl (by decide +kernel) rfl rfl dX3_logs_40 (fun H locs hP hD hS => ?_)
              obtain ⟨sg33, esg33⟩ : ∃ z : Nat → Nat → Int32, z = gw_u sg0 0 (upd (sg0 0) 0 (nI 2)) := ⟨_, rfl⟩
              rw [← esg33] at hP hD
              have hk : KM sg0 sg33 := by rw [esg33]; exact hk.wf (by decide) (by decide) (by decide) _
              refine lv_aload_n hx hb dX3_logs_43 rfl (lv_at hl 0 rfl) ?_
              refine gw_geti (C := RX3) (T := TX3) (N := 27) hx hb hts inwX3 hown hK hP 0 0 rfl rfl rfl (by decide) (hts _ a130) (fun _ h9 => h9) dX3_logs_44 ?_
              refine gw_top (y := (nI 2)) (by simp [esg33, gw_u, upd]) ?_
              refine lv_if_ne (tgt := 68) hx hb dX3_logs_47 (by decide) (fun hc34 => ?_) (fun hc34 => ?_)
              · exact hret _ _ _ _ _ hP hS dX3_logs_68 (⟨hk, rfl, (show _ = (nI 2) from by simp [esg33, gw_u, upd]).trans (show (nI 2) = kLogs x1 x2 x3 by simp [kLogs, kif, hi1, hi2, hi3])⟩)
              · exact absurd hc34 (by decide)
      · refine W.eq (g2 := F0 m 22 ls [.int (nI 0), .ref (ad 0)]) rfl ?_
        refine lv_if_eq (tgt := 35) hx hb dX3_logs_22 (by decide) (fun hc35 => ?_) (fun hc35 => ?_)
        · refine lv_iconst (v := (nI 2)) hx hb dX3_logs_35 (by decide) ?_
          refine lv_goto (tgt := 40) hx hb dX3_logs_36 (by decide) ?_
          refine gw_put (C := RX3) (T := TX3) (N := 27) (ty := .int) hx hb hts inwX3 tyX3 tyX3_ok nmX3 hown hK hP hD hS 0 0 rfl rfl rfl (by decide) (hts _ a130) (fun _ h9 => h9) rfl (by decide +kernel) rfl rfl dX3_logs_40 (fun H locs hP hD hS => ?_)
          obtain ⟨sg36, esg36⟩ : ∃ z : Nat → Nat → Int32, z = gw_u sg0 0 (upd (sg0 0) 0 (nI 2)) := ⟨_, rfl⟩
          rw [← esg36] at hP hD
          have hk : KM sg0 sg36 := by rw [esg36]; exact hk.wf (by decide) (by decide) (by decide) _
          refine lv_aload_n hx hb dX3_logs_43 rfl (lv_at hl 0 rfl) ?_
          refine gw_geti (C := RX3) (T := TX3) (N := 27) hx hb hts inwX3 hown hK hP 0 0 rfl rfl rfl (by decide) (hts _ a130) (fun _ h9 => h9) dX3_logs_44 ?_
          refine gw_top (y := (nI 2)) (by simp [esg36, gw_u, upd]) ?_
          refine lv_if_ne (tgt := 68) hx hb dX3_logs_47 (by decide) (fun hc37 => ?_) (fun hc37 => ?_)
          · exact hret _ _ _ _ _ hP hS dX3_logs_68 (⟨hk, rfl, (show _ = (nI 2) from by simp [esg36, gw_u, upd]).trans (show (nI 2) = kLogs x1 x2 x3 by simp [kLogs, kif, hi1, hi2])⟩)
          · exact absurd hc37 (by decide)
        · exact absurd hc35 (by decide)
    · exact absurd hc7 (by decide)
  · refine W.eq (g2 := F0 m 7 ls [.int (nI 0), .ref (ad 0)]) rfl ?_
    refine lv_if_ne (tgt := 14) hx hb dX3_logs_7 (by decide) (fun hc38 => ?_) (fun hc38 => ?_)
    · exact absurd hc38 (by decide)
    · refine lv_iconst (v := (nI 1)) hx hb dX3_logs_10 (by decide) ?_
      refine lv_goto (tgt := 40) hx hb dX3_logs_11 (by decide) ?_
      refine gw_put (C := RX3) (T := TX3) (N := 27) (ty := .int) hx hb hts inwX3 tyX3 tyX3_ok nmX3 hown hK hP hD hS 0 0 rfl rfl rfl (by decide) (hts _ a130) (fun _ h9 => h9) rfl (by decide +kernel) rfl rfl dX3_logs_40 (fun H locs hP hD hS => ?_)
      obtain ⟨sg39, esg39⟩ : ∃ z : Nat → Nat → Int32, z = gw_u sg0 0 (upd (sg0 0) 0 (nI 1)) := ⟨_, rfl⟩
      rw [← esg39] at hP hD
      have hk : KM sg0 sg39 := by rw [esg39]; exact hk.wf (by decide) (by decide) (by decide) _
      refine lv_aload_n hx hb dX3_logs_43 rfl (lv_at hl 0 rfl) ?_
      refine gw_geti (C := RX3) (T := TX3) (N := 27) hx hb hts inwX3 hown hK hP 0 0 rfl rfl rfl (by decide) (hts _ a130) (fun _ h9 => h9) dX3_logs_44 ?_
      refine gw_top (y := (nI 1)) (by simp [esg39, gw_u, upd]) ?_
      refine lv_if_ne (tgt := 68) hx hb dX3_logs_47 (by decide) (fun hc40 => ?_) (fun hc40 => ?_)
      · exact hret _ _ _ _ _ hP hS dX3_logs_68 (⟨hk, rfl, (show _ = (nI 1) from by simp [esg39, gw_u, upd]).trans (show (nI 1) = kLogs x1 x2 x3 by simp [kLogs, kif, hi1])⟩)
      · exact absurd hc40 (by decide)
abbrev rmX3_order : Room := { frames := 1, cells := 0, slots := 0, locals := 22 }
set_option maxRecDepth 100000 in
set_option maxHeartbeats 4000000 in
theorem m_X3_order (l : Launch) (hl9 : l.stackTraces = false) (D : va_G) (cI : ClassId) (cJ : ClassId × ClassId) (ad : Nat → Nat) (sg0 : Nat → Nat → Int32) (sz : Nat) (x1 : Int32) (x2 : Int32) (x3 : Int32) (x4 : Int32) (hI : IvM sg0) : gc_M l yX3_order wsX3_order rmX3_order D vwCl (tyS cI cJ) cI cJ gxT gxN SM [.ref (ad 0), .int x1, .int x2, .int x3, .int x4] ad sg0 sz 0 0 (fun v sg2 => KM sg0 sg2 ∧ v = none ∧ sg2 0 0 = kOrder x1 x2 x3 x4) := by
  refine gc_Mv_of (cc := cX3_order) (maxL := 5) (by decide) rfl (Nat.le_of_ble_eq_true rfl) ?_
  intro p e s m below meth c A ls Q hin hE hret
  obtain ⟨⟨hx, hb, hml, hown, hts⟩, -, hlocks, -, hA, hP, hK, hD, hS, hl⟩ := hin
  have hts : ∀ w ∈ wsAll, w.before ([.ref (ad 0), .int x1, .int x2, .int x3, .int x4] : List Value).toArray s = true := fun w h => hts w (List.mem_cons_of_mem _ h)
  have hl : lv_has ls 5 [(0, .ref (ad 0)), (1, .int x1), (2, .int x2), (3, .int x3), (4, .int x4)] := hl
  have hk := KM.refl hI
  refine lv_aload_n hx hb dX3_order_0 rfl (lv_at hl 0 rfl) ?_
  refine lv_iload_n hx hb dX3_order_1 rfl (lv_at hl 1 rfl) ?_
  refine lv_iconst (v := (nI 0)) hx hb dX3_order_2 (by decide) ?_
  refine lv_iconst (v := (nI 3)) hx hb dX3_order_3 (by decide) ?_
  refine gc_go (pl := []) (S2 := SE) (ad := ad) (sg := sg0) (va_runS (As := [.int x1, .int (nI 0), .int (nI 3)]) (rest := [.ref (ad 0)]) ⟨hx, hb, hml, hown, hts⟩ (m_X3_isIn l hl9 D cI cJ (fun j => ad (gw_p [] j)) (fun j => sg0 (gw_p [] j)) _ x1 (nI 0) (nI 3) ) (cwS 3 hts (gwS a133 a134 a135 a136) rfl rfl rfl (by decide +kernel) ⟨by decide, by decide⟩) (gc_preS hK hP hD hS hA hE rfl) rfl rfl hl.1 rfl (lv_room (Nat.le_of_ble_eq_true rfl)) dX3_order_4 ⟨by decide, by decide⟩) hP hD hS hA rfl (fun v1 sp2 sg3 H locs hp4 ha5 hb6 hP hD hS => ?_)
  rw [show sg3 = sg0 from funext (fun k => hb6 k (by simp))] at hP hD
  rcases hp4 with ⟨rfl, hi1⟩ | ⟨rfl, hi1⟩
  · refine W.eq (g2 := F0 m 7 ls [.int (nI 1), .ref (ad 0)]) rfl ?_
    refine lv_if_ne (tgt := 14) hx hb dX3_order_7 (by decide) (fun hc7 => ?_) (fun hc7 => ?_)
    · refine lv_iload_n hx hb dX3_order_14 rfl (lv_at hl 2 rfl) ?_
      refine lv_iconst (v := (nI 0)) hx hb dX3_order_15 (by decide) ?_
      refine lv_sipush (v := (nI 1000)) hx hb dX3_order_16 (by decide) ?_
      refine gc_go (pl := []) (S2 := SE) (ad := ad) (sg := sg0) (va_runS (As := [.int x2, .int (nI 0), .int (nI 1000)]) (rest := [.ref (ad 0)]) ⟨hx, hb, hml, hown, hts⟩ (m_X3_isIn l hl9 D cI cJ (fun j => ad (gw_p [] j)) (fun j => sg0 (gw_p [] j)) _ x2 (nI 0) (nI 1000) ) (cwS 3 hts (gwS a133 a134 a135 a136) rfl rfl rfl (by decide +kernel) ⟨by decide, by decide⟩) (gc_preS hK hP hD hS hA hE rfl) rfl rfl hl.1 rfl (lv_room (Nat.le_of_ble_eq_true rfl)) dX3_order_19 ⟨by decide, by decide⟩) hP hD hS hA rfl (fun v8 sp9 sg10 H locs hp11 ha12 hb13 hP hD hS => ?_)
      rw [show sg10 = sg0 from funext (fun k => hb13 k (by simp))] at hP hD
      rcases hp11 with ⟨rfl, hi2⟩ | ⟨rfl, hi2⟩
      · refine W.eq (g2 := F0 m 22 ls [.int (nI 1), .ref (ad 0)]) rfl ?_
        refine lv_if_eq (tgt := 48) hx hb dX3_order_22 (by decide) (fun hc14 => ?_) (fun hc14 => ?_)
        · exact absurd hc14 (by decide)
        · refine lv_iload_n hx hb dX3_order_25 rfl (lv_at hl 3 rfl) ?_
          refine lv_iload_n hx hb dX3_order_26 rfl (lv_at hl 2 rfl) ?_
          refine lv_sipush (v := (nI 1000)) hx hb dX3_order_27 (by decide) ?_
          refine gc_go (pl := []) (S2 := SE) (ad := ad) (sg := sg0) (va_runS (As := [.int x3, .int x2, .int (nI 1000)]) (rest := [.ref (ad 0)]) ⟨hx, hb, hml, hown, hts⟩ (m_X3_isIn l hl9 D cI cJ (fun j => ad (gw_p [] j)) (fun j => sg0 (gw_p [] j)) _ x3 x2 (nI 1000) ) (cwS 3 hts (gwS a133 a134 a135 a136) rfl rfl rfl (by decide +kernel) ⟨by decide, by decide⟩) (gc_preS hK hP hD hS hA hE rfl) rfl rfl hl.1 rfl (lv_room (Nat.le_of_ble_eq_true rfl)) dX3_order_30 ⟨by decide, by decide⟩) hP hD hS hA rfl (fun v15 sp16 sg17 H locs hp18 ha19 hb20 hP hD hS => ?_)
          rw [show sg17 = sg0 from funext (fun k => hb20 k (by simp))] at hP hD
          rcases hp18 with ⟨rfl, hi3⟩ | ⟨rfl, hi3⟩
          · refine W.eq (g2 := F0 m 33 ls [.int (nI 1), .ref (ad 0)]) rfl ?_
            refine lv_if_eq (tgt := 48) hx hb dX3_order_33 (by decide) (fun hc21 => ?_) (fun hc21 => ?_)
            · exact absurd hc21 (by decide)
            · refine lv_iload hx hb dX3_order_36 (lv_at hl 4 rfl) ?_
              refine lv_iconst (v := (nI 0)) hx hb dX3_order_38 (by decide) ?_
              refine lv_sipush (v := (nI 1000)) hx hb dX3_order_39 (by decide) ?_
              refine gc_go (pl := []) (S2 := SE) (ad := ad) (sg := sg0) (va_runS (As := [.int x4, .int (nI 0), .int (nI 1000)]) (rest := [.ref (ad 0)]) ⟨hx, hb, hml, hown, hts⟩ (m_X3_isIn l hl9 D cI cJ (fun j => ad (gw_p [] j)) (fun j => sg0 (gw_p [] j)) _ x4 (nI 0) (nI 1000) ) (cwS 3 hts (gwS a133 a134 a135 a136) rfl rfl rfl (by decide +kernel) ⟨by decide, by decide⟩) (gc_preS hK hP hD hS hA hE rfl) rfl rfl hl.1 rfl (lv_room (Nat.le_of_ble_eq_true rfl)) dX3_order_42 ⟨by decide, by decide⟩) hP hD hS hA rfl (fun v22 sp23 sg24 H locs hp25 ha26 hb27 hP hD hS => ?_)
              rw [show sg24 = sg0 from funext (fun k => hb27 k (by simp))] at hP hD
              rcases hp25 with ⟨rfl, hi4⟩ | ⟨rfl, hi4⟩
              · refine W.eq (g2 := F0 m 45 ls [.int (nI 1), .ref (ad 0)]) rfl ?_
                refine lv_if_ne (tgt := 52) hx hb dX3_order_45 (by decide) (fun hc28 => ?_) (fun hc28 => ?_)
                · refine lv_iconst (v := (nI 0)) hx hb dX3_order_52 (by decide) ?_
                  refine gw_put (C := RX3) (T := TX3) (N := 27) (ty := .int) hx hb hts inwX3 tyX3 tyX3_ok nmX3 hown hK hP hD hS 0 0 rfl rfl rfl (by decide) (hts _ a130) (fun _ h9 => h9) rfl (by decide +kernel) rfl rfl dX3_order_53 (fun H locs hP hD hS => ?_)
                  obtain ⟨sg29, esg29⟩ : ∃ z : Nat → Nat → Int32, z = gw_u sg0 0 (upd (sg0 0) 0 (nI 0)) := ⟨_, rfl⟩
                  rw [← esg29] at hP hD
                  have hk : KM sg0 sg29 := by rw [esg29]; exact hk.wf (by decide) (by decide) (by decide) _
                  refine lv_aload_n hx hb dX3_order_56 rfl (lv_at hl 0 rfl) ?_
                  refine gw_geti (C := RX3) (T := TX3) (N := 27) hx hb hts inwX3 hown hK hP 0 0 rfl rfl rfl (by decide) (hts _ a130) (fun _ h9 => h9) dX3_order_57 ?_
                  refine gw_top (y := (nI 0)) (by simp [esg29, gw_u, upd]) ?_
                  refine lv_if_ne (tgt := 89) hx hb dX3_order_60 (by decide) (fun hc30 => ?_) (fun hc30 => ?_)
                  · exact absurd hc30 (by decide)
                  · have hk9 : kOrder x1 x2 x3 x4 = nI 0 := by simp [kOrder, kif, hi1, hi2, hi3, hi4]
                    obtain ⟨j1, hj1, rfl⟩ := inof3 hi1
                    refine lv_aload_n hx hb dX3_order_63 rfl (lv_at hl 0 rfl) ?_
                    refine gw_getr (C := RX3) (T := TX3) (N := 27) hx hb hts inwX3 hown hK hP 0 7 6 rfl rfl rfl (by decide) (hts _ a144) (fun _ h9 => h9) dX3_order_64 ?_
                    refine lv_iload_n hx hb dX3_order_67 rfl (lv_at hl 1 rfl) ?_
                    refine lv_iload_n hx hb dX3_order_68 rfl (lv_at hl 2 rfl) ?_
                    refine gw_ast hx hb hK hP hD hS 6 0 (n := 4) rfl rfl (i := j1) (by omega) (by decide) dX3_order_69 (fun H locs hP hD hS => ?_)
                    obtain ⟨sg31, esg31⟩ : ∃ z : Nat → Nat → Int32, z = gw_u sg29 6 (upd (sg29 6) j1 x2) := ⟨_, rfl⟩
                    rw [← esg31] at hP hD
                    have hk : KM sg0 sg31 := by rw [esg31]; exact hk.wa 6 (by decide) (by decide) _
                    refine lv_aload_n hx hb dX3_order_70 rfl (lv_at hl 0 rfl) ?_
                    refine gw_getr (C := RX3) (T := TX3) (N := 27) hx hb hts inwX3 hown hK hP 0 8 7 rfl rfl rfl (by decide) (hts _ a145) (fun _ h9 => h9) dX3_order_71 ?_
                    refine lv_iload_n hx hb dX3_order_74 rfl (lv_at hl 1 rfl) ?_
                    refine lv_iload_n hx hb dX3_order_75 rfl (lv_at hl 3 rfl) ?_
                    refine gw_ast hx hb hK hP hD hS 7 0 (n := 4) rfl rfl (i := j1) (by omega) (by decide) dX3_order_76 (fun H locs hP hD hS => ?_)
                    obtain ⟨sg32, esg32⟩ : ∃ z : Nat → Nat → Int32, z = gw_u sg31 7 (upd (sg31 7) j1 x3) := ⟨_, rfl⟩
                    rw [← esg32] at hP hD
                    have hk : KM sg0 sg32 := by rw [esg32]; exact hk.wa 7 (by decide) (by decide) _
                    refine lv_aload_n hx hb dX3_order_77 rfl (lv_at hl 0 rfl) ?_
                    refine gw_getr (C := RX3) (T := TX3) (N := 27) hx hb hts inwX3 hown hK hP 0 9 8 rfl rfl rfl (by decide) (hts _ a146) (fun _ h9 => h9) dX3_order_78 ?_
                    refine lv_iload_n hx hb dX3_order_81 rfl (lv_at hl 1 rfl) ?_
                    refine lv_iload hx hb dX3_order_82 (lv_at hl 4 rfl) ?_
                    refine gw_ast hx hb hK hP hD hS 8 0 (n := 4) rfl rfl (i := j1) (by omega) (by decide) dX3_order_84 (fun H locs hP hD hS => ?_)
                    obtain ⟨sg33, esg33⟩ : ∃ z : Nat → Nat → Int32, z = gw_u sg32 8 (upd (sg32 8) j1 x4) := ⟨_, rfl⟩
                    rw [← esg33] at hP hD
                    have hk : KM sg0 sg33 := by rw [esg33]; exact hk.wa 8 (by decide) (by decide) _
                    refine lv_aload_n hx hb dX3_order_85 rfl (lv_at hl 0 rfl) ?_
                    refine gc_go0 (va_runV (As := []) (rest := []) ⟨hx, hb, hml, hown, hts⟩ (m_X3_forget l hl9 D cI cJ ad sg33 _  hk.1) (cwV 0 hts (gwV a140 a141 a142 a135 a143) rfl rfl rfl (by decide +kernel) ⟨by decide, by decide⟩) (gc_preV0 hK hP hD hS hA hE rfl rfl rfl) rfl rfl hl.1 rfl (lv_room (Nat.le_of_ble_eq_true rfl)) dX3_order_86 ⟨by decide, by decide⟩) hD hS hA (fun v34 sg36 H locs hp37 hP hD hS => ?_)
                    obtain ⟨hk1, rfl, hq7⟩ := hp37
                    have hq9 := hq7 0 (by decide) (by decide)
                    have hk := hk.trans hk1
                    refine W.eq (g2 := F0 m 89 ls []) rfl ?_
                    exact hret _ _ _ _ _ hP hS dX3_order_89 (⟨hk, rfl, (show _ = (nI 0) from by simp [hq9, esg33, esg32, esg31, esg29, gw_u, upd]).trans hk9.symm⟩)
                · exact absurd hc28 (by decide)
              · refine W.eq (g2 := F0 m 45 ls [.int (nI 0), .ref (ad 0)]) rfl ?_
                refine lv_if_ne (tgt := 52) hx hb dX3_order_45 (by decide) (fun hc40 => ?_) (fun hc40 => ?_)
                · exact absurd hc40 (by decide)
                · refine lv_iconst (v := (nI 2)) hx hb dX3_order_48 (by decide) ?_
                  refine lv_goto (tgt := 53) hx hb dX3_order_49 (by decide) ?_
                  refine gw_put (C := RX3) (T := TX3) (N := 27) (ty := .int) hx hb hts inwX3 tyX3 tyX3_ok nmX3 hown hK hP hD hS 0 0 rfl rfl rfl (by decide) (hts _ a130) (fun _ h9 => h9) rfl (by decide +kernel) rfl rfl dX3_order_53 (fun H locs hP hD hS => ?_)
                  obtain ⟨sg41, esg41⟩ : ∃ z : Nat → Nat → Int32, z = gw_u sg0 0 (upd (sg0 0) 0 (nI 2)) := ⟨_, rfl⟩
                  rw [← esg41] at hP hD
                  have hk : KM sg0 sg41 := by rw [esg41]; exact hk.wf (by decide) (by decide) (by decide) _
                  refine lv_aload_n hx hb dX3_order_56 rfl (lv_at hl 0 rfl) ?_
                  refine gw_geti (C := RX3) (T := TX3) (N := 27) hx hb hts inwX3 hown hK hP 0 0 rfl rfl rfl (by decide) (hts _ a130) (fun _ h9 => h9) dX3_order_57 ?_
                  refine gw_top (y := (nI 2)) (by simp [esg41, gw_u, upd]) ?_
                  refine lv_if_ne (tgt := 89) hx hb dX3_order_60 (by decide) (fun hc42 => ?_) (fun hc42 => ?_)
                  · exact hret _ _ _ _ _ hP hS dX3_order_89 (⟨hk, rfl, (show _ = (nI 2) from by simp [esg41, gw_u, upd]).trans (show (nI 2) = kOrder x1 x2 x3 x4 by simp [kOrder, kif, hi1, hi2, hi3, hi4])⟩)
                  · exact absurd hc42 (by decide)
          · refine W.eq (g2 := F0 m 33 ls [.int (nI 0), .ref (ad 0)]) rfl ?_
            refine lv_if_eq (tgt := 48) hx hb dX3_order_33 (by decide) (fun hc43 => ?_) (fun hc43 => ?_)
            · refine lv_iconst (v := (nI 2)) hx hb dX3_order_48 (by decide) ?_
              refine lv_goto (tgt := 53) hx hb dX3_order_49 (by decide) ?_
              refine gw_put (C := RX3) (T := TX3) (N := 27) (ty := .int) hx hb hts inwX3 tyX3 tyX3_ok nmX3 hown hK hP hD hS 0 0 rfl rfl rfl (by decide) (hts _ a130) (fun _ h9 => h9) rfl (by decide +kernel) rfl rfl dX3_order_53 (fun H locs hP hD hS => ?_)
              obtain ⟨sg44, esg44⟩ : ∃ z : Nat → Nat → Int32, z = gw_u sg0 0 (upd (sg0 0) 0 (nI 2)) := ⟨_, rfl⟩
              rw [← esg44] at hP hD
              have hk : KM sg0 sg44 := by rw [esg44]; exact hk.wf (by decide) (by decide) (by decide) _
              refine lv_aload_n hx hb dX3_order_56 rfl (lv_at hl 0 rfl) ?_
              refine gw_geti (C := RX3) (T := TX3) (N := 27) hx hb hts inwX3 hown hK hP 0 0 rfl rfl rfl (by decide) (hts _ a130) (fun _ h9 => h9) dX3_order_57 ?_
              refine gw_top (y := (nI 2)) (by simp [esg44, gw_u, upd]) ?_
              refine lv_if_ne (tgt := 89) hx hb dX3_order_60 (by decide) (fun hc45 => ?_) (fun hc45 => ?_)
              · exact hret _ _ _ _ _ hP hS dX3_order_89 (⟨hk, rfl, (show _ = (nI 2) from by simp [esg44, gw_u, upd]).trans (show (nI 2) = kOrder x1 x2 x3 x4 by simp [kOrder, kif, hi1, hi2, hi3])⟩)
              · exact absurd hc45 (by decide)
            · exact absurd hc43 (by decide)
      · refine W.eq (g2 := F0 m 22 ls [.int (nI 0), .ref (ad 0)]) rfl ?_
        refine lv_if_eq (tgt := 48) hx hb dX3_order_22 (by decide) (fun hc46 => ?_) (fun hc46 => ?_)
        · refine lv_iconst (v := (nI 2)) hx hb dX3_order_48 (by decide) ?_
          refine lv_goto (tgt := 53) hx hb dX3_order_49 (by decide) ?_
          refine gw_put (C := RX3) (T := TX3) (N := 27) (ty := .int) hx hb hts inwX3 tyX3 tyX3_ok nmX3 hown hK hP hD hS 0 0 rfl rfl rfl (by decide) (hts _ a130) (fun _ h9 => h9) rfl (by decide +kernel) rfl rfl dX3_order_53 (fun H locs hP hD hS => ?_)
          obtain ⟨sg47, esg47⟩ : ∃ z : Nat → Nat → Int32, z = gw_u sg0 0 (upd (sg0 0) 0 (nI 2)) := ⟨_, rfl⟩
          rw [← esg47] at hP hD
          have hk : KM sg0 sg47 := by rw [esg47]; exact hk.wf (by decide) (by decide) (by decide) _
          refine lv_aload_n hx hb dX3_order_56 rfl (lv_at hl 0 rfl) ?_
          refine gw_geti (C := RX3) (T := TX3) (N := 27) hx hb hts inwX3 hown hK hP 0 0 rfl rfl rfl (by decide) (hts _ a130) (fun _ h9 => h9) dX3_order_57 ?_
          refine gw_top (y := (nI 2)) (by simp [esg47, gw_u, upd]) ?_
          refine lv_if_ne (tgt := 89) hx hb dX3_order_60 (by decide) (fun hc48 => ?_) (fun hc48 => ?_)
          · exact hret _ _ _ _ _ hP hS dX3_order_89 (⟨hk, rfl, (show _ = (nI 2) from by simp [esg47, gw_u, upd]).trans (show (nI 2) = kOrder x1 x2 x3 x4 by simp [kOrder, kif, hi1, hi2])⟩)
          · exact absurd hc48 (by decide)
        · exact absurd hc46 (by decide)
    · exact absurd hc7 (by decide)
  · refine W.eq (g2 := F0 m 7 ls [.int (nI 0), .ref (ad 0)]) rfl ?_
    refine lv_if_ne (tgt := 14) hx hb dX3_order_7 (by decide) (fun hc49 => ?_) (fun hc49 => ?_)
    · exact absurd hc49 (by decide)
    · refine lv_iconst (v := (nI 1)) hx hb dX3_order_10 (by decide) ?_
      refine lv_goto (tgt := 53) hx hb dX3_order_11 (by decide) ?_
      refine gw_put (C := RX3) (T := TX3) (N := 27) (ty := .int) hx hb hts inwX3 tyX3 tyX3_ok nmX3 hown hK hP hD hS 0 0 rfl rfl rfl (by decide) (hts _ a130) (fun _ h9 => h9) rfl (by decide +kernel) rfl rfl dX3_order_53 (fun H locs hP hD hS => ?_)
      obtain ⟨sg50, esg50⟩ : ∃ z : Nat → Nat → Int32, z = gw_u sg0 0 (upd (sg0 0) 0 (nI 1)) := ⟨_, rfl⟩
      rw [← esg50] at hP hD
      have hk : KM sg0 sg50 := by rw [esg50]; exact hk.wf (by decide) (by decide) (by decide) _
      refine lv_aload_n hx hb dX3_order_56 rfl (lv_at hl 0 rfl) ?_
      refine gw_geti (C := RX3) (T := TX3) (N := 27) hx hb hts inwX3 hown hK hP 0 0 rfl rfl rfl (by decide) (hts _ a130) (fun _ h9 => h9) dX3_order_57 ?_
      refine gw_top (y := (nI 1)) (by simp [esg50, gw_u, upd]) ?_
      refine lv_if_ne (tgt := 89) hx hb dX3_order_60 (by decide) (fun hc51 => ?_) (fun hc51 => ?_)
      · exact hret _ _ _ _ _ hP hS dX3_order_89 (⟨hk, rfl, (show _ = (nI 1) from by simp [esg50, gw_u, upd]).trans (show (nI 1) = kOrder x1 x2 x3 x4 by simp [kOrder, kif, hi1])⟩)
      · exact absurd hc51 (by decide)
abbrev rmX3_hours : Room := { frames := 1, cells := 0, slots := 0, locals := 22 }
set_option maxRecDepth 100000 in
set_option maxHeartbeats 4000000 in
theorem m_X3_hours (l : Launch) (hl9 : l.stackTraces = false) (D : va_G) (cI : ClassId) (cJ : ClassId × ClassId) (ad : Nat → Nat) (sg0 : Nat → Nat → Int32) (sz : Nat) (x1 : Int32) (x2 : Int32) (hI : IvM sg0) : gc_M l yX3_hours wsX3_hours rmX3_hours D vwCl (tyS cI cJ) cI cJ gxT gxN SM [.ref (ad 0), .int x1, .int x2] ad sg0 sz 0 0 (fun v sg2 => KM sg0 sg2 ∧ v = none ∧ sg2 0 0 = kHours x1 x2) := by
  refine gc_Mv_of (cc := cX3_hours) (maxL := 3) (by decide) rfl (Nat.le_of_ble_eq_true rfl) ?_
  intro p e s m below meth c A ls Q hin hE hret
  obtain ⟨⟨hx, hb, hml, hown, hts⟩, -, hlocks, -, hA, hP, hK, hD, hS, hl⟩ := hin
  have hts : ∀ w ∈ wsAll, w.before ([.ref (ad 0), .int x1, .int x2] : List Value).toArray s = true := fun w h => hts w (List.mem_cons_of_mem _ h)
  have hl : lv_has ls 3 [(0, .ref (ad 0)), (1, .int x1), (2, .int x2)] := hl
  have hk := KM.refl hI
  refine lv_aload_n hx hb dX3_hours_0 rfl (lv_at hl 0 rfl) ?_
  refine lv_iload_n hx hb dX3_hours_1 rfl (lv_at hl 1 rfl) ?_
  refine lv_iconst (v := (nI 0)) hx hb dX3_hours_2 (by decide) ?_
  refine lv_sipush (v := (nI 1440)) hx hb dX3_hours_3 (by decide) ?_
  refine gc_go (pl := []) (S2 := SE) (ad := ad) (sg := sg0) (va_runS (As := [.int x1, .int (nI 0), .int (nI 1440)]) (rest := [.ref (ad 0)]) ⟨hx, hb, hml, hown, hts⟩ (m_X3_isIn l hl9 D cI cJ (fun j => ad (gw_p [] j)) (fun j => sg0 (gw_p [] j)) _ x1 (nI 0) (nI 1440) ) (cwS 3 hts (gwS a133 a134 a135 a136) rfl rfl rfl (by decide +kernel) ⟨by decide, by decide⟩) (gc_preS hK hP hD hS hA hE rfl) rfl rfl hl.1 rfl (lv_room (Nat.le_of_ble_eq_true rfl)) dX3_hours_6 ⟨by decide, by decide⟩) hP hD hS hA rfl (fun v1 sp2 sg3 H locs hp4 ha5 hb6 hP hD hS => ?_)
  rw [show sg3 = sg0 from funext (fun k => hb6 k (by simp))] at hP hD
  rcases hp4 with ⟨rfl, hi1⟩ | ⟨rfl, hi1⟩
  · refine W.eq (g2 := F0 m 9 ls [.int (nI 1), .ref (ad 0)]) rfl ?_
    refine lv_if_eq (tgt := 27) hx hb dX3_hours_9 (by decide) (fun hc7 => ?_) (fun hc7 => ?_)
    · exact absurd hc7 (by decide)
    · refine lv_iload_n hx hb dX3_hours_12 rfl (lv_at hl 2 rfl) ?_
      refine lv_iconst (v := (nI 0)) hx hb dX3_hours_13 (by decide) ?_
      refine lv_sipush (v := (nI 1440)) hx hb dX3_hours_14 (by decide) ?_
      refine gc_go (pl := []) (S2 := SE) (ad := ad) (sg := sg0) (va_runS (As := [.int x2, .int (nI 0), .int (nI 1440)]) (rest := [.ref (ad 0)]) ⟨hx, hb, hml, hown, hts⟩ (m_X3_isIn l hl9 D cI cJ (fun j => ad (gw_p [] j)) (fun j => sg0 (gw_p [] j)) _ x2 (nI 0) (nI 1440) ) (cwS 3 hts (gwS a133 a134 a135 a136) rfl rfl rfl (by decide +kernel) ⟨by decide, by decide⟩) (gc_preS hK hP hD hS hA hE rfl) rfl rfl hl.1 rfl (lv_room (Nat.le_of_ble_eq_true rfl)) dX3_hours_17 ⟨by decide, by decide⟩) hP hD hS hA rfl (fun v8 sp9 sg10 H locs hp11 ha12 hb13 hP hD hS => ?_)
      rw [show sg10 = sg0 from funext (fun k => hb13 k (by simp))] at hP hD
      rcases hp11 with ⟨rfl, hi2⟩ | ⟨rfl, hi2⟩
      · refine W.eq (g2 := F0 m 20 ls [.int (nI 1), .ref (ad 0)]) rfl ?_
        refine lv_if_eq (tgt := 27) hx hb dX3_hours_20 (by decide) (fun hc14 => ?_) (fun hc14 => ?_)
        · exact absurd hc14 (by decide)
        · refine lv_iconst (v := (nI 0)) hx hb dX3_hours_23 (by decide) ?_
          refine lv_goto (tgt := 28) hx hb dX3_hours_24 (by decide) ?_
          refine gw_put (C := RX3) (T := TX3) (N := 27) (ty := .int) hx hb hts inwX3 tyX3 tyX3_ok nmX3 hown hK hP hD hS 0 0 rfl rfl rfl (by decide) (hts _ a130) (fun _ h9 => h9) rfl (by decide +kernel) rfl rfl dX3_hours_28 (fun H locs hP hD hS => ?_)
          obtain ⟨sg15, esg15⟩ : ∃ z : Nat → Nat → Int32, z = gw_u sg0 0 (upd (sg0 0) 0 (nI 0)) := ⟨_, rfl⟩
          rw [← esg15] at hP hD
          have hk : KM sg0 sg15 := by rw [esg15]; exact hk.wf (by decide) (by decide) (by decide) _
          refine lv_aload_n hx hb dX3_hours_31 rfl (lv_at hl 0 rfl) ?_
          refine gw_geti (C := RX3) (T := TX3) (N := 27) hx hb hts inwX3 hown hK hP 0 0 rfl rfl rfl (by decide) (hts _ a130) (fun _ h9 => h9) dX3_hours_32 ?_
          refine gw_top (y := (nI 0)) (by simp [esg15, gw_u, upd]) ?_
          refine lv_if_ne (tgt := 52) hx hb dX3_hours_35 (by decide) (fun hc16 => ?_) (fun hc16 => ?_)
          · exact absurd hc16 (by decide)
          · have hk9 : kHours x1 x2 = nI 0 := by simp [kHours, kif, hi1, hi2]
            refine lv_aload_n hx hb dX3_hours_38 rfl (lv_at hl 0 rfl) ?_
            refine lv_iload_n hx hb dX3_hours_39 rfl (lv_at hl 1 rfl) ?_
            refine gw_put (C := RX3) (T := TX3) (N := 27) (ty := .int) hx hb hts inwX3 tyX3 tyX3_ok nmX3 hown hK hP hD hS 0 11 rfl rfl rfl (by decide) (hts _ a147) (fun _ h9 => h9) rfl (by decide +kernel) rfl rfl dX3_hours_40 (fun H locs hP hD hS => ?_)
            obtain ⟨sg17, esg17⟩ : ∃ z : Nat → Nat → Int32, z = gw_u sg15 0 (upd (sg15 0) 11 x1) := ⟨_, rfl⟩
            rw [← esg17] at hP hD
            have hk : KM sg0 sg17 := by rw [esg17]; exact hk.wf (by decide) (by decide) (by decide) _
            refine lv_aload_n hx hb dX3_hours_43 rfl (lv_at hl 0 rfl) ?_
            refine lv_iload_n hx hb dX3_hours_44 rfl (lv_at hl 2 rfl) ?_
            refine gw_put (C := RX3) (T := TX3) (N := 27) (ty := .int) hx hb hts inwX3 tyX3 tyX3_ok nmX3 hown hK hP hD hS 0 12 rfl rfl rfl (by decide) (hts _ a148) (fun _ h9 => h9) rfl (by decide +kernel) rfl rfl dX3_hours_45 (fun H locs hP hD hS => ?_)
            obtain ⟨sg18, esg18⟩ : ∃ z : Nat → Nat → Int32, z = gw_u sg17 0 (upd (sg17 0) 12 x2) := ⟨_, rfl⟩
            rw [← esg18] at hP hD
            have hk : KM sg0 sg18 := by rw [esg18]; exact hk.wf (by decide) (by decide) (by decide) _
            refine lv_aload_n hx hb dX3_hours_48 rfl (lv_at hl 0 rfl) ?_
            refine gc_go0 (va_runV (As := []) (rest := []) ⟨hx, hb, hml, hown, hts⟩ (m_X3_forget l hl9 D cI cJ ad sg18 _  hk.1) (cwV 0 hts (gwV a140 a141 a142 a135 a143) rfl rfl rfl (by decide +kernel) ⟨by decide, by decide⟩) (gc_preV0 hK hP hD hS hA hE rfl rfl rfl) rfl rfl hl.1 rfl (lv_room (Nat.le_of_ble_eq_true rfl)) dX3_hours_49 ⟨by decide, by decide⟩) hD hS hA (fun v19 sg21 H locs hp22 hP hD hS => ?_)
            obtain ⟨hk1, rfl, hq7⟩ := hp22
            have hq9 := hq7 0 (by decide) (by decide)
            have hk := hk.trans hk1
            refine W.eq (g2 := F0 m 52 ls []) rfl ?_
            exact hret _ _ _ _ _ hP hS dX3_hours_52 (⟨hk, rfl, (show _ = (nI 0) from by simp [hq9, esg18, esg17, esg15, gw_u, upd]).trans hk9.symm⟩)
      · refine W.eq (g2 := F0 m 20 ls [.int (nI 0), .ref (ad 0)]) rfl ?_
        refine lv_if_eq (tgt := 27) hx hb dX3_hours_20 (by decide) (fun hc25 => ?_) (fun hc25 => ?_)
        · refine lv_iconst (v := (nI 1)) hx hb dX3_hours_27 (by decide) ?_
          refine gw_put (C := RX3) (T := TX3) (N := 27) (ty := .int) hx hb hts inwX3 tyX3 tyX3_ok nmX3 hown hK hP hD hS 0 0 rfl rfl rfl (by decide) (hts _ a130) (fun _ h9 => h9) rfl (by decide +kernel) rfl rfl dX3_hours_28 (fun H locs hP hD hS => ?_)
          obtain ⟨sg26, esg26⟩ : ∃ z : Nat → Nat → Int32, z = gw_u sg0 0 (upd (sg0 0) 0 (nI 1)) := ⟨_, rfl⟩
          rw [← esg26] at hP hD
          have hk : KM sg0 sg26 := by rw [esg26]; exact hk.wf (by decide) (by decide) (by decide) _
          refine lv_aload_n hx hb dX3_hours_31 rfl (lv_at hl 0 rfl) ?_
          refine gw_geti (C := RX3) (T := TX3) (N := 27) hx hb hts inwX3 hown hK hP 0 0 rfl rfl rfl (by decide) (hts _ a130) (fun _ h9 => h9) dX3_hours_32 ?_
          refine gw_top (y := (nI 1)) (by simp [esg26, gw_u, upd]) ?_
          refine lv_if_ne (tgt := 52) hx hb dX3_hours_35 (by decide) (fun hc27 => ?_) (fun hc27 => ?_)
          · exact hret _ _ _ _ _ hP hS dX3_hours_52 (⟨hk, rfl, (show _ = (nI 1) from by simp [esg26, gw_u, upd]).trans (show (nI 1) = kHours x1 x2 by simp [kHours, kif, hi1, hi2])⟩)
          · exact absurd hc27 (by decide)
        · exact absurd hc25 (by decide)
  · refine W.eq (g2 := F0 m 9 ls [.int (nI 0), .ref (ad 0)]) rfl ?_
    refine lv_if_eq (tgt := 27) hx hb dX3_hours_9 (by decide) (fun hc28 => ?_) (fun hc28 => ?_)
    · refine lv_iconst (v := (nI 1)) hx hb dX3_hours_27 (by decide) ?_
      refine gw_put (C := RX3) (T := TX3) (N := 27) (ty := .int) hx hb hts inwX3 tyX3 tyX3_ok nmX3 hown hK hP hD hS 0 0 rfl rfl rfl (by decide) (hts _ a130) (fun _ h9 => h9) rfl (by decide +kernel) rfl rfl dX3_hours_28 (fun H locs hP hD hS => ?_)
      obtain ⟨sg29, esg29⟩ : ∃ z : Nat → Nat → Int32, z = gw_u sg0 0 (upd (sg0 0) 0 (nI 1)) := ⟨_, rfl⟩
      rw [← esg29] at hP hD
      have hk : KM sg0 sg29 := by rw [esg29]; exact hk.wf (by decide) (by decide) (by decide) _
      refine lv_aload_n hx hb dX3_hours_31 rfl (lv_at hl 0 rfl) ?_
      refine gw_geti (C := RX3) (T := TX3) (N := 27) hx hb hts inwX3 hown hK hP 0 0 rfl rfl rfl (by decide) (hts _ a130) (fun _ h9 => h9) dX3_hours_32 ?_
      refine gw_top (y := (nI 1)) (by simp [esg29, gw_u, upd]) ?_
      refine lv_if_ne (tgt := 52) hx hb dX3_hours_35 (by decide) (fun hc30 => ?_) (fun hc30 => ?_)
      · exact hret _ _ _ _ _ hP hS dX3_hours_52 (⟨hk, rfl, (show _ = (nI 1) from by simp [esg29, gw_u, upd]).trans (show (nI 1) = kHours x1 x2 by simp [kHours, kif, hi1])⟩)
      · exact absurd hc30 (by decide)
    · exact absurd hc28 (by decide)
abbrev rmX3_isPattern : Room := { frames := 0, cells := 0, slots := 0, locals := 0 }
set_option maxRecDepth 100000 in
set_option maxHeartbeats 4000000 in
theorem m_X3_isPattern (l : Launch) (hl9 : l.stackTraces = false) (D : va_G) (cI : ClassId) (cJ : ClassId × ClassId) (ad : Nat → Nat) (sg0 : Nat → Nat → Int32) (sz : Nat) (x1 : Int32) (hI : IvM sg0) : gc_M l yX3_isPattern wsX3_isPattern rmX3_isPattern D vwCl (tyS cI cJ) cI cJ gxT gxN SM [.ref (ad 0), .int x1] ad sg0 sz 0 0 (fun v sg2 => sg2 = sg0 ∧ ((v = some (.int (nI 1)) ∧ inX x1 (sg0 0 3)) ∨ (v = some (.int (nI 0)) ∧ ¬ inX x1 (sg0 0 3)))) := by
  refine gc_Mz_of (cc := cX3_isPattern) (maxL := 2) (by decide) rfl (Nat.le_of_ble_eq_true rfl) ?_
  intro p e s m below meth c A ls Q hin hE hret
  obtain ⟨⟨hx, hb, hml, hown, hts⟩, -, hlocks, -, hA, hP, hK, hD, hS, hl⟩ := hin
  have hts : ∀ w ∈ wsAll, w.before ([.ref (ad 0), .int x1] : List Value).toArray s = true := fun w h => hts w (List.mem_cons_of_mem _ h)
  have hl : lv_has ls 2 [(0, .ref (ad 0)), (1, .int x1)] := hl
  have hk := KM.refl hI
  refine lv_iload_n hx hb dX3_isPattern_0 rfl (lv_at hl 1 rfl) ?_
  refine lv_if_lt (tgt := 16) hx hb dX3_isPattern_1 (by decide) (fun h1 => ?_) (fun h1 => ?_)
  · refine lv_iconst (v := (nI 0)) hx hb dX3_isPattern_16 (by decide) ?_
    exact hret _ _ _ _ _ _ hP hS dX3_isPattern_17 rfl (⟨rfl, Or.inr ⟨rfl, by first | exact fun q => q.1 h1 | exact fun q => absurd q.2 (by rw [eN]; exact i_nlt.mpr h6)⟩⟩)
  · refine lv_iload_n hx hb dX3_isPattern_4 rfl (lv_at hl 1 rfl) ?_
    refine lv_aload_n hx hb dX3_isPattern_5 rfl (lv_at hl 0 rfl) ?_
    refine gw_geti (C := RX3) (T := TX3) (N := 27) hx hb hts inwX3 hown hK hP 0 3 rfl rfl rfl (by decide) (hts _ a149) (fun _ h9 => h9) dX3_isPattern_6 ?_
    obtain ⟨N, hN, eN⟩ := hk.1.1
    refine gw_top (y := (nI N)) (eN) ?_
    refine lv_icmp_ge (tgt := 16) hx hb dX3_isPattern_9 (by decide) (fun h6 => ?_) (fun h6 => ?_)
    · refine lv_iconst (v := (nI 0)) hx hb dX3_isPattern_16 (by decide) ?_
      exact hret _ _ _ _ _ _ hP hS dX3_isPattern_17 rfl (⟨rfl, Or.inr ⟨rfl, by first | exact fun q => q.1 h1 | exact fun q => absurd q.2 (by rw [eN]; exact i_nlt.mpr h6)⟩⟩)
    · refine lv_iconst (v := (nI 1)) hx hb dX3_isPattern_12 (by decide) ?_
      refine lv_goto (tgt := 17) hx hb dX3_isPattern_13 (by decide) ?_
      exact hret _ _ _ _ _ _ hP hS dX3_isPattern_17 rfl (⟨rfl, Or.inl ⟨rfl, h1, by rw [eN]; exact i_nle.mp h6⟩⟩)
abbrev rmX3_gives : Room := { frames := 1, cells := 0, slots := 0, locals := 22 }
set_option maxRecDepth 100000 in
set_option maxHeartbeats 4000000 in
theorem m_X3_gives (l : Launch) (hl9 : l.stackTraces = false) (D : va_G) (cI : ClassId) (cJ : ClassId × ClassId) (ad : Nat → Nat) (sg0 : Nat → Nat → Int32) (sz : Nat) (x1 : Int32) (x2 : Int32) (x3 : Int32) (hI : IvM sg0) : gc_M l yX3_gives wsX3_gives rmX3_gives D vwCl (tyS cI cJ) cI cJ gxT gxN SM [.ref (ad 0), .int x1, .int x2, .int x3] ad sg0 sz 0 0 (fun v sg2 => KM sg0 sg2 ∧ v = none ∧ sg2 0 0 = kGives (sg0 0 3) x1 x2 x3) := by
  refine gc_Mv_of (cc := cX3_gives) (maxL := 4) (by decide) rfl (Nat.le_of_ble_eq_true rfl) ?_
  intro p e s m below meth c A ls Q hin hE hret
  obtain ⟨⟨hx, hb, hml, hown, hts⟩, -, hlocks, -, hA, hP, hK, hD, hS, hl⟩ := hin
  have hts : ∀ w ∈ wsAll, w.before ([.ref (ad 0), .int x1, .int x2, .int x3] : List Value).toArray s = true := fun w h => hts w (List.mem_cons_of_mem _ h)
  have hl : lv_has ls 4 [(0, .ref (ad 0)), (1, .int x1), (2, .int x2), (3, .int x3)] := hl
  have hk := KM.refl hI
  refine lv_aload_n hx hb dX3_gives_0 rfl (lv_at hl 0 rfl) ?_
  refine lv_aload_n hx hb dX3_gives_1 rfl (lv_at hl 0 rfl) ?_
  refine lv_iload_n hx hb dX3_gives_2 rfl (lv_at hl 1 rfl) ?_
  refine gc_go0 (va_runV (As := [.int x1]) (rest := [.ref (ad 0)]) ⟨hx, hb, hml, hown, hts⟩ (m_X3_isPattern l hl9 D cI cJ ad sg0 _ x1 hk.1) (cwV 1 hts (gwV a150 a151 a152 a135 a153) rfl rfl rfl (by decide +kernel) ⟨by decide, by decide⟩) (gc_preV0 hK hP hD hS hA hE rfl rfl rfl) rfl rfl hl.1 rfl (lv_room (Nat.le_of_ble_eq_true rfl)) dX3_gives_3 ⟨by decide, by decide⟩) hD hS hA (fun v1 sg3 H locs hp4 hP hD hS => ?_)
  obtain ⟨hs9, hp9⟩ := hp4
  rw [hs9] at hP hD
  rcases hp9 with ⟨rfl, hp1⟩ | ⟨rfl, hp1⟩
  · refine W.eq (g2 := F0 m 6 ls [.int (nI 1), .ref (ad 0)]) rfl ?_
    refine lv_if_eq (tgt := 18) hx hb dX3_gives_6 (by decide) (fun hc7 => ?_) (fun hc7 => ?_)
    · exact absurd hc7 (by decide)
    · refine lv_iload_n hx hb dX3_gives_9 rfl (lv_at hl 2 rfl) ?_
      refine lv_iconst (v := (nI 0)) hx hb dX3_gives_10 (by decide) ?_
      refine lv_iconst (v := (nI 3)) hx hb dX3_gives_11 (by decide) ?_
      refine gc_go (pl := []) (S2 := SE) (ad := ad) (sg := sg0) (va_runS (As := [.int x2, .int (nI 0), .int (nI 3)]) (rest := [.ref (ad 0)]) ⟨hx, hb, hml, hown, hts⟩ (m_X3_isIn l hl9 D cI cJ (fun j => ad (gw_p [] j)) (fun j => sg0 (gw_p [] j)) _ x2 (nI 0) (nI 3) ) (cwS 3 hts (gwS a133 a134 a135 a136) rfl rfl rfl (by decide +kernel) ⟨by decide, by decide⟩) (gc_preS hK hP hD hS hA hE rfl) rfl rfl hl.1 rfl (lv_room (Nat.le_of_ble_eq_true rfl)) dX3_gives_12 ⟨by decide, by decide⟩) hP hD hS hA rfl (fun v8 sp9 sg10 H locs hp11 ha12 hb13 hP hD hS => ?_)
      rw [show sg10 = sg0 from funext (fun k => hb13 k (by simp))] at hP hD
      rcases hp11 with ⟨rfl, hi1⟩ | ⟨rfl, hi1⟩
      · refine W.eq (g2 := F0 m 15 ls [.int (nI 1), .ref (ad 0)]) rfl ?_
        refine lv_if_ne (tgt := 22) hx hb dX3_gives_15 (by decide) (fun hc14 => ?_) (fun hc14 => ?_)
        · refine lv_iload_n hx hb dX3_gives_22 rfl (lv_at hl 3 rfl) ?_
          refine lv_iconst (v := (nI 0)) hx hb dX3_gives_23 (by decide) ?_
          refine lv_bipush (v := (nI 9)) hx hb dX3_gives_24 (by decide) ?_
          refine gc_go (pl := []) (S2 := SE) (ad := ad) (sg := sg0) (va_runS (As := [.int x3, .int (nI 0), .int (nI 9)]) (rest := [.ref (ad 0)]) ⟨hx, hb, hml, hown, hts⟩ (m_X3_isIn l hl9 D cI cJ (fun j => ad (gw_p [] j)) (fun j => sg0 (gw_p [] j)) _ x3 (nI 0) (nI 9) ) (cwS 3 hts (gwS a133 a134 a135 a136) rfl rfl rfl (by decide +kernel) ⟨by decide, by decide⟩) (gc_preS hK hP hD hS hA hE rfl) rfl rfl hl.1 rfl (lv_room (Nat.le_of_ble_eq_true rfl)) dX3_gives_26 ⟨by decide, by decide⟩) hP hD hS hA rfl (fun v15 sp16 sg17 H locs hp18 ha19 hb20 hP hD hS => ?_)
          rw [show sg17 = sg0 from funext (fun k => hb20 k (by simp))] at hP hD
          rcases hp18 with ⟨rfl, hi2⟩ | ⟨rfl, hi2⟩
          · refine W.eq (g2 := F0 m 29 ls [.int (nI 1), .ref (ad 0)]) rfl ?_
            refine lv_if_ne (tgt := 36) hx hb dX3_gives_29 (by decide) (fun hc21 => ?_) (fun hc21 => ?_)
            · refine lv_iconst (v := (nI 0)) hx hb dX3_gives_36 (by decide) ?_
              refine gw_put (C := RX3) (T := TX3) (N := 27) (ty := .int) hx hb hts inwX3 tyX3 tyX3_ok nmX3 hown hK hP hD hS 0 0 rfl rfl rfl (by decide) (hts _ a130) (fun _ h9 => h9) rfl (by decide +kernel) rfl rfl dX3_gives_37 (fun H locs hP hD hS => ?_)
              obtain ⟨sg22, esg22⟩ : ∃ z : Nat → Nat → Int32, z = gw_u sg0 0 (upd (sg0 0) 0 (nI 0)) := ⟨_, rfl⟩
              rw [← esg22] at hP hD
              have hk : KM sg0 sg22 := by rw [esg22]; exact hk.wf (by decide) (by decide) (by decide) _
              refine lv_aload_n hx hb dX3_gives_40 rfl (lv_at hl 0 rfl) ?_
              refine gw_geti (C := RX3) (T := TX3) (N := 27) hx hb hts inwX3 hown hK hP 0 0 rfl rfl rfl (by decide) (hts _ a130) (fun _ h9 => h9) dX3_gives_41 ?_
              refine gw_top (y := (nI 0)) (by simp [esg22, gw_u, upd]) ?_
              refine lv_if_ne (tgt := 62) hx hb dX3_gives_44 (by decide) (fun hc23 => ?_) (fun hc23 => ?_)
              · exact absurd hc23 (by decide)
              · have hk9 : kGives (sg0 0 3) x1 x2 x3 = nI 0 := by simp [kGives, kif, hp1, hi1, hi2]
                obtain ⟨N, hN, eN⟩ := hI.1
                rw [eN] at hp1
                obtain ⟨j1, hj1, rfl⟩ := ixofN hN hp1
                obtain ⟨j2, hj2, rfl⟩ := inof3 hi1
                refine lv_aload_n hx hb dX3_gives_47 rfl (lv_at hl 0 rfl) ?_
                refine gw_getr (C := RX3) (T := TX3) (N := 27) hx hb hts inwX3 hown hK hP 0 6 5 rfl rfl rfl (by decide) (hts _ a154) (fun _ h9 => h9) dX3_gives_48 ?_
                refine lv_iconst (v := (nI 4)) hx hb dX3_gives_51 (by decide) ?_
                refine lv_iload_n hx hb dX3_gives_52 rfl (lv_at hl 1 rfl) ?_
                refine lv_imul hx hb dX3_gives_53 ?_
                refine gw_top (y := (nI (4 * j1))) (nI_mul _ _) ?_
                refine lv_iload_n hx hb dX3_gives_54 rfl (lv_at hl 2 rfl) ?_
                refine lv_iadd hx hb dX3_gives_55 ?_
                refine gw_top (y := (nI ((4 * j1) + j2))) (nI_add _ _) ?_
                refine lv_iload_n hx hb dX3_gives_56 rfl (lv_at hl 3 rfl) ?_
                refine gw_ast hx hb hK hP hD hS 5 0 (n := 24) rfl rfl (i := (4 * j1) + j2) (by omega) (by decide) dX3_gives_57 (fun H locs hP hD hS => ?_)
                obtain ⟨sg24, esg24⟩ : ∃ z : Nat → Nat → Int32, z = gw_u sg22 5 (upd (sg22 5) ((4 * j1) + j2) x3) := ⟨_, rfl⟩
                rw [← esg24] at hP hD
                have hk : KM sg0 sg24 := by rw [esg24]; exact hk.wa 5 (by decide) (by decide) _
                refine lv_aload_n hx hb dX3_gives_58 rfl (lv_at hl 0 rfl) ?_
                refine gc_go0 (va_runV (As := []) (rest := []) ⟨hx, hb, hml, hown, hts⟩ (m_X3_forget l hl9 D cI cJ ad sg24 _  hk.1) (cwV 0 hts (gwV a140 a141 a142 a135 a143) rfl rfl rfl (by decide +kernel) ⟨by decide, by decide⟩) (gc_preV0 hK hP hD hS hA hE rfl rfl rfl) rfl rfl hl.1 rfl (lv_room (Nat.le_of_ble_eq_true rfl)) dX3_gives_59 ⟨by decide, by decide⟩) hD hS hA (fun v25 sg27 H locs hp28 hP hD hS => ?_)
                obtain ⟨hk1, rfl, hq7⟩ := hp28
                have hq9 := hq7 0 (by decide) (by decide)
                have hk := hk.trans hk1
                refine W.eq (g2 := F0 m 62 ls []) rfl ?_
                exact hret _ _ _ _ _ hP hS dX3_gives_62 (⟨hk, rfl, (show _ = (nI 0) from by simp [hq9, esg24, esg22, gw_u, upd]).trans hk9.symm⟩)
            · exact absurd hc21 (by decide)
          · refine W.eq (g2 := F0 m 29 ls [.int (nI 0), .ref (ad 0)]) rfl ?_
            refine lv_if_ne (tgt := 36) hx hb dX3_gives_29 (by decide) (fun hc31 => ?_) (fun hc31 => ?_)
            · exact absurd hc31 (by decide)
            · refine lv_iconst (v := (nI 2)) hx hb dX3_gives_32 (by decide) ?_
              refine lv_goto (tgt := 37) hx hb dX3_gives_33 (by decide) ?_
              refine gw_put (C := RX3) (T := TX3) (N := 27) (ty := .int) hx hb hts inwX3 tyX3 tyX3_ok nmX3 hown hK hP hD hS 0 0 rfl rfl rfl (by decide) (hts _ a130) (fun _ h9 => h9) rfl (by decide +kernel) rfl rfl dX3_gives_37 (fun H locs hP hD hS => ?_)
              obtain ⟨sg32, esg32⟩ : ∃ z : Nat → Nat → Int32, z = gw_u sg0 0 (upd (sg0 0) 0 (nI 2)) := ⟨_, rfl⟩
              rw [← esg32] at hP hD
              have hk : KM sg0 sg32 := by rw [esg32]; exact hk.wf (by decide) (by decide) (by decide) _
              refine lv_aload_n hx hb dX3_gives_40 rfl (lv_at hl 0 rfl) ?_
              refine gw_geti (C := RX3) (T := TX3) (N := 27) hx hb hts inwX3 hown hK hP 0 0 rfl rfl rfl (by decide) (hts _ a130) (fun _ h9 => h9) dX3_gives_41 ?_
              refine gw_top (y := (nI 2)) (by simp [esg32, gw_u, upd]) ?_
              refine lv_if_ne (tgt := 62) hx hb dX3_gives_44 (by decide) (fun hc33 => ?_) (fun hc33 => ?_)
              · exact hret _ _ _ _ _ hP hS dX3_gives_62 (⟨hk, rfl, (show _ = (nI 2) from by simp [esg32, gw_u, upd]).trans (show (nI 2) = kGives (sg0 0 3) x1 x2 x3 by simp [kGives, kif, hp1, hi1, hi2])⟩)
              · exact absurd hc33 (by decide)
        · exact absurd hc14 (by decide)
      · refine W.eq (g2 := F0 m 15 ls [.int (nI 0), .ref (ad 0)]) rfl ?_
        refine lv_if_ne (tgt := 22) hx hb dX3_gives_15 (by decide) (fun hc34 => ?_) (fun hc34 => ?_)
        · exact absurd hc34 (by decide)
        · refine lv_iconst (v := (nI 1)) hx hb dX3_gives_18 (by decide) ?_
          refine lv_goto (tgt := 37) hx hb dX3_gives_19 (by decide) ?_
          refine gw_put (C := RX3) (T := TX3) (N := 27) (ty := .int) hx hb hts inwX3 tyX3 tyX3_ok nmX3 hown hK hP hD hS 0 0 rfl rfl rfl (by decide) (hts _ a130) (fun _ h9 => h9) rfl (by decide +kernel) rfl rfl dX3_gives_37 (fun H locs hP hD hS => ?_)
          obtain ⟨sg35, esg35⟩ : ∃ z : Nat → Nat → Int32, z = gw_u sg0 0 (upd (sg0 0) 0 (nI 1)) := ⟨_, rfl⟩
          rw [← esg35] at hP hD
          have hk : KM sg0 sg35 := by rw [esg35]; exact hk.wf (by decide) (by decide) (by decide) _
          refine lv_aload_n hx hb dX3_gives_40 rfl (lv_at hl 0 rfl) ?_
          refine gw_geti (C := RX3) (T := TX3) (N := 27) hx hb hts inwX3 hown hK hP 0 0 rfl rfl rfl (by decide) (hts _ a130) (fun _ h9 => h9) dX3_gives_41 ?_
          refine gw_top (y := (nI 1)) (by simp [esg35, gw_u, upd]) ?_
          refine lv_if_ne (tgt := 62) hx hb dX3_gives_44 (by decide) (fun hc36 => ?_) (fun hc36 => ?_)
          · exact hret _ _ _ _ _ hP hS dX3_gives_62 (⟨hk, rfl, (show _ = (nI 1) from by simp [esg35, gw_u, upd]).trans (show (nI 1) = kGives (sg0 0 3) x1 x2 x3 by simp [kGives, kif, hp1, hi1])⟩)
          · exact absurd hc36 (by decide)
  · refine W.eq (g2 := F0 m 6 ls [.int (nI 0), .ref (ad 0)]) rfl ?_
    refine lv_if_eq (tgt := 18) hx hb dX3_gives_6 (by decide) (fun hc37 => ?_) (fun hc37 => ?_)
    · refine lv_iconst (v := (nI 1)) hx hb dX3_gives_18 (by decide) ?_
      refine lv_goto (tgt := 37) hx hb dX3_gives_19 (by decide) ?_
      refine gw_put (C := RX3) (T := TX3) (N := 27) (ty := .int) hx hb hts inwX3 tyX3 tyX3_ok nmX3 hown hK hP hD hS 0 0 rfl rfl rfl (by decide) (hts _ a130) (fun _ h9 => h9) rfl (by decide +kernel) rfl rfl dX3_gives_37 (fun H locs hP hD hS => ?_)
      obtain ⟨sg38, esg38⟩ : ∃ z : Nat → Nat → Int32, z = gw_u sg0 0 (upd (sg0 0) 0 (nI 1)) := ⟨_, rfl⟩
      rw [← esg38] at hP hD
      have hk : KM sg0 sg38 := by rw [esg38]; exact hk.wf (by decide) (by decide) (by decide) _
      refine lv_aload_n hx hb dX3_gives_40 rfl (lv_at hl 0 rfl) ?_
      refine gw_geti (C := RX3) (T := TX3) (N := 27) hx hb hts inwX3 hown hK hP 0 0 rfl rfl rfl (by decide) (hts _ a130) (fun _ h9 => h9) dX3_gives_41 ?_
      refine gw_top (y := (nI 1)) (by simp [esg38, gw_u, upd]) ?_
      refine lv_if_ne (tgt := 62) hx hb dX3_gives_44 (by decide) (fun hc39 => ?_) (fun hc39 => ?_)
      · exact hret _ _ _ _ _ hP hS dX3_gives_62 (⟨hk, rfl, (show _ = (nI 1) from by simp [esg38, gw_u, upd]).trans (show (nI 1) = kGives (sg0 0 3) x1 x2 x3 by simp [kGives, kif, hp1])⟩)
      · exact absurd hc39 (by decide)
    · exact absurd hc37 (by decide)
abbrev rmX3_pattern : Room := { frames := 1, cells := 0, slots := 0, locals := 22 }
set_option maxRecDepth 100000 in
set_option maxHeartbeats 4000000 in
theorem m_X3_pattern (l : Launch) (hl9 : l.stackTraces = false) (D : va_G) (cI : ClassId) (cJ : ClassId × ClassId) (ad : Nat → Nat) (sg0 : Nat → Nat → Int32) (sz : Nat) (x1 : Int32) (x2 : Int32) (hI : IvM sg0) : gc_M l yX3_pattern wsX3_pattern rmX3_pattern D vwCl (tyS cI cJ) cI cJ gxT gxN SM [.ref (ad 0), .int x1, .int x2] ad sg0 sz 0 0 (fun v sg2 => IvM sg2 ∧ sg2 0 0 = kPattern (sg0 0 3) x1 x2 ∧ (sg2 0 0 = nI 0 → v = some (.int (sg0 0 3)) ∧ sg2 0 3 = sg0 0 3 + 1) ∧ (¬ sg2 0 0 = nI 0 → sg2 0 3 = sg0 0 3) ∧ ∃ r : Int32, v = some (.int r)) := by
  refine gc_Mi_of (cc := cX3_pattern) (maxL := 3) (by decide) rfl (Nat.le_of_ble_eq_true rfl) ?_
  intro p e s m below meth c A ls Q hin hE hret
  obtain ⟨⟨hx, hb, hml, hown, hts⟩, -, hlocks, -, hA, hP, hK, hD, hS, hl⟩ := hin
  have hts : ∀ w ∈ wsAll, w.before ([.ref (ad 0), .int x1, .int x2] : List Value).toArray s = true := fun w h => hts w (List.mem_cons_of_mem _ h)
  have hl : lv_has ls 3 [(0, .ref (ad 0)), (1, .int x1), (2, .int x2)] := hl
  have hk := KM.refl hI
  refine lv_aload_n hx hb dX3_pattern_0 rfl (lv_at hl 0 rfl) ?_
  refine lv_iload_n hx hb dX3_pattern_1 rfl (lv_at hl 1 rfl) ?_
  refine lv_iconst (v := (nI 0)) hx hb dX3_pattern_2 (by decide) ?_
  refine lv_iconst (v := (nI 3)) hx hb dX3_pattern_3 (by decide) ?_
  refine gc_go (pl := []) (S2 := SE) (ad := ad) (sg := sg0) (va_runS (As := [.int x1, .int (nI 0), .int (nI 3)]) (rest := [.ref (ad 0)]) ⟨hx, hb, hml, hown, hts⟩ (m_X3_isIn l hl9 D cI cJ (fun j => ad (gw_p [] j)) (fun j => sg0 (gw_p [] j)) _ x1 (nI 0) (nI 3) ) (cwS 3 hts (gwS a133 a134 a135 a136) rfl rfl rfl (by decide +kernel) ⟨by decide, by decide⟩) (gc_preS hK hP hD hS hA hE rfl) rfl rfl hl.1 rfl (lv_room (Nat.le_of_ble_eq_true rfl)) dX3_pattern_4 ⟨by decide, by decide⟩) hP hD hS hA rfl (fun v1 sp2 sg3 H locs hp4 ha5 hb6 hP hD hS => ?_)
  rw [show sg3 = sg0 from funext (fun k => hb6 k (by simp))] at hP hD
  rcases hp4 with ⟨rfl, hi1⟩ | ⟨rfl, hi1⟩
  · refine W.eq (g2 := F0 m 7 ls [.int (nI 1), .ref (ad 0)]) rfl ?_
    refine lv_if_ne (tgt := 14) hx hb dX3_pattern_7 (by decide) (fun hc7 => ?_) (fun hc7 => ?_)
    · refine lv_iload_n hx hb dX3_pattern_14 rfl (lv_at hl 2 rfl) ?_
      refine lv_iconst (v := (nI 1)) hx hb dX3_pattern_15 (by decide) ?_
      refine lv_sipush (v := (nI 480)) hx hb dX3_pattern_16 (by decide) ?_
      refine gc_go (pl := []) (S2 := SE) (ad := ad) (sg := sg0) (va_runS (As := [.int x2, .int (nI 1), .int (nI 480)]) (rest := [.ref (ad 0)]) ⟨hx, hb, hml, hown, hts⟩ (m_X3_isIn l hl9 D cI cJ (fun j => ad (gw_p [] j)) (fun j => sg0 (gw_p [] j)) _ x2 (nI 1) (nI 480) ) (cwS 3 hts (gwS a133 a134 a135 a136) rfl rfl rfl (by decide +kernel) ⟨by decide, by decide⟩) (gc_preS hK hP hD hS hA hE rfl) rfl rfl hl.1 rfl (lv_room (Nat.le_of_ble_eq_true rfl)) dX3_pattern_19 ⟨by decide, by decide⟩) hP hD hS hA rfl (fun v8 sp9 sg10 H locs hp11 ha12 hb13 hP hD hS => ?_)
      rw [show sg10 = sg0 from funext (fun k => hb13 k (by simp))] at hP hD
      rcases hp11 with ⟨rfl, hi2⟩ | ⟨rfl, hi2⟩
      · refine W.eq (g2 := F0 m 22 ls [.int (nI 1), .ref (ad 0)]) rfl ?_
        refine lv_if_ne (tgt := 29) hx hb dX3_pattern_22 (by decide) (fun hc14 => ?_) (fun hc14 => ?_)
        · refine lv_aload_n hx hb dX3_pattern_29 rfl (lv_at hl 0 rfl) ?_
          refine gw_geti (C := RX3) (T := TX3) (N := 27) hx hb hts inwX3 hown hK hP 0 3 rfl rfl rfl (by decide) (hts _ a149) (fun _ h9 => h9) dX3_pattern_30 ?_
          obtain ⟨N, hN, eN⟩ := hk.1.1
          refine gw_top (y := (nI N)) (eN) ?_
          refine lv_bipush (v := (nI 6)) hx hb dX3_pattern_33 (by decide) ?_
          refine lv_icmp_ne (tgt := 42) hx hb dX3_pattern_35 (by decide) (fun hn6 => ?_) (fun hn6 => ?_)
          · have hn6 : ¬ (N = 6) := fun q => hn6 ((nI_eq (a := N) (b := 6) (by omega) (by omega)).mpr q)
            refine lv_iconst (v := (nI 0)) hx hb dX3_pattern_42 (by decide) ?_
            refine gw_put (C := RX3) (T := TX3) (N := 27) (ty := .int) hx hb hts inwX3 tyX3 tyX3_ok nmX3 hown hK hP hD hS 0 0 rfl rfl rfl (by decide) (hts _ a130) (fun _ h9 => h9) rfl (by decide +kernel) rfl rfl dX3_pattern_43 (fun H locs hP hD hS => ?_)
            obtain ⟨sg15, esg15⟩ : ∃ z : Nat → Nat → Int32, z = gw_u sg0 0 (upd (sg0 0) 0 (nI 0)) := ⟨_, rfl⟩
            rw [← esg15] at hP hD
            have hk : KM sg0 sg15 := by rw [esg15]; exact hk.wf (by decide) (by decide) (by decide) _
            refine lv_aload_n hx hb dX3_pattern_46 rfl (lv_at hl 0 rfl) ?_
            refine gw_geti (C := RX3) (T := TX3) (N := 27) hx hb hts inwX3 hown hK hP 0 0 rfl rfl rfl (by decide) (hts _ a130) (fun _ h9 => h9) dX3_pattern_47 ?_
            refine gw_top (y := (nI 0)) (by simp [esg15, gw_u, upd]) ?_
            refine lv_if_le (tgt := 55) hx hb dX3_pattern_50 (by decide) (fun hc16 => ?_) (fun hc16 => ?_)
            · have hk9 : kPattern (sg0 0 3) x1 x2 = nI 0 := by simp [kPattern, kif, hi1, hi2, eN, nI_ne6 (show N < 6 by omega)]
              obtain ⟨j1, hj1, rfl⟩ := inof3 hi1
              refine lv_aload_n hx hb dX3_pattern_55 rfl (lv_at hl 0 rfl) ?_
              refine gw_getr (C := RX3) (T := TX3) (N := 27) hx hb hts inwX3 hown hK hP 0 4 3 rfl rfl rfl (by decide) (hts _ a155) (fun _ h9 => h9) dX3_pattern_56 ?_
              refine lv_aload_n hx hb dX3_pattern_59 rfl (lv_at hl 0 rfl) ?_
              refine gw_geti (C := RX3) (T := TX3) (N := 27) hx hb hts inwX3 hown hK hP 0 3 rfl rfl rfl (by decide) (hts _ a149) (fun _ h9 => h9) dX3_pattern_60 ?_
              refine gw_top (y := (nI N)) (hk.2.trans eN) ?_
              refine lv_iload_n hx hb dX3_pattern_63 rfl (lv_at hl 1 rfl) ?_
              refine gw_ast hx hb hK hP hD hS 3 0 (n := 6) rfl rfl (i := N) (by omega) (by decide) dX3_pattern_64 (fun H locs hP hD hS => ?_)
              obtain ⟨sg17, esg17⟩ : ∃ z : Nat → Nat → Int32, z = gw_u sg15 3 (upd (sg15 3) N (nI j1)) := ⟨_, rfl⟩
              rw [← esg17] at hP hD
              have hk : KM sg0 sg17 := by rw [esg17]; exact hk.wc _ (by omega)
              refine lv_aload_n hx hb dX3_pattern_65 rfl (lv_at hl 0 rfl) ?_
              refine gw_getr (C := RX3) (T := TX3) (N := 27) hx hb hts inwX3 hown hK hP 0 5 4 rfl rfl rfl (by decide) (hts _ a156) (fun _ h9 => h9) dX3_pattern_66 ?_
              refine lv_aload_n hx hb dX3_pattern_69 rfl (lv_at hl 0 rfl) ?_
              refine gw_geti (C := RX3) (T := TX3) (N := 27) hx hb hts inwX3 hown hK hP 0 3 rfl rfl rfl (by decide) (hts _ a149) (fun _ h9 => h9) dX3_pattern_70 ?_
              refine gw_top (y := (nI N)) (hk.2.trans eN) ?_
              refine lv_iload_n hx hb dX3_pattern_73 rfl (lv_at hl 2 rfl) ?_
              refine gw_ast hx hb hK hP hD hS 4 0 (n := 6) rfl rfl (i := N) (by omega) (by decide) dX3_pattern_74 (fun H locs hP hD hS => ?_)
              obtain ⟨sg18, esg18⟩ : ∃ z : Nat → Nat → Int32, z = gw_u sg17 4 (upd (sg17 4) N x2) := ⟨_, rfl⟩
              rw [← esg18] at hP hD
              have hk : KM sg0 sg18 := by rw [esg18]; exact hk.wa 4 (by decide) (by decide) _
              refine lv_aload_n hx hb dX3_pattern_75 rfl (lv_at hl 0 rfl) ?_
              refine lv_dup hx hb dX3_pattern_76 rfl ?_
              refine gw_geti (C := RX3) (T := TX3) (N := 27) hx hb hts inwX3 hown hK hP 0 3 rfl rfl rfl (by decide) (hts _ a149) (fun _ h9 => h9) dX3_pattern_77 ?_
              refine gw_top (y := (nI N)) (hk.2.trans eN) ?_
              refine lv_iconst (v := (nI 1)) hx hb dX3_pattern_80 (by decide) ?_
              refine lv_iadd hx hb dX3_pattern_81 ?_
              refine gw_top (y := (nI (N + 1))) (nI_add _ _) ?_
              refine gw_put (C := RX3) (T := TX3) (N := 27) (ty := .int) hx hb hts inwX3 tyX3 tyX3_ok nmX3 hown hK hP hD hS 0 3 rfl rfl rfl (by decide) (hts _ a149) (fun _ h9 => h9) rfl (by decide +kernel) rfl rfl dX3_pattern_82 (fun H locs hP hD hS => ?_)
              obtain ⟨sg19, esg19⟩ : ∃ z : Nat → Nat → Int32, z = gw_u sg18 0 (upd (sg18 0) 3 (nI (N + 1))) := ⟨_, rfl⟩
              rw [← esg19] at hP hD
              have hpw : sg19 0 3 = nI (N + 1) := by simp [esg19, gw_u, upd]
              have hk : KM sg19 sg19 := KM.refl (by rw [esg19]; exact hk.wp (by omega))
              refine lv_aload_n hx hb dX3_pattern_85 rfl (lv_at hl 0 rfl) ?_
              refine gc_go0 (va_runV (As := []) (rest := []) ⟨hx, hb, hml, hown, hts⟩ (m_X3_forget l hl9 D cI cJ ad sg19 _  hk.1) (cwV 0 hts (gwV a140 a141 a142 a135 a143) rfl rfl rfl (by decide +kernel) ⟨by decide, by decide⟩) (gc_preV0 hK hP hD hS hA hE rfl rfl rfl) rfl rfl hl.1 rfl (lv_room (Nat.le_of_ble_eq_true rfl)) dX3_pattern_86 ⟨by decide, by decide⟩) hD hS hA (fun v20 sg22 H locs hp23 hP hD hS => ?_)
              obtain ⟨hk1, rfl, hq7⟩ := hp23
              have hq9 := hq7 0 (by decide) (by decide)
              have hk := hk.trans hk1
              refine W.eq (g2 := F0 m 89 ls []) rfl ?_
              refine lv_aload_n hx hb dX3_pattern_89 rfl (lv_at hl 0 rfl) ?_
              refine gw_geti (C := RX3) (T := TX3) (N := 27) hx hb hts inwX3 hown hK hP 0 3 rfl rfl rfl (by decide) (hts _ a149) (fun _ h9 => h9) dX3_pattern_90 ?_
              refine gw_top (y := (nI (N + 1))) (hk.2.trans hpw) ?_
              refine lv_iconst (v := (nI 1)) hx hb dX3_pattern_93 (by decide) ?_
              refine lv_isub hx hb dX3_pattern_94 ?_
              refine gw_top (y := (nI N)) (nI_pred N) ?_
              exact hret _ _ _ _ _ _ hP hS dX3_pattern_95 (⟨hk.1, (show _ = (nI 0) from by simp [hq9, esg19, esg18, esg17, esg15, gw_u, upd]).trans hk9.symm, fun _ => ⟨by rw [eN], by rw [hk.2, hpw, eN]; exact (nI_1 N).symm⟩, fun h => absurd (show _ = (nI 0) from by simp [hq9, esg19, esg18, esg17, esg15, gw_u, upd]) h, _, rfl⟩)
            · exact absurd hc16 (by decide)
          · have hn6 : N = 6 := (nI_eq (a := N) (b := 6) (by omega) (by omega)).mp hn6
            refine lv_iconst (v := (nI 3)) hx hb dX3_pattern_38 (by decide) ?_
            refine lv_goto (tgt := 43) hx hb dX3_pattern_39 (by decide) ?_
            refine gw_put (C := RX3) (T := TX3) (N := 27) (ty := .int) hx hb hts inwX3 tyX3 tyX3_ok nmX3 hown hK hP hD hS 0 0 rfl rfl rfl (by decide) (hts _ a130) (fun _ h9 => h9) rfl (by decide +kernel) rfl rfl dX3_pattern_43 (fun H locs hP hD hS => ?_)
            obtain ⟨sg26, esg26⟩ : ∃ z : Nat → Nat → Int32, z = gw_u sg0 0 (upd (sg0 0) 0 (nI 3)) := ⟨_, rfl⟩
            rw [← esg26] at hP hD
            have hk : KM sg0 sg26 := by rw [esg26]; exact hk.wf (by decide) (by decide) (by decide) _
            refine lv_aload_n hx hb dX3_pattern_46 rfl (lv_at hl 0 rfl) ?_
            refine gw_geti (C := RX3) (T := TX3) (N := 27) hx hb hts inwX3 hown hK hP 0 0 rfl rfl rfl (by decide) (hts _ a130) (fun _ h9 => h9) dX3_pattern_47 ?_
            refine gw_top (y := (nI 3)) (by simp [esg26, gw_u, upd]) ?_
            refine lv_if_le (tgt := 55) hx hb dX3_pattern_50 (by decide) (fun hc27 => ?_) (fun hc27 => ?_)
            · exact absurd hc27 (by decide)
            · refine lv_iconst (v := (nI 0)) hx hb dX3_pattern_53 (by decide) ?_
              exact hret _ _ _ _ _ _ hP hS dX3_pattern_54 (⟨hk.1, (show _ = (nI 3) from by simp [esg26, gw_u, upd]).trans (show (nI 3) = kPattern (sg0 0 3) x1 x2 by simp [kPattern, kif, hi1, hi2, eN, hn6]), fun h => absurd ((show _ = (nI 3) from by simp [esg26, gw_u, upd]).symm.trans h) (by decide), fun _ => hk.2, _, rfl⟩)
        · exact absurd hc14 (by decide)
      · refine W.eq (g2 := F0 m 22 ls [.int (nI 0), .ref (ad 0)]) rfl ?_
        refine lv_if_ne (tgt := 29) hx hb dX3_pattern_22 (by decide) (fun hc28 => ?_) (fun hc28 => ?_)
        · exact absurd hc28 (by decide)
        · refine lv_iconst (v := (nI 2)) hx hb dX3_pattern_25 (by decide) ?_
          refine lv_goto (tgt := 43) hx hb dX3_pattern_26 (by decide) ?_
          refine gw_put (C := RX3) (T := TX3) (N := 27) (ty := .int) hx hb hts inwX3 tyX3 tyX3_ok nmX3 hown hK hP hD hS 0 0 rfl rfl rfl (by decide) (hts _ a130) (fun _ h9 => h9) rfl (by decide +kernel) rfl rfl dX3_pattern_43 (fun H locs hP hD hS => ?_)
          obtain ⟨sg29, esg29⟩ : ∃ z : Nat → Nat → Int32, z = gw_u sg0 0 (upd (sg0 0) 0 (nI 2)) := ⟨_, rfl⟩
          rw [← esg29] at hP hD
          have hk : KM sg0 sg29 := by rw [esg29]; exact hk.wf (by decide) (by decide) (by decide) _
          refine lv_aload_n hx hb dX3_pattern_46 rfl (lv_at hl 0 rfl) ?_
          refine gw_geti (C := RX3) (T := TX3) (N := 27) hx hb hts inwX3 hown hK hP 0 0 rfl rfl rfl (by decide) (hts _ a130) (fun _ h9 => h9) dX3_pattern_47 ?_
          refine gw_top (y := (nI 2)) (by simp [esg29, gw_u, upd]) ?_
          refine lv_if_le (tgt := 55) hx hb dX3_pattern_50 (by decide) (fun hc30 => ?_) (fun hc30 => ?_)
          · exact absurd hc30 (by decide)
          · refine lv_iconst (v := (nI 0)) hx hb dX3_pattern_53 (by decide) ?_
            exact hret _ _ _ _ _ _ hP hS dX3_pattern_54 (⟨hk.1, (show _ = (nI 2) from by simp [esg29, gw_u, upd]).trans (show (nI 2) = kPattern (sg0 0 3) x1 x2 by simp [kPattern, kif, hi1, hi2]), fun h => absurd ((show _ = (nI 2) from by simp [esg29, gw_u, upd]).symm.trans h) (by decide), fun _ => hk.2, _, rfl⟩)
    · exact absurd hc7 (by decide)
  · refine W.eq (g2 := F0 m 7 ls [.int (nI 0), .ref (ad 0)]) rfl ?_
    refine lv_if_ne (tgt := 14) hx hb dX3_pattern_7 (by decide) (fun hc31 => ?_) (fun hc31 => ?_)
    · exact absurd hc31 (by decide)
    · refine lv_iconst (v := (nI 1)) hx hb dX3_pattern_10 (by decide) ?_
      refine lv_goto (tgt := 43) hx hb dX3_pattern_11 (by decide) ?_
      refine gw_put (C := RX3) (T := TX3) (N := 27) (ty := .int) hx hb hts inwX3 tyX3 tyX3_ok nmX3 hown hK hP hD hS 0 0 rfl rfl rfl (by decide) (hts _ a130) (fun _ h9 => h9) rfl (by decide +kernel) rfl rfl dX3_pattern_43 (fun H locs hP hD hS => ?_)
      obtain ⟨sg32, esg32⟩ : ∃ z : Nat → Nat → Int32, z = gw_u sg0 0 (upd (sg0 0) 0 (nI 1)) := ⟨_, rfl⟩
      rw [← esg32] at hP hD
      have hk : KM sg0 sg32 := by rw [esg32]; exact hk.wf (by decide) (by decide) (by decide) _
      refine lv_aload_n hx hb dX3_pattern_46 rfl (lv_at hl 0 rfl) ?_
      refine gw_geti (C := RX3) (T := TX3) (N := 27) hx hb hts inwX3 hown hK hP 0 0 rfl rfl rfl (by decide) (hts _ a130) (fun _ h9 => h9) dX3_pattern_47 ?_
      refine gw_top (y := (nI 1)) (by simp [esg32, gw_u, upd]) ?_
      refine lv_if_le (tgt := 55) hx hb dX3_pattern_50 (by decide) (fun hc33 => ?_) (fun hc33 => ?_)
      · exact absurd hc33 (by decide)
      · refine lv_iconst (v := (nI 0)) hx hb dX3_pattern_53 (by decide) ?_
        exact hret _ _ _ _ _ _ hP hS dX3_pattern_54 (⟨hk.1, (show _ = (nI 1) from by simp [esg32, gw_u, upd]).trans (show (nI 1) = kPattern (sg0 0 3) x1 x2 by simp [kPattern, kif, hi1]), fun h => absurd ((show _ = (nI 1) from by simp [esg32, gw_u, upd]).symm.trans h) (by decide), fun _ => hk.2, _, rfl⟩)
end
