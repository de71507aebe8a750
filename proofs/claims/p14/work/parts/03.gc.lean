/-! CONTRACTS OVER A SCHEMA'S WORLD (gw). 'post' speaks of the answer and of the numbers behind the call; 'pt' of the class of what is thrown and of the numbers then. -/
/-- what goes with every contract: the statics that the makers of exceptions read, the texts, the links of nest mates -/
def gc_nk (w : Cond) : Bool := match w with
  | .fieldLinkNest .. => true
  | .methodLinkNest .. => true
  | .castable .. => true
  | .declares .. => true
  | _ => false
theorem gc_nk_warm {w : Cond} {s U : State} (h : gc_nk w = true) (hW : s.WarmedH U.vm) (hz : va_Nw w s) : va_Nw w U := by
  unfold gc_nk at h
  split at h
  · exact va_Nw.warmF hW hz
  · exact va_Nw.warmM hW hz
  · exact va_Nw.warmC hW hz
  · exact va_Nw.warmD hW hz
  · cases h
def gxC : List (String × String) := [("java/lang/IllegalArgumentException", "java/lang/IndexOutOfBoundsException"), ("java/lang/IllegalStateException", "java/lang/IndexOutOfBoundsException"), ("java/lang/IllegalStateException", "java/lang/IllegalArgumentException")]
def gc_ex (txs : List (String × Nat × String)) (nws : List Cond) (A : Nat → Prop) (U : State) (H : Heap) : Prop :=
  vx_Zq "java/lang/Throwable" "UNASSIGNED_STACK" "[Ljava/lang/StackTraceElement;" A U H ∧ vx_Zq "java/lang/Throwable" "SUPPRESSED_SENTINEL" "Ljava/util/List;" A U H ∧ (∀ q ∈ txs, ∃ a : Nat, vk_R q.1 q.2.1 q.2.2 a U) ∧ (∀ w ∈ nws, gc_nk w = true ∧ va_Nw w U) ∧ ∀ q ∈ gxC, va_Nc q.1 q.2 U
theorem gc_ex.next {txs : List (String × Nat × String)} {nws : List Cond} {A B : Nat → Prop} {u U : State} {H H1 : Heap} (h : gc_ex txs nws A u H) (hW : u.WarmedH U.vm) (hk : ∀ a : Nat, a < H.size → ¬ A a → H1[a]? = H[a]?) (hAB : ∀ q, B q → A q) : gc_ex txs nws B U H1 :=
  ⟨((h.1.moved hW.alike).kept hk).narrow hAB, ((h.2.1.moved hW.alike).kept hk).narrow hAB, fun q hq => by
    obtain ⟨a, ha⟩ := h.2.2.1 q hq
    exact ⟨a, ha.warm hW⟩, fun w hw => ⟨(h.2.2.2.1 w hw).1, gc_nk_warm (h.2.2.2.1 w hw).1 hW (h.2.2.2.1 w hw).2⟩, fun q hq => (h.2.2.2.2 q hq).moved hW.alike⟩
theorem gc_ex.nest {txs : List (String × Nat × String)} {nws : List Cond} {A : Nat → Prop} {U : State} {H : Heap} (h : gc_ex txs nws A U H) (args : Array Value) (w : Cond) (hw : w ∈ nws) (ht : w.onTables = true) : w.before args U = true := va_Nw.use ht (h.2.2.2.1 w hw).2
def gc_pre (D : va_G) (cl : List vw_C) (tys : List (ClassId × FieldType)) (cI : ClassId) (cJ : ClassId × ClassId) (txs : List (String × Nat × String)) (nws : List Cond) (ad : Nat → Nat) (S : List gw_K) (sg : Nat → Nat → Int32) (sz : Nat) (U : State) : Prop :=
  U.heap.size = sz ∧ va_P D cl (gw cI cJ ad sg S) U.heap ∧ va_K D cl tys U ∧ va_D (fun _ => True) (gw cI cJ ad sg S) ∧ gc_ex txs nws (va_A (gw cI cJ ad sg S) sz) U U.heap
def gc_end (D : va_G) (cl : List vw_C) (tys : List (ClassId × FieldType)) (cI : ClassId) (cJ : ClassId × ClassId) (ad : Nat → Nat) (S : List gw_K) (sg2 : Nat → Nat → Int32) (t : State) : Prop :=
  va_P D cl (gw cI cJ ad sg2 S) t.heap ∧ va_K D cl tys t
/-- the two ends, as a method over the world (ad, S), begun with sg at size sz, has them -/
abbrev gc_R (D : va_G) (cl : List vw_C) (tys : List (ClassId × FieldType)) (cI : ClassId) (cJ : ClassId × ClassId) (ad : Nat → Nat) (S : List gw_K) (sg : Nat → Nat → Int32) (sz : Nat) (post : Option Value → (Nat → Nat → Int32) → Prop) : State → Option Value → State → Prop := fun st v t =>
  (∃ sg2 : Nat → Nat → Int32, post v sg2 ∧ gc_end D cl tys cI cJ ad S sg2 t) ∧ va_F (va_A (gw cI cJ ad sg S) sz) st t
abbrev gc_X (D : va_G) (cl : List vw_C) (tys : List (ClassId × FieldType)) (cI : ClassId) (cJ : ClassId × ClassId) (ad : Nat → Nat) (S : List gw_K) (sg : Nat → Nat → Int32) (sz : Nat) (pt : String → (Nat → Nat → Int32) → Prop) : String → State → State → Prop := fun E st t =>
  (∃ sg2 : Nat → Nat → Int32, pt E sg2 ∧ gc_end D cl tys cI cJ ad S sg2 t) ∧ va_F (va_A (gw cI cJ ad sg S) sz) st t
/-- a method that returns -/
abbrev gc_M (l : Launch) (y : MethodName) (ws : List Cond) (rm : Room) (D : va_G) (cl : List vw_C) (tys : List (ClassId × FieldType)) (cI : ClassId) (cJ : ClassId × ClassId) (txs : List (String × Nat × String)) (nws : List Cond) (S : List gw_K) (av : List Value) (ad : Nat → Nat) (sg : Nat → Nat → Int32) (sz mc ms : Nat) (post : Option Value → (Nat → Nat → Int32) → Prop) : Prop :=
  Met l y ws rm (va_Pc av (gc_pre D cl tys cI cJ txs nws ad S sg sz)) (fun _ st o t => ∃ v, o = .returned v ∧ gc_R D cl tys cI cJ ad S sg sz post st v t) mc ms (va_A (gw cI cJ ad sg S) sz)
/-- a method that returns or throws -/
abbrev gc_B (l : Launch) (y : MethodName) (ws : List Cond) (rm : Room) (D : va_G) (cl : List vw_C) (tys : List (ClassId × FieldType)) (cI : ClassId) (cJ : ClassId × ClassId) (txs : List (String × Nat × String)) (nws : List Cond) (S : List gw_K) (av : List Value) (ad : Nat → Nat) (sg : Nat → Nat → Int32) (sz mc ms : Nat) (post : Option Value → (Nat → Nat → Int32) → Prop) (pt : String → (Nat → Nat → Int32) → Prop) : Prop :=
  vx_Met l y ws rm (va_Pc av (gc_pre D cl tys cI cJ txs nws ad S sg sz)) (fun _ st o t => ∃ v, o = .returned v ∧ gc_R D cl tys cI cJ ad S sg sz post st v t) (gc_X D cl tys cI cJ ad S sg sz pt) mc ms (va_A (gw cI cJ ad sg S) sz)
/-- what a body is given -/
def gc_In (p : Program) (s : State) (m : MethodId) (meth : Method) (c : Code) (cc : ByteArray) (maxL : Nat) (ret : Option FieldType) (av : List Value) (ws : List Cond) (y : MethodName) (D : va_G) (cl : List vw_C) (tys : List (ClassId × FieldType)) (w : va_W) (A : Nat → Prop) (ls : Array Slot) : Prop :=
  CallFix p m c cc maxL s av.toArray ws y.cls ∧ meth.sig.returnType = ret ∧ meth.locks = false ∧ meth.name = y.name ∧ (∀ q : Nat, s.heap.size ≤ q → A q) ∧ va_P D cl w s.heap ∧ va_K D cl tys s ∧ va_D A w ∧ va_S A s.heap s.heap [] ∧ lv_has ls maxL (lv_args 0 av)
section GCA
variable {l : Launch} {y : MethodName} {ws ws' : List Cond} {rm : Room} {D : va_G} {cl : List vw_C} {tys : List (ClassId × FieldType)} {cI : ClassId} {cJ : ClassId × ClassId} {S : List gw_K} {txs : List (String × Nat × String)} {nws : List Cond} {av : List Value} {ad : Nat → Nat} {sg : Nat → Nat → Int32} {sz mc ms : Nat} {post : Option Value → (Nat → Nat → Int32) → Prop} {pt : String → (Nat → Nat → Int32) → Prop} {cc : ByteArray} {maxL : Nat} {ret : Option FieldType}
theorem gc_blind : FrameBlind (va_Pc av (gc_pre D cl tys cI cJ txs nws ad S sg sz)) := fun a U g mk q => by
  obtain ⟨q0, q1, qP, qK, qD, qE⟩ := q
  exact ⟨q0, q1, qP, va_K.moved (u := U) (U := U.calling g mk a) (Vm.Alike.refl U.vm) qK, qD, qE.next (U := U.calling g mk a) (State.WarmedH.refl U) (fun _ _ _ => rfl) (fun _ h => h)⟩
theorem gc_M_of (hy : plainName y.cls = true) (hw : ws = Cond.code y cc maxL ret :: ws') (hn : (lg_sl av).length ≤ maxL)
    (body : ∀ p e s m below meth c A ls, gc_In p s m meth c cc maxL ret av ws y D cl tys (gw cI cJ ad sg S) A ls → gc_ex txs nws A s s.heap → A = va_A (gw cI cJ ad sg S) sz → s.heap.size = sz →
      W p l e rm s m av.toArray below meth c s.heap [] 0 0 (MQ below (fun _ st o t => ∃ v, o = .returned v ∧ gc_R D cl tys cI cJ ad S sg sz post st v t) av.toArray s mc ms (va_A (gw cI cJ ad sg S) sz)) (F0 m 0 ls [])) :
    gc_M l y ws rm D cl tys cI cJ txs nws S av ad sg sz mc ms post := by
  refine Met.ofW (cc := cc) (maxL := maxL) (ret := ret) hy hw ?_
  intro p e s m args below meth c s₁ B hml hv
  obtain ⟨rfl, hsz, hP, hK, hD0, hE⟩ := hv
  have hts := atoms_spec (ws := ws) B.pre
  have hl := lv_entry av (n := maxL) hn
  rw [lg_entry_eq]
  refine body p e s m below meth c (va_A (gw cI cJ ad sg S) sz) _ ⟨⟨B.exec, B.bytes, hml, findClass_of_methodNamed B.named, hts⟩, B.returns, B.notSynchronized, (name_of_methodNamed B.named B.method).1, ?_, hP, hK, hD0.self, va_S.rf, hl⟩ hE rfl hsz
  intro q h
  exact Or.inr (by rw [← hsz]; exact h)
theorem gc_B_of (hy : plainName y.cls = true) (hw : ws = Cond.code y cc maxL ret :: ws') (hn : (lg_sl av).length ≤ maxL)
    (body : ∀ p e s m below meth c A ls, gc_In p s m meth c cc maxL ret av ws y D cl tys (gw cI cJ ad sg S) A ls → (∀ x ∈ c.exceptionTable.toList, False) → gc_ex txs nws A s s.heap → A = va_A (gw cI cJ ad sg S) sz → s.heap.size = sz →
      W p l e rm s m av.toArray below meth c s.heap [] 0 0 (vx_MQ below (fun _ st o t => ∃ v, o = .returned v ∧ gc_R D cl tys cI cJ ad S sg sz post st v t) (gc_X D cl tys cI cJ ad S sg sz pt) av.toArray s mc ms (va_A (gw cI cJ ad sg S) sz)) (F0 m 0 ls [])) :
    gc_B l y ws rm D cl tys cI cJ txs nws S av ad sg sz mc ms post pt := by
  refine vx_ofW (cc := cc) (maxL := maxL) (ret := ret) hy hw ?_
  intro p e s m args below meth c s₁ B hml hnh hv
  obtain ⟨rfl, hsz, hP, hK, hD0, hE⟩ := hv
  have hts := atoms_spec (ws := ws) B.pre
  have hl := lv_entry av (n := maxL) hn
  rw [lg_entry_eq]
  refine body p e s m below meth c (va_A (gw cI cJ ad sg S) sz) _ ⟨⟨B.exec, B.bytes, hml, findClass_of_methodNamed B.named, hts⟩, B.returns, B.notSynchronized, (name_of_methodNamed B.named B.method).1, ?_, hP, hK, hD0.self, va_S.rf, hl⟩ hnh hE rfl hsz
  intro q h
  exact Or.inr (by rw [← hsz]; exact h)
/-- a method with a table of handlers, that returns -/
theorem gc_W_of {hh : List (Nat × Nat × Nat × Nat)} (hy : plainName y.cls = true) (hw : ws = Cond.codeWith y cc maxL ret hh :: ws') (hn : (lg_sl av).length ≤ maxL)
    (body : ∀ p e s m below meth c A ls, gc_In p s m meth c cc maxL ret av ws y D cl tys (gw cI cJ ad sg S) A ls → c.exceptionTable.toList = tableOf hh → gc_ex txs nws A s s.heap → A = va_A (gw cI cJ ad sg S) sz → s.heap.size = sz →
      W p l e rm s m av.toArray below meth c s.heap [] 0 0 (MQ below (fun _ st o t => ∃ v, o = .returned v ∧ gc_R D cl tys cI cJ ad S sg sz post st v t) av.toArray s mc ms (va_A (gw cI cJ ad sg S) sz)) (F0 m 0 ls [])) :
    gc_M l y ws rm D cl tys cI cJ txs nws S av ad sg sz mc ms post := by
  refine va_MetW (cc := cc) (maxL := maxL) (ret := ret) (hh := hh) hy hw ?_
  intro p e s m args below meth c s₁ B hml hv
  obtain ⟨rfl, hsz, hP, hK, hD0, hE⟩ := hv
  have hts := atoms_spec (ws := ws) B.pre
  have htab := vx_table (x := y) B (hts _ (by rw [hw]; exact List.mem_cons_self))
  have hl := lv_entry av (n := maxL) hn
  rw [lg_entry_eq]
  refine body p e s m below meth c (va_A (gw cI cJ ad sg S) sz) _ ⟨⟨B.exec, B.bytes, hml, findClass_of_methodNamed B.named, hts⟩, B.returns, B.notSynchronized, (name_of_methodNamed B.named B.method).1, ?_, hP, hK, hD0.self, va_S.rf, hl⟩ htab hE rfl hsz
  intro q h
  exact Or.inr (by rw [← hsz]; exact h)
end GCA
section GCB
variable {p : Program} {l : Launch} {e : Env} {R : Room} {s : State} {m : MethodId} {args : Array Value} {below : List Frame} {meth : Method} {c : Code} {H : Heap} {locs : List Loc} {cells slots : Nat} {Q : State → Prop}
variable {cc : ByteArray} {pc : Nat} {ls : Array Slot} {rest st0 : List Value} {D : va_G} {cl : List vw_C} {A : Nat → Prop} {tys : List (ClassId × FieldType)} {cI : ClassId} {cJ : ClassId × ClassId} {ad : Nat → Nat} {sg : Nat → Nat → Int32} {S S2 : List gw_K} {pl : List Nat} {sz mc ms : Nat} {post : Option Value → (Nat → Nat → Int32) → Prop} {pt : String → (Nat → Nat → Int32) → Prop} {txs : List (String × Nat × String)} {nws : List Cond} {As : List Value} {C : String}
theorem gc_free0 (hD : va_D A (gw cI cJ ad sg S)) (hS : va_S A s.heap H locs) (hA : ∀ q : Nat, s.heap.size ≤ q → A q) : ∀ q, va_A (gw cI cJ ad sg S) H.size q → A q := by
  intro q h
  rcases h with ⟨k, e, h⟩ | h
  · exact hD.2 k (q, e) h
  · exact hA q (Nat.le_trans hS.1 h)
/-- the callee's start at the call: static (and constructors), virtual -/
theorem gc_preS (hK : va_K D cl tys s) (hP : va_P D cl (gw cI cJ ad sg S) H) (hD : va_D A (gw cI cJ ad sg S)) (hS : va_S A s.heap H locs) (hA : ∀ q : Nat, s.heap.size ≤ q → A q) (hE : gc_ex txs nws A s s.heap) (hin : gw_in pl S S2 = true) :
    PreS s H (va_Pc As (gc_pre D cl tys cI cJ txs nws (fun j => ad (gw_p pl j)) S2 (fun j => sg (gw_p pl j)) H.size)) As := by
  have hnd : va_nd pl = true := by
    simp only [gw_in, Bool.and_eq_true] at hin
    exact hin.1.2
  have hF := va_free (wc := gw cI cJ (fun j => ad (gw_p pl j)) (fun j => sg (gw_p pl j)) S2) hD hS hA pl (gw_pick hin)
  refine ⟨gc_blind, fun U hU hW => ⟨rfl, by rw [hU], by rw [hU]; exact gw_sub hin hP, va_K.moved hW.alike hK, (hD.sub pl hnd (gw_pick hin)).weaken (fun _ _ _ _ => trivial), hE.next hW (fun a h1 h2 => ?_) hF⟩⟩
  rw [hU]
  exact hS.2.1 a h1 h2
theorem gc_preV (hK : va_K D cl tys s) (hP : va_P D cl (gw cI cJ ad sg S) H) (hD : va_D A (gw cI cJ ad sg S)) (hS : va_S A s.heap H locs) (hA : ∀ q : Nat, s.heap.size ≤ q → A q) (hE : gc_ex txs nws A s s.heap) (hin : gw_in pl S S2 = true) {q0 ci : Nat} {q : vw_C} {fs : List (Option Nat)} (hc : cl[ci]? = some q) (hq : q.1 = C) (he : S[q0]? = some (.inl (ci, fs))) :
    PreV s H C (ad q0) (va_Pc (.ref (ad q0) :: As) (gc_pre D cl tys cI cJ txs nws (fun j => ad (gw_p pl j)) S2 (fun j => sg (gw_p pl j)) H.size)) As := by
  subst hq
  have h := gc_preS (As := .ref (ad q0) :: As) hK hP hD hS hA hE hin
  exact ⟨h.1, va_recv (fs := gw_f ad (sg q0) 0 fs) hK hP hc (gw_at he), h.2⟩
/-- behind a call that returns -/
theorem gc_go (hr : va_Run p l e R s m args below meth c H locs cells slots mc ms (F0 m pc ls st0) rest (fun st o t => ∃ v, o = .returned v ∧ gc_R D cl tys cI cJ (fun j => ad (gw_p pl j)) S2 (fun j => sg (gw_p pl j)) H.size post st v t) (va_A (gw cI cJ (fun j => ad (gw_p pl j)) (fun j => sg (gw_p pl j)) S2) H.size))
    (hP : va_P D cl (gw cI cJ ad sg S) H) (hD : va_D A (gw cI cJ ad sg S)) (hS : va_S A s.heap H locs) (hA : ∀ q : Nat, s.heap.size ≤ q → A q) (hin : gw_in pl S S2 = true)
    (kk : ∀ (v : Option Value) (sg1 sg2 : Nat → Nat → Int32) (H1 : Heap) (locs1 : List Loc), post v sg1 → (∀ j, j < S2.length → sg2 (gw_p pl j) = sg1 j) → (∀ k, k ∉ pl → sg2 k = sg k) → va_P D cl (gw cI cJ ad sg2 S) H1 → va_D A (gw cI cJ ad sg2 S) → va_S A s.heap H1 locs1 →
      W p l e R s m args below meth c H1 locs1 (cells + mc) (slots + ms) Q (F0 m (pc + 3) ls (v.toList ++ rest))) : W p l e R s m args below meth c H locs cells slots Q (F0 m pc ls st0) := by
  have hF := va_free (wc := gw cI cJ (fun j => ad (gw_p pl j)) (fun j => sg (gw_p pl j)) S2) hD hS hA pl (gw_pick hin)
  intro T hT X
  obtain ⟨v, st₀, t, T', L, h0, X', hL, e1, e2, ⟨v2, hv, ⟨sg1, hp, hP1, -⟩, hz, hk⟩, st⟩ := hr T hT X
  cases hv
  rw [h0] at hz hk
  rw [← e1] at hz hk hP1
  obtain ⟨sg2, g1, g2, g3, g4⟩ := gw_back hin hP hD hk hP1
  obtain ⟨t2, a1, b1⟩ := kk v sg1 sg2 T'.heap (locs ++ L) hp g1 g2 g3 g4
    ⟨Nat.le_trans hS.1 hz, fun q h1 h2 => by rw [hk q (Nat.lt_of_lt_of_le h1 hS.1) (fun z => h2 (hF q z))]; exact hS.2.1 q h1 h2, fun q hq => by
      rcases List.mem_append.mp hq with h | h
      · exact hS.2.2 q h
      · exact hF _ (hL q h)⟩ T' rfl X'
  exact ⟨t2, st t2 a1, b1⟩
/-- behind a call that returns or throws -/
theorem gc_goB (hr : vx_Run p l e R s m args below meth c H locs cells slots mc ms (F0 m pc ls st0) rest (fun st o t => ∃ v, o = .returned v ∧ gc_R D cl tys cI cJ (fun j => ad (gw_p pl j)) S2 (fun j => sg (gw_p pl j)) H.size post st v t)
      (gc_X D cl tys cI cJ (fun j => ad (gw_p pl j)) S2 (fun j => sg (gw_p pl j)) H.size pt) (va_A (gw cI cJ (fun j => ad (gw_p pl j)) (fun j => sg (gw_p pl j)) S2) H.size))
    (hP : va_P D cl (gw cI cJ ad sg S) H) (hD : va_D A (gw cI cJ ad sg S)) (hS : va_S A s.heap H locs) (hA : ∀ q : Nat, s.heap.size ≤ q → A q) (hin : gw_in pl S S2 = true)
    (kr : ∀ (v : Option Value) (sg1 sg2 : Nat → Nat → Int32) (H1 : Heap) (locs1 : List Loc), post v sg1 → (∀ j, j < S2.length → sg2 (gw_p pl j) = sg1 j) → (∀ k, k ∉ pl → sg2 k = sg k) → va_P D cl (gw cI cJ ad sg2 S) H1 → va_D A (gw cI cJ ad sg2 S) → va_S A s.heap H1 locs1 →
      W p l e R s m args below meth c H1 locs1 (cells + mc) (slots + ms) Q (F0 m (pc + 3) ls (v.toList ++ rest)))
    (kt : ∀ (E : String) (x : Addr) (ce : Cell) (sg1 sg2 : Nat → Nat → Int32) (H1 : Heap) (locs1 : List Loc), pt E sg1 → H1[x]? = some ce → ce.vm = .none → s.vm.findClass E = some ce.cls → (∀ j, j < S2.length → sg2 (gw_p pl j) = sg1 j) → (∀ k, k ∉ pl → sg2 k = sg k) → va_P D cl (gw cI cJ ad sg2 S) H1 → va_D A (gw cI cJ ad sg2 S) → va_S A s.heap H1 locs1 →
      vx_W p l e R s m args below meth c H1 locs1 (cells + mc) (slots + ms) Q (F0 m pc ls rest) x) : W p l e R s m args below meth c H locs cells slots Q (F0 m pc ls st0) := by
  have hF := va_free (wc := gw cI cJ (fun j => ad (gw_p pl j)) (fun j => sg (gw_p pl j)) S2) hD hS hA pl (gw_pick hin)
  intro T hT X
  rcases hr T hT X with ⟨v, st₀, t, T', L, h0, X', hL, e1, e2, ⟨v2, hv, ⟨sg1, hp, hP1, -⟩, hz, hk⟩, st⟩ | ⟨q, st₀, t, T', L, E, ce, h0, X', hL, e1, e2, ⟨⟨sg1, hp, hP1, -⟩, hz, hk⟩, hce, hcv, hcl, st⟩
  · cases hv
    rw [h0] at hz hk
    rw [← e1] at hz hk hP1
    obtain ⟨sg2, g1, g2, g3, g4⟩ := gw_back hin hP hD hk hP1
    obtain ⟨t2, a1, b1⟩ := kr v sg1 sg2 T'.heap (locs ++ L) hp g1 g2 g3 g4
      ⟨Nat.le_trans hS.1 hz, fun q h1 h2 => by rw [hk q (Nat.lt_of_lt_of_le h1 hS.1) (fun z => h2 (hF q z))]; exact hS.2.1 q h1 h2, fun q hq => by
        rcases List.mem_append.mp hq with h | h
        · exact hS.2.2 q h
        · exact hF _ (hL q h)⟩ T' rfl X'
    exact ⟨t2, st t2 a1, b1⟩
  · rw [h0] at hz hk
    rw [← e1] at hz hk hP1 hce
    obtain ⟨sg2, g1, g2, g3, g4⟩ := gw_back hin hP hD hk hP1
    obtain ⟨t2, a1, b1⟩ := kt E q ce sg1 sg2 T'.heap (locs ++ L) hp hce hcv hcl g1 g2 g3 g4
      ⟨Nat.le_trans hS.1 hz, fun q h1 h2 => by rw [hk q (Nat.lt_of_lt_of_le h1 hS.1) (fun z => h2 (hF q z))]; exact hS.2.1 q h1 h2, fun q hq => by
        rcases List.mem_append.mp hq with h | h
        · exact hS.2.2 q h
        · exact hF _ (hL q h)⟩ T' rfl X'
    exact ⟨t2, st.trans a1, b1⟩
/-- the same where the callee's world is the caller's -/
theorem gc_preS0 (hK : va_K D cl tys s) (hP : va_P D cl (gw cI cJ ad sg S) H) (hD : va_D A (gw cI cJ ad sg S)) (hS : va_S A s.heap H locs) (hA : ∀ q : Nat, s.heap.size ≤ q → A q) (hE : gc_ex txs nws A s s.heap) :
    PreS s H (va_Pc As (gc_pre D cl tys cI cJ txs nws ad S sg H.size)) As := by
  refine ⟨gc_blind, fun U hU hW => ⟨rfl, by rw [hU], by rw [hU]; exact hP, va_K.moved hW.alike hK, hD.weaken (fun _ _ _ _ => trivial), hE.next hW (fun a h1 h2 => ?_) (gc_free0 hD hS hA)⟩⟩
  rw [hU]
  exact hS.2.1 a h1 h2
theorem gc_preV0 (hK : va_K D cl tys s) (hP : va_P D cl (gw cI cJ ad sg S) H) (hD : va_D A (gw cI cJ ad sg S)) (hS : va_S A s.heap H locs) (hA : ∀ q : Nat, s.heap.size ≤ q → A q) (hE : gc_ex txs nws A s s.heap) {q0 ci : Nat} {q : vw_C} {fs : List (Option Nat)} (hc : cl[ci]? = some q) (hq : q.1 = C) (he : S[q0]? = some (.inl (ci, fs))) :
    PreV s H C (ad q0) (va_Pc (.ref (ad q0) :: As) (gc_pre D cl tys cI cJ txs nws ad S sg H.size)) As := by
  subst hq
  have h := gc_preS0 (As := .ref (ad q0) :: As) hK hP hD hS hA hE
  exact ⟨h.1, va_recv (fs := gw_f ad (sg q0) 0 fs) hK hP hc (gw_at he), h.2⟩
theorem gc_go0 (hr : va_Run p l e R s m args below meth c H locs cells slots mc ms (F0 m pc ls st0) rest (fun st o t => ∃ v, o = .returned v ∧ gc_R D cl tys cI cJ ad S sg H.size post st v t) (va_A (gw cI cJ ad sg S) H.size))
    (hD : va_D A (gw cI cJ ad sg S)) (hS : va_S A s.heap H locs) (hA : ∀ q : Nat, s.heap.size ≤ q → A q)
    (kk : ∀ (v : Option Value) (sg1 : Nat → Nat → Int32) (H1 : Heap) (locs1 : List Loc), post v sg1 → va_P D cl (gw cI cJ ad sg1 S) H1 → va_D A (gw cI cJ ad sg1 S) → va_S A s.heap H1 locs1 →
      W p l e R s m args below meth c H1 locs1 (cells + mc) (slots + ms) Q (F0 m (pc + 3) ls (v.toList ++ rest))) : W p l e R s m args below meth c H locs cells slots Q (F0 m pc ls st0) := by
  have hF := gc_free0 hD hS hA
  intro T hT X
  obtain ⟨v, st₀, t, T', L, h0, X', hL, e1, e2, ⟨v2, hv, ⟨sg1, hp, hP1, -⟩, hz, hk⟩, st⟩ := hr T hT X
  cases hv
  rw [h0] at hz hk
  rw [← e1] at hz hk hP1
  obtain ⟨t2, a1, b1⟩ := kk v sg1 T'.heap (locs ++ L) hp hP1 (gw_D _ hD)
    ⟨Nat.le_trans hS.1 hz, fun q h1 h2 => by rw [hk q (Nat.lt_of_lt_of_le h1 hS.1) (fun z => h2 (hF q z))]; exact hS.2.1 q h1 h2, fun q hq => by
      rcases List.mem_append.mp hq with h | h
      · exact hS.2.2 q h
      · exact hF _ (hL q h)⟩ T' rfl X'
  exact ⟨t2, st t2 a1, b1⟩
/-- another name for the number on top -/
theorem gw_top {x y : Int32} (h : x = y) (k : W p l e R s m args below meth c H locs cells slots Q (F0 m pc ls (.int y :: rest))) : W p l e R s m args below meth c H locs cells slots Q (F0 m pc ls (.int x :: rest)) := by
  rw [h]; exact k
/-- ends of a method that returns: without an answer, an int, a boolean (of one that may throw: bo_ret ahead) -/
theorem gc_vret {sg0 : Nat → Nat → Int32} (hx : p.tables.exec = Jvm.exec) (hb : c.code = cc) (hr : meth.sig.returnType = none) (hlocks : meth.locks = false) (hP : va_P D cl (gw cI cJ ad sg S) H) (hK : va_K D cl tys s) (hS : va_S A s.heap H locs) (hA : A = va_A (gw cI cJ ad sg0 S) sz) (hp : post none sg) (hdg : decode cc pc = .ok (.return_, 1)) :
    W p l e R s m args below meth c H locs cells slots (MQ below (fun _ st o t => ∃ v, o = .returned v ∧ gc_R D cl tys cI cJ ad S sg0 sz post st v t) args s cells slots (va_A (gw cI cJ ad sg0 S) sz)) (F0 m pc ls []) := by
  subst hA
  exact W.vret hx hb hr (fun t ht hW => ⟨none, rfl, ⟨sg, hp, by rw [ht]; exact hP, va_K.moved hW.alike hK⟩, hS.F ht⟩) hS.2.2 hdg hlocks
theorem gc_iret {sg0 : Nat → Nat → Int32} (hx : p.tables.exec = Jvm.exec) (hb : c.code = cc) (hr : meth.sig.returnType = some .int) (hlocks : meth.locks = false) (hP : va_P D cl (gw cI cJ ad sg S) H) (hK : va_K D cl tys s) (hS : va_S A s.heap H locs) (hA : A = va_A (gw cI cJ ad sg0 S) sz) {r : Int32} (hp : post (some (.int r)) sg) (hdg : decode cc pc = .ok (.ireturn, 1)) :
    W p l e R s m args below meth c H locs cells slots (MQ below (fun _ st o t => ∃ v, o = .returned v ∧ gc_R D cl tys cI cJ ad S sg0 sz post st v t) args s cells slots (va_A (gw cI cJ ad sg0 S) sz)) (F0 m pc ls [.int r]) := by
  subst hA
  exact W.iret hx hb hr (fun t ht hW => ⟨some (.int r), rfl, ⟨sg, hp, by rw [ht]; exact hP, va_K.moved hW.alike hK⟩, hS.F ht⟩) hS.2.2 hdg hlocks
theorem gc_zret {sg0 : Nat → Nat → Int32} (hx : p.tables.exec = Jvm.exec) (hb : c.code = cc) (hr : meth.sig.returnType = some .boolean) (hlocks : meth.locks = false) (hP : va_P D cl (gw cI cJ ad sg S) H) (hK : va_K D cl tys s) (hS : va_S A s.heap H locs) (hA : A = va_A (gw cI cJ ad sg0 S) sz) {r : Int32} (hn : narrow .boolean (.int r) = .int r) (hp : post (some (.int r)) sg) (hdg : decode cc pc = .ok (.ireturn, 1)) :
    W p l e R s m args below meth c H locs cells slots (MQ below (fun _ st o t => ∃ v, o = .returned v ∧ gc_R D cl tys cI cJ ad S sg0 sz post st v t) args s cells slots (va_A (gw cI cJ ad sg0 S) sz)) (F0 m pc ls [.int r]) := by
  subst hA
  exact W.zret hx hb hr hn (fun t ht hW => ⟨some (.int r), rfl, ⟨sg, hp, by rw [ht]; exact hP, va_K.moved hW.alike hK⟩, hS.F ht⟩) hS.2.2 hdg hlocks
end GCB
/-! bodies, with their ends as hypotheses (Q is any goal) -/
section GCC
variable {l : Launch} {y : MethodName} {ws ws' : List Cond} {rm : Room} {D : va_G} {cl : List vw_C} {tys : List (ClassId × FieldType)} {cI : ClassId} {cJ : ClassId × ClassId} {S : List gw_K} {txs : List (String × Nat × String)} {nws : List Cond} {av : List Value} {ad : Nat → Nat} {sg : Nat → Nat → Int32} {sz mc ms : Nat} {post : Option Value → (Nat → Nat → Int32) → Prop} {pt : String → (Nat → Nat → Int32) → Prop} {cc : ByteArray} {maxL : Nat}
/-- a return: without an answer, with an int, with a boolean -/
def gc_kv (p : Program) (l : Launch) (e : Env) (R : Room) (s : State) (m : MethodId) (args : Array Value) (below : List Frame) (meth : Method) (c : Code) (D : va_G) (cl : List vw_C) (cI : ClassId) (cJ : ClassId × ClassId) (ad : Nat → Nat) (S : List gw_K) (A : Nat → Prop) (cc : ByteArray) (mc ms : Nat) (post : Option Value → (Nat → Nat → Int32) → Prop) (Q : State → Prop) : Prop :=
  ∀ (sg : Nat → Nat → Int32) (H : Heap) (locs : List Loc) (pc : Nat) (ls : Array Slot), va_P D cl (gw cI cJ ad sg S) H → va_S A s.heap H locs → decode cc pc = .ok (.return_, 1) → post none sg → W p l e R s m args below meth c H locs mc ms Q (F0 m pc ls [])
def gc_ki (p : Program) (l : Launch) (e : Env) (R : Room) (s : State) (m : MethodId) (args : Array Value) (below : List Frame) (meth : Method) (c : Code) (D : va_G) (cl : List vw_C) (cI : ClassId) (cJ : ClassId × ClassId) (ad : Nat → Nat) (S : List gw_K) (A : Nat → Prop) (cc : ByteArray) (mc ms : Nat) (post : Option Value → (Nat → Nat → Int32) → Prop) (Q : State → Prop) : Prop :=
  ∀ (sg : Nat → Nat → Int32) (H : Heap) (locs : List Loc) (pc : Nat) (ls : Array Slot) (r : Int32), va_P D cl (gw cI cJ ad sg S) H → va_S A s.heap H locs → decode cc pc = .ok (.ireturn, 1) → post (some (.int r)) sg → W p l e R s m args below meth c H locs mc ms Q (F0 m pc ls [.int r])
def gc_kz (p : Program) (l : Launch) (e : Env) (R : Room) (s : State) (m : MethodId) (args : Array Value) (below : List Frame) (meth : Method) (c : Code) (D : va_G) (cl : List vw_C) (cI : ClassId) (cJ : ClassId × ClassId) (ad : Nat → Nat) (S : List gw_K) (A : Nat → Prop) (cc : ByteArray) (mc ms : Nat) (post : Option Value → (Nat → Nat → Int32) → Prop) (Q : State → Prop) : Prop :=
  ∀ (sg : Nat → Nat → Int32) (H : Heap) (locs : List Loc) (pc : Nat) (ls : Array Slot) (r : Int32), va_P D cl (gw cI cJ ad sg S) H → va_S A s.heap H locs → decode cc pc = .ok (.ireturn, 1) → narrow .boolean (.int r) = .int r → post (some (.int r)) sg → W p l e R s m args below meth c H locs mc ms Q (F0 m pc ls [.int r])
/-- a throw that goes out -/
def gc_kt (p : Program) (l : Launch) (e : Env) (R : Room) (s : State) (m : MethodId) (args : Array Value) (below : List Frame) (meth : Method) (c : Code) (D : va_G) (cl : List vw_C) (cI : ClassId) (cJ : ClassId × ClassId) (ad : Nat → Nat) (S : List gw_K) (A : Nat → Prop) (mc ms : Nat) (pt : String → (Nat → Nat → Int32) → Prop) (Q : State → Prop) : Prop :=
  ∀ (E : String) (x : Addr) (ce : Cell) (sg : Nat → Nat → Int32) (H : Heap) (locs : List Loc) (cells slots : Nat) (pc : Nat) (ls : Array Slot) (st : List Value), pt E sg → H[x]? = some ce → ce.vm = .none → s.vm.findClass E = some ce.cls → va_P D cl (gw cI cJ ad sg S) H → va_S A s.heap H locs → cells ≤ mc → slots ≤ ms → vx_W p l e R s m args below meth c H locs cells slots Q (F0 m pc ls st) x
theorem gc_Mv_of (hy : plainName y.cls = true) (hw : ws = Cond.code y cc maxL none :: ws') (hn : (lg_sl av).length ≤ maxL)
    (body : ∀ p e s m below meth c A ls Q, gc_In p s m meth c cc maxL none av ws y D cl tys (gw cI cJ ad sg S) A ls → gc_ex txs nws A s s.heap → gc_kv p l e rm s m av.toArray below meth c D cl cI cJ ad S A cc mc ms post Q → W p l e rm s m av.toArray below meth c s.heap [] 0 0 Q (F0 m 0 ls [])) :
    gc_M l y ws rm D cl tys cI cJ txs nws S av ad sg sz mc ms post :=
  gc_M_of hy hw hn (fun p e s m below meth c A ls h hE hA _ => body p e s m below meth c A ls _ h hE
    (fun sg2 H locs pc ls hP hS hdg hp => gc_vret h.1.1 h.1.2.1 h.2.1 h.2.2.1 hP h.2.2.2.2.2.2.1 hS hA hp hdg))
theorem gc_Mi_of (hy : plainName y.cls = true) (hw : ws = Cond.code y cc maxL (some .int) :: ws') (hn : (lg_sl av).length ≤ maxL)
    (body : ∀ p e s m below meth c A ls Q, gc_In p s m meth c cc maxL (some .int) av ws y D cl tys (gw cI cJ ad sg S) A ls → gc_ex txs nws A s s.heap → gc_ki p l e rm s m av.toArray below meth c D cl cI cJ ad S A cc mc ms post Q → W p l e rm s m av.toArray below meth c s.heap [] 0 0 Q (F0 m 0 ls [])) :
    gc_M l y ws rm D cl tys cI cJ txs nws S av ad sg sz mc ms post :=
  gc_M_of hy hw hn (fun p e s m below meth c A ls h hE hA _ => body p e s m below meth c A ls _ h hE
    (fun sg2 H locs pc ls r hP hS hdg hp => gc_iret h.1.1 h.1.2.1 h.2.1 h.2.2.1 hP h.2.2.2.2.2.2.1 hS hA hp hdg))
theorem gc_Mz_of (hy : plainName y.cls = true) (hw : ws = Cond.code y cc maxL (some .boolean) :: ws') (hn : (lg_sl av).length ≤ maxL)
    (body : ∀ p e s m below meth c A ls Q, gc_In p s m meth c cc maxL (some .boolean) av ws y D cl tys (gw cI cJ ad sg S) A ls → gc_ex txs nws A s s.heap → gc_kz p l e rm s m av.toArray below meth c D cl cI cJ ad S A cc mc ms post Q → W p l e rm s m av.toArray below meth c s.heap [] 0 0 Q (F0 m 0 ls [])) :
    gc_M l y ws rm D cl tys cI cJ txs nws S av ad sg sz mc ms post :=
  gc_M_of hy hw hn (fun p e s m below meth c A ls h hE hA _ => body p e s m below meth c A ls _ h hE
    (fun sg2 H locs pc ls r hP hS hdg hnw hp => gc_zret h.1.1 h.1.2.1 h.2.1 h.2.2.1 hP h.2.2.2.2.2.2.1 hS hA hnw hp hdg))
/-- the throw's end of a body -/
theorem gc_kt_of {p : Program} {e : Env} {s : State} {m : MethodId} {args : Array Value} {below : List Frame} {meth : Method} {c : Code} {A : Nat → Prop} {Qc : Array Value → State → Outcome → State → Prop} (hlocks : meth.locks = false) (hnh : ∀ x ∈ c.exceptionTable.toList, False) (hK : va_K D cl tys s) (hA : A = va_A (gw cI cJ ad sg S) sz) :
    gc_kt p l e rm s m args below meth c D cl cI cJ ad S A mc ms pt (vx_MQ below Qc (gc_X D cl tys cI cJ ad S sg sz pt) args s mc ms (va_A (gw cI cJ ad sg S) sz)) := by
  subst hA
  intro E x ce sg2 H locs cells slots pc ls st hp h1 h2 h3 hP hS hc hs
  exact vx_out (E := E) (fun z hz => (hnh z hz).elim) hlocks h1 h2 h3 (fun t ht ha => ⟨⟨sg2, hp, by rw [ht]; exact hP, va_K.moved ha hK⟩, hS.F ht⟩) hS.2.2 hc hs
/-- 'throw new E(text)' in a body's own rows -/
def gc_kx (p : Program) (l : Launch) (e : Env) (R : Room) (s : State) (m : MethodId) (args : Array Value) (below : List Frame) (meth : Method) (c : Code) (D : va_G) (cl : List vw_C) (cI : ClassId) (cJ : ClassId × ClassId) (ad : Nat → Nat) (S : List gw_K) (A : Nat → Prop) (cc : ByteArray) (own : String) (mc ms : Nat) (pt : String → (Nat → Nat → Int32) → Prop) (Q : State → Prop) : Prop :=
  ∀ (E text : String) (names : List String) (ik is ic sa : Nat) (sg : Nat → Nat → Int32) (H : Heap) (locs : List Loc) (cells slots pc : Nat) (ls : Array Slot), l.stackTraces = false → Bundle.fit E = true → (∀ n ∈ names, Bundle.fit n = true) → (Cond.classLink own ik E).before args s = true → (Cond.initialized E).before args s = true → vk_R own is text sa s → (∀ w ∈ vx_atS own ic E names, w.before args s = true) →
    (∀ w ∈ Cond.classLink own ik E :: Cond.initialized E :: vx_atS own ic E names, vx_ot w = true) → ls.size = c.maxLocals → decode cc pc = .ok (.new ik, 3) → decode cc (pc + 3) = .ok (.dup, 1) → decode cc (pc + 4) = .ok (.ldc is, 2) → decode cc (pc + 6) = .ok (.invokespecial ic, 3) → decode cc (pc + 9) = .ok (.athrow, 1) →
    names.length + 3 < R.frames → 13 * (names.length + 1) + 43 ≤ R.locals → cells + 1 ≤ R.cells → slots + 6 ≤ R.slots → cells + 1 ≤ mc → slots + 6 ≤ ms → pt E sg → va_P D cl (gw cI cJ ad sg S) H → va_S A s.heap H locs → W p l e R s m args below meth c H locs cells slots Q (F0 m pc ls [])
theorem gc_kx_of {p : Program} {e : Env} {s : State} {m : MethodId} {args : Array Value} {below : List Frame} {meth : Method} {c : Code} {A : Nat → Prop} {own : String} {Qc : Array Value → State → Outcome → State → Prop} (hx : p.tables.exec = Jvm.exec) (hb : c.code = cc) (hown : s.vm.findClass own = some m.cls) (hlocks : meth.locks = false) (hnh : ∀ x ∈ c.exceptionTable.toList, False) (hK : va_K D cl tys s) (hA : A = va_A (gw cI cJ ad sg S) sz) (hE : gc_ex txs nws A s s.heap) :
    gc_kx p l e rm s m args below meth c D cl cI cJ ad S A cc own mc ms pt (vx_MQ below Qc (gc_X D cl tys cI cJ ad S sg sz pt) args s mc ms (va_A (gw cI cJ ad sg S) sz)) := by
  subst hA
  intro E text names ik is ic sa sg2 H locs cells slots pc ls hl hf hnm hk hini hstr hat hgood hsz d0 d3 d4 d6 d9 r1 r2 r3 r4 r5 r6 hp hP hS
  refine vx_throwS (names := names) hx hb hl hown hf hnm hk hini hstr hat hgood hE.1 hE.2.1 hS hsz d0 d3 d4 d6 d9 (fun z hz => (hnh z hz).elim) r1 (by simpa using r2) r3 r4 hlocks (fun t ha hz hq => ?_) hS.2.2 r5 r6
  refine ⟨⟨sg2, hp, fun k x hx => (hP k x hx).kept (hq _ (hP k x hx).lt), va_K.moved ha hK⟩, Nat.le_trans hS.1 hz, fun q h1 h2 => ?_⟩
  rw [hq q (Nat.lt_of_lt_of_le h1 hS.1)]
  exact hS.2.1 q h1 h2
theorem gc_Bv_of (hy : plainName y.cls = true) (hw : ws = Cond.code y cc maxL none :: ws') (hn : (lg_sl av).length ≤ maxL)
    (body : ∀ p e s m below meth c A ls Q, gc_In p s m meth c cc maxL none av ws y D cl tys (gw cI cJ ad sg S) A ls → gc_ex txs nws A s s.heap → gc_kv p l e rm s m av.toArray below meth c D cl cI cJ ad S A cc mc ms post Q → gc_kt p l e rm s m av.toArray below meth c D cl cI cJ ad S A mc ms pt Q → gc_kx p l e rm s m av.toArray below meth c D cl cI cJ ad S A cc y.cls mc ms pt Q → W p l e rm s m av.toArray below meth c s.heap [] 0 0 Q (F0 m 0 ls [])) :
    gc_B l y ws rm D cl tys cI cJ txs nws S av ad sg sz mc ms post pt :=
  gc_B_of hy hw hn (fun p e s m below meth c A ls h hnh hE hA _ => body p e s m below meth c A ls _ h hE
    (fun sg2 H locs pc ls hP hS hdg hp => vx_ret (gc_vret h.1.1 h.1.2.1 h.2.1 h.2.2.1 hP h.2.2.2.2.2.2.1 hS hA hp hdg))
    (gc_kt_of h.2.2.1 hnh h.2.2.2.2.2.2.1 hA) (gc_kx_of h.1.1 h.1.2.1 h.1.2.2.2.1 h.2.2.1 hnh h.2.2.2.2.2.2.1 hA hE))
theorem gc_Bi_of (hy : plainName y.cls = true) (hw : ws = Cond.code y cc maxL (some .int) :: ws') (hn : (lg_sl av).length ≤ maxL)
    (body : ∀ p e s m below meth c A ls Q, gc_In p s m meth c cc maxL (some .int) av ws y D cl tys (gw cI cJ ad sg S) A ls → gc_ex txs nws A s s.heap → gc_ki p l e rm s m av.toArray below meth c D cl cI cJ ad S A cc mc ms post Q → gc_kt p l e rm s m av.toArray below meth c D cl cI cJ ad S A mc ms pt Q → gc_kx p l e rm s m av.toArray below meth c D cl cI cJ ad S A cc y.cls mc ms pt Q → W p l e rm s m av.toArray below meth c s.heap [] 0 0 Q (F0 m 0 ls [])) :
    gc_B l y ws rm D cl tys cI cJ txs nws S av ad sg sz mc ms post pt :=
  gc_B_of hy hw hn (fun p e s m below meth c A ls h hnh hE hA _ => body p e s m below meth c A ls _ h hE
    (fun sg2 H locs pc ls r hP hS hdg hp => vx_ret (gc_iret h.1.1 h.1.2.1 h.2.1 h.2.2.1 hP h.2.2.2.2.2.2.1 hS hA hp hdg))
    (gc_kt_of h.2.2.1 hnh h.2.2.2.2.2.2.1 hA) (gc_kx_of h.1.1 h.1.2.1 h.1.2.2.2.1 h.2.2.1 hnh h.2.2.2.2.2.2.1 hA hE))
theorem gc_Wi_of {hh : List (Nat × Nat × Nat × Nat)} (hy : plainName y.cls = true) (hw : ws = Cond.codeWith y cc maxL (some .int) hh :: ws') (hn : (lg_sl av).length ≤ maxL)
    (body : ∀ p e s m below meth c A ls Q, gc_In p s m meth c cc maxL (some .int) av ws y D cl tys (gw cI cJ ad sg S) A ls → c.exceptionTable.toList = tableOf hh → gc_ex txs nws A s s.heap → gc_ki p l e rm s m av.toArray below meth c D cl cI cJ ad S A cc mc ms post Q → W p l e rm s m av.toArray below meth c s.heap [] 0 0 Q (F0 m 0 ls [])) :
    gc_M l y ws rm D cl tys cI cJ txs nws S av ad sg sz mc ms post :=
  gc_W_of hy hw hn (fun p e s m below meth c A ls h htab hE hA _ => body p e s m below meth c A ls _ h htab hE
    (fun sg2 H locs pc ls r hP hS hdg hp => gc_iret h.1.1 h.1.2.1 h.2.1 h.2.2.1 hP h.2.2.2.2.2.2.1 hS hA hp hdg))
end GCC
