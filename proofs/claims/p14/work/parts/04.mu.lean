/-! A ROW FOR 'new int[n][k]' (multianewarray of two dimensions) over the heap. -/
def mu_in (comp : ClassId) (k : Nat) : Cell := { cls := comp, slots := Array.replicate k (.int 0), vm := .none }
def mu_out (cA : ClassId) (n h i : Nat) : Cell := { cls := cA, slots := ((List.range n).map (fun j => if j < i then Value.ref (h + 1 + j) else Value.null)).toArray, vm := .none }
/-- the state with the outer array and i rows -/
def mu_st (s : State) (cA comp : ClassId) (n k : Nat) : Nat → State
  | 0 => s.pushCell (mu_out cA n s.heap.size 0)
  | i + 1 => ((mu_st s cA comp n k i).pushCell (mu_in comp k)).setCell s.heap.size (mu_out cA n s.heap.size (i + 1))
theorem mu_out_size (cA : ClassId) (n h i : Nat) : (mu_out cA n h i).slots.size = n := by simp [mu_out]
theorem mu_out_0 (cA : ClassId) (n h : Nat) : mu_out cA n h 0 = { cls := cA, slots := Array.replicate n Value.null, vm := .none } := by
  unfold mu_out
  congr 1
  apply Array.ext
  · simp
  · intro j h1 h2
    simp
theorem mu_out_s (cA : ClassId) (n h i : Nat) : (mu_out cA n h i).setSlot i (.ref (h + 1 + i)) = mu_out cA n h (i + 1) := by
  unfold mu_out Cell.setSlot
  congr 1
  apply Array.ext
  · simp
  · intro j h1 h2
    by_cases e : i = j
    · subst e
      simp
    · by_cases hj : j < i
      · simp [Array.getElem_setIfInBounds, e, hj, show j < i + 1 by omega]
      · simp [Array.getElem_setIfInBounds, e, hj, show ¬ j < i + 1 by omega]
theorem mu_facts (s : State) (cA comp : ClassId) (n k : Nat) : ∀ i, (mu_st s cA comp n k i).heap.size = s.heap.size + 1 + i ∧ (mu_st s cA comp n k i).heap[s.heap.size]? = some (mu_out cA n s.heap.size i) ∧ (mu_st s cA comp n k i).vm = s.vm ∧ (mu_st s cA comp n k i).slotsUsed = s.slotsUsed + n + i * k
  | 0 => ⟨by simp [mu_st], by simp [mu_st], rfl, by simp [mu_st, mu_out_size]⟩
  | i + 1 => by
    obtain ⟨a, b, d, u⟩ := mu_facts s cA comp n k i
    have hlt : s.heap.size < (mu_st s cA comp n k i).heap.size := by omega
    have hb' : ((mu_st s cA comp n k i).pushCell (mu_in comp k)).heap[s.heap.size]? = some (mu_out cA n s.heap.size i) := by rw [State.heap_pushCell_of_lt (h := hlt)]; exact b
    refine ⟨?_, State.heap_setCell_self hb', by simp [mu_st, d], ?_⟩
    · simp [mu_st, State.setCell, a]; omega
    · simp [mu_st, u, mu_in, Nat.succ_mul]; omega
theorem mu_top (s : State) (f : JFrame) (cA comp : ClassId) (n k : Nat) : ∀ i, mu_st (s.setTop f) cA comp n k i = (mu_st s cA comp n k i).setTop f
  | 0 => rfl
  | i + 1 => by simp only [mu_st, mu_top s f cA comp n k i, State.heap_setTop, State.pushCell_setTop, State.setCell_setTop]
theorem mu_old (s : State) (cA comp : ClassId) (n k : Nat) {a : Addr} (ha : a < s.heap.size) : ∀ i, (mu_st s cA comp n k i).heap[a]? = s.heap[a]?
  | 0 => State.heap_pushCell_of_lt _ _ ha
  | i + 1 => by
    have f1 := (mu_facts s cA comp n k i).1
    have hlt : a < (mu_st s cA comp n k i).heap.size := Nat.lt_of_lt_of_le ha (by rw [f1]; omega)
    show (((mu_st s cA comp n k i).pushCell (mu_in comp k)).setCell s.heap.size _).heap[a]? = _
    rw [State.heap_setCell_other (Nat.ne_of_gt ha), State.heap_pushCell_of_lt (h := hlt)]
    exact mu_old s cA comp n k ha i
theorem mu_row (s : State) (cA comp : ClassId) (n k : Nat) : ∀ i j, j < i → (mu_st s cA comp n k i).heap[s.heap.size + 1 + j]? = some (mu_in comp k)
  | 0, _, h => absurd h (Nat.not_lt_zero _)
  | i + 1, j, h => by
    have f1 := (mu_facts s cA comp n k i).1
    show (((mu_st s cA comp n k i).pushCell (mu_in comp k)).setCell s.heap.size _).heap[s.heap.size + 1 + j]? = _
    rw [State.heap_setCell_other (show s.heap.size ≠ s.heap.size + 1 + j by omega)]
    rcases Nat.lt_or_ge j i with hj | hj
    · have hlt : s.heap.size + 1 + j < (mu_st s cA comp n k i).heap.size := by rw [f1]; omega
      rw [State.heap_pushCell_of_lt (h := hlt)]
      exact mu_row s cA comp n k i j hj
    · have e : j = i := by omega
      subst e
      rw [← f1]
      exact State.heap_pushCell_size _ _
theorem mu_congr {c : ClassId} {N : Nat} {f g : Nat → Value} (h : ∀ j, j < N → f j = g j) : arrV c N f = arrV c N g := by
  unfold arrV
  congr 2
  funext j
  exact h j.val j.isLt
theorem mu_out_arr (cA : ClassId) (n h : Nat) : mu_out cA n h n = arrV cA n (fun j => .ref (h + 1 + j)) := by
  unfold mu_out arrV
  congr 1
  apply Array.ext
  · simp
  · intro j h1 h2
    have hj : j < n := by simpa using h1
    simp [hj]
theorem mu_in_arr (comp : ClassId) (k : Nat) : mu_in comp k = arrV comp k (fun _ => .int 0) := arrV_new comp k (.int 0)
section MUA
variable {E : CtlPost} {e : Env} {d : Bool} {acts : List Action} {s : State}
theorem mu_alloc {c comp : ClassId} {k : Class} {type : FieldType} {len : Nat} {init : Value} (hk : s.vm.classes[c]? = some k) (hkind : k.kind = .array comp type) (hlimit : ¬ len > e.platform.arrayLengthLimit) (hheap : ¬ len * componentBytes type > e.platform.maxHeapBytes) (hfit : fits type init = true) (hdef : init.isDefault = true) {Q : Addr → Pre}
    (h1 : s.heap.size < e.platform.maxCells) (h2 : s.slotsUsed + len ≤ e.platform.maxSlots) (hq : Q s.heap.size d acts (s.pushCell { cls := c, slots := Array.replicate len init, vm := .none })) : wp (Jvm.newArray c len init) Q E e d acts s := by
  have hfits : ∀ i v, (Array.replicate len init)[i]? = some v → s.fitsSlot c .none i v = true := by
    intro i v hv
    simp only [Array.getElem?_replicate] at hv
    split at hv
    · cases hv; simp [State.fitsSlot, State.slotType?, hk, hkind, hfit]
    · cases hv
  have hda : allocActs (Array.replicate len init) s.heap.size acts = acts := by
    have hall : ((Array.replicate len init).all (·.isDefault)) = true := by
      rw [Array.all_replicate]; split <;> simp [hdef]
    unfold allocActs; rw [if_pos hall]
  simp only [Jvm.newArray, Jvm.arrayFits, wp_bind', W.ask, W.ite, hlimit, if_false, wp_pure', W.theClass, hk, hkind, hheap, W.alloc, W.stop, Option.some.injEq, exists_eq_left', Array.size_replicate, hda]
  rw [if_neg (by omega)]
  exact ⟨h1, h2, hfits, hq⟩
theorem mu_make1 {comp cc : ClassId} {kc : Class} {m : Int32} (hkc : s.vm.classes[comp]? = some kc) (hkindc : kc.kind = .array cc .int) (hm : ¬ m < 0) (hl2 : ¬ m.toNatClampNeg > e.platform.arrayLengthLimit) (hh2 : ¬ m.toNatClampNeg * componentBytes .int > e.platform.maxHeapBytes)
    (h1 : s.heap.size < e.platform.maxCells) (h2 : s.slotsUsed + m.toNatClampNeg ≤ e.platform.maxSlots) {Q : Addr → Pre} (hq : Q s.heap.size d acts (s.pushCell (mu_in comp m.toNatClampNeg))) : wp (Op.multianewarray.make comp [m]) Q E e d acts s := by
  rw [Op.multianewarray.make]
  simp only [wp_bind', W.ite, hm, if_false, wp_pure', W.theClass, hkc, hkindc, Option.some.injEq, exists_eq_left']
  exact mu_alloc hkc hkindc hl2 hh2 rfl rfl h1 h2 hq
theorem mu_make2 {c comp cc : ClassId} {k kc : Class} {n m : Int32} (hk : s.vm.classes[c]? = some k) (hkind : k.kind = .array comp (.array .int)) (hkc : s.vm.classes[comp]? = some kc) (hkindc : kc.kind = .array cc .int) (hn : ¬ n < 0) (hm : ¬ m < 0)
    (hl1 : ¬ n.toNatClampNeg > e.platform.arrayLengthLimit) (hh1 : ¬ n.toNatClampNeg * componentBytes (.array .int) > e.platform.maxHeapBytes) (hl2 : ¬ m.toNatClampNeg > e.platform.arrayLengthLimit) (hh2 : ¬ m.toNatClampNeg * componentBytes .int > e.platform.maxHeapBytes)
    (hc : s.heap.size + 1 + n.toNatClampNeg ≤ e.platform.maxCells) (hs : s.slotsUsed + n.toNatClampNeg + n.toNatClampNeg * m.toNatClampNeg ≤ e.platform.maxSlots)
    {Q : Addr → Pre} (hq : ∀ d' acts', Q s.heap.size d' acts' (mu_st s c comp n.toNatClampNeg m.toNatClampNeg n.toNatClampNeg)) : wp (Op.multianewarray.make c [n, m]) Q E e d acts s := by
  have hfind : ([m].find? (· < 0)) = none := by simp [hm]
  rw [Op.multianewarray.make]
  simp only [wp_bind', W.ite, hn, if_false, wp_pure', W.theClass, hk, hkind, Option.some.injEq, exists_eq_left']
  refine mu_alloc hk hkind hl1 hh1 rfl rfl (by omega) (by have := Nat.zero_le (n.toNatClampNeg * m.toNatClampNeg); omega) ?_
  simp only [hfind]
  rw [ite_self, wp_bind', Std.Legacy.Range.forIn_eq_forIn_range']
  have hsz : ([:n.toNatClampNeg] : Std.Legacy.Range).size = n.toNatClampNeg := by simp [Std.Legacy.Range.size]
  rw [hsz]
  show wp (forIn (List.range' 0 n.toNatClampNeg 1) PUnit.unit _) _ E e d acts _
  refine wp_forIn_inv (fun rest s' => ∃ i, i ≤ n.toNatClampNeg ∧ rest = List.range' i (n.toNatClampNeg - i) ∧ s' = mu_st s c comp n.toNatClampNeg m.toNatClampNeg i) _ _ ⟨0, Nat.zero_le _, rfl, by rw [mu_st, mu_out_0]⟩ ?_ ?_
  · rintro x rest s' d' acts' Q' ⟨i, hi, hl, rfl⟩ hnext
    have hlt : i < n.toNatClampNeg := by
      rcases Nat.lt_or_ge i n.toNatClampNeg with h | h
      · exact h
      · rw [show n.toNatClampNeg - i = 0 from by omega] at hl; simp at hl
    obtain ⟨rfl, hrest⟩ : x = i ∧ rest = List.range' (i + 1) (n.toNatClampNeg - (i + 1)) := by
      rw [show n.toNatClampNeg - i = (n.toNatClampNeg - (i + 1)) + 1 from by omega, List.range'_succ] at hl
      exact ⟨(List.cons.inj hl).1, (List.cons.inj hl).2⟩
    obtain ⟨f1, f2, f3, f4⟩ := mu_facts s c comp n.toNatClampNeg m.toNatClampNeg x
    have hmul : x * m.toNatClampNeg + m.toNatClampNeg ≤ n.toNatClampNeg * m.toNatClampNeg := by
      have := Nat.mul_le_mul_right m.toNatClampNeg (show x + 1 ≤ n.toNatClampNeg from hlt)
      rw [Nat.succ_mul] at this; exact this
    simp only [wp_bind']
    refine mu_make1 (by rw [f3]; exact hkc) hkindc hm hl2 hh2 (by rw [f1]; omega) (by rw [f4]; omega) ?_
    have hlt0 : s.heap.size < (mu_st s c comp n.toNatClampNeg m.toNatClampNeg x).heap.size := by rw [f1]; omega
    simp only [wp_bind', W.writeLoc, wp_pure']
    refine ⟨mu_out c n.toNatClampNeg s.heap.size x, by rw [State.heap_pushCell_of_lt (h := hlt0)]; exact f2, by simp [mu_out], by rw [mu_out_size]; exact hlt, ?_, hnext _ _ _ ⟨x + 1, hlt, hrest, ?_⟩⟩
    · simp [mu_out, State.fitsSlot, State.slotType?, f3, hk, hkind, fits]
    · rw [f1, mu_out_s]; rfl
  · rintro s' d' acts' ⟨i, hi, hl, rfl⟩
    have hiN : i = n.toNatClampNeg := by
      rcases Nat.lt_or_ge i n.toNatClampNeg with h | h
      · rw [show n.toNatClampNeg - i = (n.toNatClampNeg - (i + 1)) + 1 from by omega, List.range'_succ] at hl; cases hl
      · omega
    subst hiN
    simp only [wp_pure']
    exact hq _ _
end MUA
section MUB
variable {p : Program} {l : Launch} {e : Env} {R : Room} {s : State} {m : MethodId} {args : Array Value} {below : List Frame} {meth : Method} {c : Code} {H : Heap} {locs : List Loc} {cells slots : Nat} {Q : State → Prop}
theorem mu_stand {T : State} (X : Stand p l e R s m args below meth c T locs cells slots) (cA comp : ClassId) (n k : Nat) : ∀ i, Stand p l e R s m args below meth c (mu_st T cA comp n k i) (locs ++ (List.range i).map fun j => ⟨T.heap.size, j⟩) (cells + 1 + i) (slots + n + i * k)
  | 0 => by
    have h := X.pushed (mu_out cA n T.heap.size 0)
    rw [mu_out_size] at h
    simpa [mu_st] using h
  | i + 1 => by
    have Xi := mu_stand X cA comp n k i
    obtain ⟨f1, f2, f3, f4⟩ := mu_facts T cA comp n k i
    have hlt0 : T.heap.size < (mu_st T cA comp n k i).heap.size := by rw [f1]; omega
    have hcell : ((mu_st T cA comp n k i).pushCell (mu_in comp k)).heap[T.heap.size]? = some (mu_out cA n T.heap.size i) := by rw [State.heap_pushCell_of_lt (h := hlt0)]; exact f2
    have h := (Xi.pushed (mu_in comp k)).stored hcell i (.ref (T.heap.size + 1 + i))
    rw [mu_out_s] at h
    have e1 : (mu_in comp k).slots.size = k := by simp [mu_in]
    rw [e1] at h
    have e2 : (locs ++ (List.range (i + 1)).map fun j => (⟨T.heap.size, j⟩ : Loc)) = (locs ++ (List.range i).map fun j => (⟨T.heap.size, j⟩ : Loc)) ++ [⟨T.heap.size, i⟩] := by simp [List.range_succ, List.append_assoc]
    have e3 : slots + n + (i + 1) * k = slots + n + i * k + k := by rw [Nat.succ_mul]; omega
    rw [e2, e3]
    exact h
/-- what the tables say of the class of int[][] -/
def mu_A (s : State) (cJ cI : ClassId) : Prop := ∃ kA : Class, s.vm.findClass "[I" = some cI ∧ s.vm.classes[cJ]? = some kA ∧ kA.kind = .array cI (.array .int) ∧ s.vm.findClass "[[I" = some cJ
theorem mu_W {cc : ByteArray} {own : String} {index : Nat} {cI cJ : ClassId} (hx : p.tables.exec = Jvm.exec) (hb : c.code = cc) (hown : s.vm.findClass own = some m.cls) (hclink : (Cond.classLink own index "[[I").before args s = true) (hover : mu_A s cJ cI) (harr : (Cond.arrayClass .int).before args s = true)
    {pc : Nat} {ls : Array Slot} {rest : List Value} (hdg : decode cc pc = .ok (.multianewarray index 2, 4)) (hcells : cells + 7 ≤ R.cells) (hslots : slots + 30 ≤ R.slots)
    (kk : ∀ H1 : Heap, H1.size = H.size + 7 → H1[H.size]? = some (arrV cJ 6 (fun j => .ref (H.size + 1 + j))) → (∀ j, j < 6 → H1[H.size + 1 + j]? = some (arrV cI 4 (fun _ => .int 0))) → (∀ q, q < H.size → H1[q]? = H[q]?) →
      W p l e R s m args below meth c H1 (locs ++ (List.range 6).map fun j => ⟨H.size, j⟩) (cells + 7) (slots + 30) Q (F0 m (pc + 4) ls (.ref H.size :: rest))) :
    W p l e R s m args below meth c H locs cells slots Q (F0 m pc ls (.int (nI 4) :: .int (nI 6) :: rest)) := by
  intro T hT X
  subst hT
  obtain ⟨kA, hcomp, hkA, hkindA, hnameA⟩ := hover
  obtain ⟨comp', kC, c9, hcomp', hkC, hkindC⟩ := Cond.arrayClass_spec harr
  have ecomp : comp' = cI := Option.some.inj (hcomp'.symm.trans hcomp)
  subst ecomp
  have hpl : e.platform.magicAccessors = ({} : Platform).magicAccessors := by rw [X.admits.platform]
  obtain ⟨c0, hfc0, hcl⟩ := Cond.classLink_spec hown hclink e.platform hpl
  cases hnameA.symm.trans hfc0
  obtain ⟨hg₁, hwarm₁, hready₁⟩ := State.classEntry (e := e) X.warmed hcl
  generalize T.vm.noted m.cls index (.cls cJ) = vm₁ at hg₁ hwarm₁ hready₁
  have hal : s.vm.Alike vm₁ := hwarm₁.alike
  obtain ⟨kA₁, hkA₁, heA⟩ := hal.2.2 _ _ hkA
  obtain ⟨kC₁, hkC₁, heC⟩ := hal.2.2 _ _ hkC
  have hkindA₁ : kA₁.kind = .array comp' (.array .int) := by rw [heA]; exact hkindA
  have hkindC₁ : kC₁.kind = .array c9 .int := by rw [heC]; exact hkindC
  have X₁ := X.noted hwarm₁
  have n6 : (nI 6).toNatClampNeg = 6 := nI_clamp (by decide)
  have n4 : (nI 4).toNatClampNeg = 4 := nI_clamp (by decide)
  obtain ⟨hr1, hr2⟩ := X.roomAbove hcells hslots
  have XF := mu_stand X₁ cJ comp' 6 4 6
  obtain ⟨f1, f2, f3, f4⟩ := mu_facts (T.setVm vm₁) cJ comp' 6 4 6
  obtain ⟨t, a1, b1⟩ := kk (mu_st (T.setVm vm₁) cJ comp' 6 4 6).heap (by rw [f1]; rfl)
    (by
      show (mu_st (T.setVm vm₁) cJ comp' 6 4 6).heap[(T.setVm vm₁).heap.size]? = _
      rw [f2, mu_out_arr]
      rfl)
    (fun j hj => by
      show (mu_st (T.setVm vm₁) cJ comp' 6 4 6).heap[(T.setVm vm₁).heap.size + 1 + j]? = _
      rw [mu_row _ _ _ _ _ 6 j hj, mu_in_arr])
    (fun q hq => mu_old (T.setVm vm₁) cJ comp' 6 4 hq 6) _ rfl XF
  refine ⟨t, ?_, b1⟩
  have hl1 : ¬ (nI 6).toNatClampNeg > e.platform.arrayLengthLimit := by rw [Launch.admits_arrayLengthLimit X.admits, n6]; decide
  have hh1 : ¬ (nI 6).toNatClampNeg * componentBytes (.array .int) > e.platform.maxHeapBytes := by rw [Launch.admits_maxHeapBytes X.admits, n6]; decide
  have hl2 : ¬ (nI 4).toNatClampNeg > e.platform.arrayLengthLimit := by rw [Launch.admits_arrayLengthLimit X.admits, n4]; decide
  have hh2 : ¬ (nI 4).toNatClampNeg * componentBytes .int > e.platform.maxHeapBytes := by rw [Launch.admits_maxHeapBytes X.admits, n4]; decide
  have hdg' : decode c.code (F0 m pc ls (.int (nI 4) :: .int (nI 6) :: rest)).pc = .ok (.multianewarray index 2, 4) := by rw [hb]; exact hdg
  jvm_step X.here [hx, hdg']
  simp only [Op.multianewarray.sem, wp_bind', W.resolveClassAt_links (State.method?_setTop (F0 m pc ls (.int (nI 4) :: .int (nI 6) :: rest)) X.here.top) hg₁]
  rw [W.popN, if_neg (by decide)]
  refine ⟨F0 m pc ls (.int (nI 4) :: .int (nI 6) :: rest), State.topJava?_setTop' (s := T.setVm vm₁) (F0 m pc ls (.int (nI 4) :: .int (nI 6) :: rest)) X.here.top, [.int (nI 6), .int (nI 4)], rest, rfl, rfl, ?_⟩
  simp only [List.mapM_cons, List.mapM_nil, wp_bind', wp_pure']
  refine mu_make2 (k := kA₁) (kc := kC₁) (comp := comp') (cc := c9) hkA₁ hkindA₁ hkC₁ hkindC₁ (nI_pos (by decide)) (nI_pos (by decide)) hl1 hh1 hl2 hh2 (by rw [n6]; show T.heap.size + 1 + 6 ≤ _; omega) (by rw [n6, n4]; show T.slotsUsed + 6 + 6 * 4 ≤ _; omega) (fun d' acts' => ?_)
  rw [n6, n4]
  have eS : ((T.setTop (F0 m pc ls (.int (nI 4) :: .int (nI 6) :: rest))).setVm vm₁).setTop { F0 m pc ls (.int (nI 4) :: .int (nI 6) :: rest) with stack := rest } = (T.setVm vm₁).setTop { F0 m pc ls (.int (nI 4) :: .int (nI 6) :: rest) with stack := rest } := by
    show ((T.setVm vm₁).setTop _).setTop _ = _
    rw [State.setTop_setTop]
  rw [eS, mu_top]
  simp only [wp_bind', W.mark, W.pushRef, State.topJava?_setTop' _ XF.here.top, Option.some.injEq, exists_eq_left', State.setTop_setTop, State.heap_setTop]
  intro acts
  simp [jvm, XF.here.top]
  exact a1
end MUB
