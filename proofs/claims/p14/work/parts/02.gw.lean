/-! A WORLD BY ITS SCHEMA. Cell k lies at 'ad k'; its numbers are 'sg k'. A kind is an object (number of its class; its fields: 'some j' the cell j, 'none' a number), an array of n numbers (none), of n rows, the cells b, b + 1, .. (some (some b)), or of n longs that were ints (some none) -/
abbrev gw_K : Type := (Nat × List (Option Nat)) ⊕ (Nat × Option (Option Nat))
def gw_v (ad : Nat → Nat) (f : Nat → Int32) (j : Nat) : Option Nat → Value
  | some t => .ref (ad t)
  | none => .int (f j)
def gw_f (ad : Nat → Nat) (f : Nat → Int32) : Nat → List (Option Nat) → List Value
  | _, [] => []
  | j, o :: r => gw_v ad f j o :: gw_f ad f (j + 1) r
def gw_g (ad : Nat → Nat) (b n : Nat) : Nat → Option Nat := fun i => ((List.range n).map (fun j => ad (b + j)))[i]?
def gw_c (cI : ClassId) (cJ : ClassId × ClassId) (ad : Nat → Nat) (f : Nat → Int32) : gw_K → va_E
  | .inl q => .inr (q.1, gw_f ad f 0 q.2)
  | .inr (n, none) => .inl (cI, n, .inl f)
  | .inr (n, some (some b)) => .inl (cJ.1, n, .inr (.inr (.inr (.inr (gw_g ad b n)))))
  | .inr (n, some none) => .inl (cJ.2, n, .inr (.inl (fun i => (f i).toInt64)))
def gw_w (cI : ClassId) (cJ : ClassId × ClassId) (ad : Nat → Nat) (sg : Nat → Nat → Int32) : Nat → List gw_K → va_W
  | _, [] => []
  | k, q :: r => (ad k, gw_c cI cJ ad (sg k) q) :: gw_w cI cJ ad sg (k + 1) r
abbrev gw (cI : ClassId) (cJ : ClassId × ClassId) (ad : Nat → Nat) (sg : Nat → Nat → Int32) (S : List gw_K) : va_W := gw_w cI cJ ad sg 0 S
/-- the numbers of one cell anew -/
def gw_u (sg : Nat → Nat → Int32) (k : Nat) (f : Nat → Int32) : Nat → Nat → Int32 := fun j => if j = k then f else sg j
theorem gw_u_s (sg : Nat → Nat → Int32) (k : Nat) (f : Nat → Int32) : gw_u sg k f k = f := by simp [gw_u]
theorem gw_u_n (sg : Nat → Nat → Int32) {k j : Nat} (f : Nat → Int32) (h : j ≠ k) : gw_u sg k f j = sg j := by simp [gw_u, h]
section GWA
variable {cI : ClassId} {cJ : ClassId × ClassId} {ad : Nat → Nat} {sg : Nat → Nat → Int32} {S : List gw_K}
theorem gw_fat (f : Nat → Int32) : ∀ (fs : List (Option Nat)) (j i : Nat), (gw_f ad f j fs)[i]? = (fs[i]?).map (gw_v ad f (j + i))
  | [], j, i => by simp [gw_f]
  | o :: r, j, 0 => by simp [gw_f]
  | o :: r, j, i + 1 => by
    have h := gw_fat f r (j + 1) i
    rw [show j + 1 + i = j + (i + 1) by omega] at h
    simpa [gw_f] using h
theorem gw_wat : ∀ (S : List gw_K) (k i : Nat), (gw_w cI cJ ad sg k S)[i]? = (S[i]?).map (fun q => (ad (k + i), gw_c cI cJ ad (sg (k + i)) q))
  | [], k, i => by simp [gw_w]
  | o :: r, k, 0 => by simp [gw_w]
  | o :: r, k, i + 1 => by
    have h := gw_wat r (k + 1) i
    rw [show k + 1 + i = k + (i + 1) by omega] at h
    simpa [gw_w] using h
theorem gw_at {i : Nat} {q : gw_K} (h : S[i]? = some q) : (gw cI cJ ad sg S)[i]? = some (ad i, gw_c cI cJ ad (sg i) q) := by
  show (gw_w cI cJ ad sg 0 S)[i]? = _
  rw [gw_wat, h, Nat.zero_add]
  rfl
theorem gw_of {i : Nat} {x : Nat × va_E} (h : (gw cI cJ ad sg S)[i]? = some x) : ∃ q, S[i]? = some q ∧ x = (ad i, gw_c cI cJ ad (sg i) q) := by
  have h : (gw_w cI cJ ad sg 0 S)[i]? = some x := h
  rw [gw_wat, Nat.zero_add] at h
  cases hq : S[i]? with
  | none => rw [hq] at h; cases h
  | some q => rw [hq] at h; exact ⟨q, rfl, (Option.some.inj h).symm⟩
theorem gw_len : ∀ (S : List gw_K) (k : Nat), (gw_w cI cJ ad sg k S).length = S.length
  | [], k => rfl
  | o :: r, k => by
    show (gw_w cI cJ ad sg (k + 1) r).length + 1 = r.length + 1
    rw [gw_len r (k + 1)]
theorem gw_flen (f : Nat → Int32) : ∀ (fs : List (Option Nat)) (j : Nat), (gw_f ad f j fs).length = fs.length
  | [], j => rfl
  | o :: r, j => by
    show (gw_f ad f (j + 1) r).length + 1 = r.length + 1
    rw [gw_flen f r (j + 1)]
theorem gw_set {i : Nat} {q : gw_K} (h : S[i]? = some q) (f : Nat → Int32) : (gw cI cJ ad sg S).set i (ad i, gw_c cI cJ ad f q) = gw cI cJ ad (gw_u sg i f) S := by
  have hi : i < (gw cI cJ ad sg S).length := by
    show i < (gw_w cI cJ ad sg 0 S).length
    rw [gw_len]
    exact (List.getElem?_eq_some_iff.mp h).1
  apply List.ext_getElem?
  intro j
  by_cases hj : i = j
  · subst hj
    rw [List.getElem?_set_self hi, gw_at h, gw_u_s]
  · rw [List.getElem?_set_ne hj]
    show (gw_w cI cJ ad sg 0 S)[j]? = (gw_w cI cJ ad (gw_u sg i f) 0 S)[j]?
    rw [gw_wat, gw_wat, Nat.zero_add, gw_u_n sg f (Ne.symm hj)]
theorem gw_fset {f : Nat → Int32} {fs : List (Option Nat)} {k : Nat} {x : Int32} (h : fs[k]? = some none) : (gw_f ad f 0 fs).set k (.int x) = gw_f ad (upd f k x) 0 fs := by
  have hi : k < (gw_f ad f 0 fs).length := by
    rw [gw_flen]
    exact (List.getElem?_eq_some_iff.mp h).1
  apply List.ext_getElem?
  intro j
  by_cases hj : k = j
  · subst hj
    rw [List.getElem?_set_self hi, gw_fat, h, Nat.zero_add]
    simp [gw_v, upd]
  · rw [List.getElem?_set_ne hj, gw_fat, gw_fat, Nat.zero_add]
    cases ho : fs[j]? with
    | none => rfl
    | some o =>
      cases o with
      | none => simp [gw_v, upd, Ne.symm hj]
      | some t => rfl
/-- the addresses don't hang on the numbers -/
theorem gw_D {A : Nat → Prop} (sg2 : Nat → Nat → Int32) (h : va_D A (gw cI cJ ad sg S)) : va_D A (gw cI cJ ad sg2 S) := by
  refine ⟨fun i j p q hp hq e => ?_, fun k q hq => ?_⟩
  · obtain ⟨a, ha, rfl⟩ := gw_of hp
    obtain ⟨b, hb, rfl⟩ := gw_of hq
    exact h.1 i j _ _ (gw_at ha) (gw_at hb) e
  · obtain ⟨a, ha, rfl⟩ := gw_of hq
    exact h.2 k (ad k, gw_c cI cJ ad (sg k) a) (gw_at ha)
theorem gw_A {sz q : Nat} (sg2 : Nat → Nat → Int32) (h : va_A (gw cI cJ ad sg S) sz q) : va_A (gw cI cJ ad sg2 S) sz q := by
  rcases h with ⟨k, e, h⟩ | h
  · obtain ⟨a, ha, e1⟩ := gw_of h
    have e2 : q = ad k := congrArg Prod.fst e1
    subst e2
    exact Or.inl ⟨k, _, gw_at ha⟩
  · exact Or.inr h
end GWA
/-! rows of a method over such a world -/
section GWB
variable {p : Program} {l : Launch} {e : Env} {R : Room} {s : State} {m : MethodId} {args : Array Value} {below : List Frame} {meth : Method} {c : Code} {H : Heap} {locs : List Loc} {cells slots : Nat} {Q : State → Prop}
variable {cc : ByteArray} {pc : Nat} {ls : Array Slot} {rest : List Value} {D : va_G} {cl : List vw_C} {A : Nat → Prop} {tys : List (ClassId × FieldType)} {H0 : Heap}
variable {cI : ClassId} {cJ : ClassId × ClassId} {ad : Nat → Nat} {sg : Nat → Nat → Int32} {S : List gw_K}
/-- a field that is a cell -/
theorem gw_getr (hx : p.tables.exec = Jvm.exec) (hb : c.code = cc) {own ref C : String} {T : u_T} {N ci index : Nat} {Ts : List Cond} (hts : ∀ w ∈ Ts, w.before args s = true) (hin : ∀ w ∈ u_ws C T N, w ∈ Ts) (hown : s.vm.findClass own = some m.cls) (hK : va_K D cl tys s) (hP : va_P D cl (gw cI cJ ad sg S) H) (q0 k t : Nat) {fs : List (Option Nat)} (hq : S[q0]? = some (.inl (ci, fs))) (hf : fs[k]? = some (some t)) (hc : cl[ci]? = some (C, T, N)) (hk : k < N)
    (hlink : (Cond.fieldLink own index ref (T k).2.1 (T k).2.2.1).before args s = true) (hsame : ∀ x, s.fieldFound? (T k).1 (T k).2.1 (T k).2.2.1 = some x → s.fieldFound? ref (T k).2.1 (T k).2.2.1 = some x) (hdg : decode cc pc = .ok (.getfield index, 3))
    (kk : W p l e R s m args below meth c H locs cells slots Q (F0 m (pc + 3) ls (.ref (ad t) :: rest))) : W p l e R s m args below meth c H locs cells slots Q (F0 m pc ls (.ref (ad q0) :: rest)) :=
  va_get hx hb hts hin hown hK hP q0 (fs := gw_f ad (sg q0) 0 fs) (gw_at hq) hc k hk hlink hsame (v := .ref (ad t)) (by rw [gw_fat, hf]; rfl) hdg kk
/-- a field that is a number -/
theorem gw_geti (hx : p.tables.exec = Jvm.exec) (hb : c.code = cc) {own ref C : String} {T : u_T} {N ci index : Nat} {Ts : List Cond} (hts : ∀ w ∈ Ts, w.before args s = true) (hin : ∀ w ∈ u_ws C T N, w ∈ Ts) (hown : s.vm.findClass own = some m.cls) (hK : va_K D cl tys s) (hP : va_P D cl (gw cI cJ ad sg S) H) (q0 k : Nat) {fs : List (Option Nat)} (hq : S[q0]? = some (.inl (ci, fs))) (hf : fs[k]? = some none) (hc : cl[ci]? = some (C, T, N)) (hk : k < N)
    (hlink : (Cond.fieldLink own index ref (T k).2.1 (T k).2.2.1).before args s = true) (hsame : ∀ x, s.fieldFound? (T k).1 (T k).2.1 (T k).2.2.1 = some x → s.fieldFound? ref (T k).2.1 (T k).2.2.1 = some x) (hdg : decode cc pc = .ok (.getfield index, 3))
    (kk : W p l e R s m args below meth c H locs cells slots Q (F0 m (pc + 3) ls (.int (sg q0 k) :: rest))) : W p l e R s m args below meth c H locs cells slots Q (F0 m pc ls (.ref (ad q0) :: rest)) :=
  va_get hx hb hts hin hown hK hP q0 (fs := gw_f ad (sg q0) 0 fs) (gw_at hq) hc k hk hlink hsame (v := .int (sg q0 k)) (by rw [gw_fat, hf, Nat.zero_add]; rfl) hdg kk
/-- the same of a nest mate's field -/
theorem gw_getrN (hx : p.tables.exec = Jvm.exec) (hb : c.code = cc) {own ref C host : String} {T : u_T} {N ci index : Nat} {Ts : List Cond} (hts : ∀ w ∈ Ts, w.before args s = true) (hin : ∀ w ∈ u_ws C T N, w ∈ Ts) (hown : s.vm.findClass own = some m.cls) (hK : va_K D cl tys s) (hP : va_P D cl (gw cI cJ ad sg S) H) (q0 k t : Nat) {fs : List (Option Nat)} (hq : S[q0]? = some (.inl (ci, fs))) (hf : fs[k]? = some (some t)) (hc : cl[ci]? = some (C, T, N)) (hk : k < N)
    (hlink : (Cond.fieldLinkNest own index ref (T k).2.1 (T k).2.2.1 host).before args s = true) (hsame : ∀ x, s.fieldFound? (T k).1 (T k).2.1 (T k).2.2.1 = some x → s.fieldFound? ref (T k).2.1 (T k).2.2.1 = some x) (hdg : decode cc pc = .ok (.getfield index, 3))
    (kk : W p l e R s m args below meth c H locs cells slots Q (F0 m (pc + 3) ls (.ref (ad t) :: rest))) : W p l e R s m args below meth c H locs cells slots Q (F0 m pc ls (.ref (ad q0) :: rest)) :=
  va_getN hx hb hts hin hown hK hP q0 (fs := gw_f ad (sg q0) 0 fs) (gw_at hq) hc k hk hlink hsame (v := .ref (ad t)) (by rw [gw_fat, hf]; rfl) hdg kk
theorem gw_getiN (hx : p.tables.exec = Jvm.exec) (hb : c.code = cc) {own ref C host : String} {T : u_T} {N ci index : Nat} {Ts : List Cond} (hts : ∀ w ∈ Ts, w.before args s = true) (hin : ∀ w ∈ u_ws C T N, w ∈ Ts) (hown : s.vm.findClass own = some m.cls) (hK : va_K D cl tys s) (hP : va_P D cl (gw cI cJ ad sg S) H) (q0 k : Nat) {fs : List (Option Nat)} (hq : S[q0]? = some (.inl (ci, fs))) (hf : fs[k]? = some none) (hc : cl[ci]? = some (C, T, N)) (hk : k < N)
    (hlink : (Cond.fieldLinkNest own index ref (T k).2.1 (T k).2.2.1 host).before args s = true) (hsame : ∀ x, s.fieldFound? (T k).1 (T k).2.1 (T k).2.2.1 = some x → s.fieldFound? ref (T k).2.1 (T k).2.2.1 = some x) (hdg : decode cc pc = .ok (.getfield index, 3))
    (kk : W p l e R s m args below meth c H locs cells slots Q (F0 m (pc + 3) ls (.int (sg q0 k) :: rest))) : W p l e R s m args below meth c H locs cells slots Q (F0 m pc ls (.ref (ad q0) :: rest)) :=
  va_getN hx hb hts hin hown hK hP q0 (fs := gw_f ad (sg q0) 0 fs) (gw_at hq) hc k hk hlink hsame (v := .int (sg q0 k)) (by rw [gw_fat, hf, Nat.zero_add]; rfl) hdg kk
/-- a number into a field -/
theorem gw_put (hx : p.tables.exec = Jvm.exec) (hb : c.code = cc) {own ref C : String} {T : u_T} {N ci index : Nat} {Ts : List Cond} (hts : ∀ w ∈ Ts, w.before args s = true) (hin : ∀ w ∈ u_ws C T N, w ∈ Ts) (ty0 : Nat → FieldType) (hty : ∀ k, k < N → parseFieldDescriptor (T k).2.2.1 = some (ty0 k)) (hnm : ∀ a, a < N → ∀ b, b < N → a ≠ b → (T a).2.1 ≠ (T b).2.1) (hown : s.vm.findClass own = some m.cls) (hK : va_K D cl tys s) (hP : va_P D cl (gw cI cJ ad sg S) H) (hD : va_D A (gw cI cJ ad sg S)) (hS : va_S A H0 H locs) (q0 k : Nat) {fs : List (Option Nat)} (hq : S[q0]? = some (.inl (ci, fs))) (hf : fs[k]? = some none) (hc : cl[ci]? = some (C, T, N)) (hk : k < N)
    (hlink : (Cond.fieldLink own index ref (T k).2.1 (T k).2.2.1).before args s = true) (hsame : ∀ x, s.fieldFound? (T k).1 (T k).2.1 (T k).2.2.1 = some x → s.fieldFound? ref (T k).2.1 (T k).2.2.1 = some x) (hfin : (T k).2.2.2 = false) {ty : FieldType} {x : Int32} (hd : parseFieldDescriptor (T k).2.2.1 = some ty) (hn : narrow ty (.int x) = .int x) (hfit : fits ty (.int x) = true) (hdg : decode cc pc = .ok (.putfield index, 3))
    (kk : ∀ (H1 : Heap) (locs1 : List Loc), va_P D cl (gw cI cJ ad (gw_u sg q0 (upd (sg q0) k x)) S) H1 → va_D A (gw cI cJ ad (gw_u sg q0 (upd (sg q0) k x)) S) → va_S A H0 H1 locs1 → W p l e R s m args below meth c H1 locs1 cells slots Q (F0 m (pc + 3) ls rest)) : W p l e R s m args below meth c H locs cells slots Q (F0 m pc ls (.int x :: .ref (ad q0) :: rest)) := by
  have e1 : (gw cI cJ ad sg S).set q0 (ad q0, .inr (ci, (gw_f ad (sg q0) 0 fs).set k (.int x))) = gw cI cJ ad (gw_u sg q0 (upd (sg q0) k x)) S := by
    rw [gw_fset hf]
    exact gw_set hq _
  refine va_put hx hb hts hin ty0 hty hnm hown hK hP hD hS q0 (fs := gw_f ad (sg q0) 0 fs) (gw_at hq) hc k hk hlink hsame hfin hd hn hfit (by rw [gw_flen]; exact (List.getElem?_eq_some_iff.mp hf).1) hdg (fun H1 locs1 h1 h2 h3 => ?_)
  rw [e1] at h1 h2
  exact kk H1 locs1 h1 h2 h3
theorem gw_putN (hx : p.tables.exec = Jvm.exec) (hb : c.code = cc) {own ref C host : String} {T : u_T} {N ci index : Nat} {Ts : List Cond} (hts : ∀ w ∈ Ts, w.before args s = true) (hin : ∀ w ∈ u_ws C T N, w ∈ Ts) (ty0 : Nat → FieldType) (hty : ∀ k, k < N → parseFieldDescriptor (T k).2.2.1 = some (ty0 k)) (hnm : ∀ a, a < N → ∀ b, b < N → a ≠ b → (T a).2.1 ≠ (T b).2.1) (hown : s.vm.findClass own = some m.cls) (hK : va_K D cl tys s) (hP : va_P D cl (gw cI cJ ad sg S) H) (hD : va_D A (gw cI cJ ad sg S)) (hS : va_S A H0 H locs) (q0 k : Nat) {fs : List (Option Nat)} (hq : S[q0]? = some (.inl (ci, fs))) (hf : fs[k]? = some none) (hc : cl[ci]? = some (C, T, N)) (hk : k < N)
    (hlink : (Cond.fieldLinkNest own index ref (T k).2.1 (T k).2.2.1 host).before args s = true) (hsame : ∀ x, s.fieldFound? (T k).1 (T k).2.1 (T k).2.2.1 = some x → s.fieldFound? ref (T k).2.1 (T k).2.2.1 = some x) (hfin : (T k).2.2.2 = false) {ty : FieldType} {x : Int32} (hd : parseFieldDescriptor (T k).2.2.1 = some ty) (hn : narrow ty (.int x) = .int x) (hfit : fits ty (.int x) = true) (hdg : decode cc pc = .ok (.putfield index, 3))
    (kk : ∀ (H1 : Heap) (locs1 : List Loc), va_P D cl (gw cI cJ ad (gw_u sg q0 (upd (sg q0) k x)) S) H1 → va_D A (gw cI cJ ad (gw_u sg q0 (upd (sg q0) k x)) S) → va_S A H0 H1 locs1 → W p l e R s m args below meth c H1 locs1 cells slots Q (F0 m (pc + 3) ls rest)) : W p l e R s m args below meth c H locs cells slots Q (F0 m pc ls (.int x :: .ref (ad q0) :: rest)) := by
  have e1 : (gw cI cJ ad sg S).set q0 (ad q0, .inr (ci, (gw_f ad (sg q0) 0 fs).set k (.int x))) = gw cI cJ ad (gw_u sg q0 (upd (sg q0) k x)) S := by
    rw [gw_fset hf]
    exact gw_set hq _
  refine va_putN hx hb hts hin ty0 hty hnm hown hK hP hD hS q0 (fs := gw_f ad (sg q0) 0 fs) (gw_at hq) hc k hk hlink hsame hfin hd hn hfit (by rw [gw_flen]; exact (List.getElem?_eq_some_iff.mp hf).1) hdg (fun H1 locs1 h1 h2 h3 => ?_)
  rw [e1] at h1 h2
  exact kk H1 locs1 h1 h2 h3
/-- a number out of an array, into an array (the place is a natural number) -/
theorem gw_ald (hx : p.tables.exec = Jvm.exec) (hb : c.code = cc) (hK : va_K D cl tys s) (hP : va_P D cl (gw cI cJ ad sg S) H) (q0 t0 : Nat) {n : Nat} (hq : S[q0]? = some (.inr (n, none))) (ht : tys[t0]? = some (cI, .int)) {i : Nat} (hi : i < n) (hn : n < 2 ^ 31) (hdg : decode cc pc = .ok (.iaload, 1))
    (kk : W p l e R s m args below meth c H locs cells slots Q (F0 m (pc + 1) ls (.int (sg q0 i) :: rest))) : W p l e R s m args below meth c H locs cells slots Q (F0 m pc ls (.int (nI i) :: .ref (ad q0) :: rest)) := by
  refine va_iald hx hb hK hP q0 t0 (f := sg q0) (gw_at hq) ht (vp_in_nI hi hn) hdg ?_
  rw [nI_clamp (Nat.lt_trans hi hn)]
  exact kk
theorem gw_ast (hx : p.tables.exec = Jvm.exec) (hb : c.code = cc) (hK : va_K D cl tys s) (hP : va_P D cl (gw cI cJ ad sg S) H) (hD : va_D A (gw cI cJ ad sg S)) (hS : va_S A H0 H locs) (q0 t0 : Nat) {n : Nat} (hq : S[q0]? = some (.inr (n, none))) (ht : tys[t0]? = some (cI, .int)) {i : Nat} {x : Int32} (hi : i < n) (hn : n < 2 ^ 31) (hdg : decode cc pc = .ok (.iastore, 1))
    (kk : ∀ (H1 : Heap) (locs1 : List Loc), va_P D cl (gw cI cJ ad (gw_u sg q0 (upd (sg q0) i x)) S) H1 → va_D A (gw cI cJ ad (gw_u sg q0 (upd (sg q0) i x)) S) → va_S A H0 H1 locs1 → W p l e R s m args below meth c H1 locs1 cells slots Q (F0 m (pc + 1) ls rest)) : W p l e R s m args below meth c H locs cells slots Q (F0 m pc ls (.int x :: .int (nI i) :: .ref (ad q0) :: rest)) := by
  have e1 : (gw cI cJ ad sg S).set q0 (ad q0, .inl (cI, n, .inl (upd (sg q0) i x))) = gw cI cJ ad (gw_u sg q0 (upd (sg q0) i x)) S := gw_set hq _
  refine va_iast hx hb hK hP hD hS q0 t0 (f := sg q0) (gw_at hq) ht (vp_in_nI hi hn) hdg ?_
  rw [nI_clamp (Nat.lt_trans hi hn)]
  intro H1 locs1 h1 h2 h3
  rw [e1] at h1 h2
  exact kk H1 locs1 h1 h2 h3
/-- a row out of an array of rows -/
theorem gw_aald (hx : p.tables.exec = Jvm.exec) (hb : c.code = cc) (hK : va_K D cl tys s) (hP : va_P D cl (gw cI cJ ad sg S) H) (q0 t0 : Nat) {n b : Nat} {ty : FieldType} (hq : S[q0]? = some (.inr (n, some (some b)))) (ht : tys[t0]? = some (cJ.1, ty)) (hty : ty.isReference = true) {i : Nat} (hi : i < n) (hn : n < 2 ^ 31) (hdg : decode cc pc = .ok (.aaload, 1))
    (kk : W p l e R s m args below meth c H locs cells slots Q (F0 m (pc + 1) ls (.ref (ad (b + i)) :: rest))) : W p l e R s m args below meth c H locs cells slots Q (F0 m pc ls (.int (nI i) :: .ref (ad q0) :: rest)) := by
  have hin : vp_in (nI i) n := vp_in_nI hi hn
  have hlt : (nI i).toNatClampNeg < n := by rw [nI_clamp (Nat.lt_trans hi hn)]; exact hi
  have hv : va_rf (gw_g ad b n (nI i).toNatClampNeg) = .ref (ad (b + i)) := by rw [nI_clamp (Nat.lt_trans hi hn)]; simp [gw_g, hi, va_rf]
  exact W.aald (v := .ref (ad (b + i))) (ty := ty) hx hb (hP q0 _ (gw_at hq)) ((hK.2 t0 _ ht).1 n (fun j => va_rf (gw_g ad b n j))) hty (fun q => by cases q) (by show ¬ (nI i < 0 ∨ (arrV _ _ _).slots.size ≤ _); rw [arrV_size]; exact hin) (by show (arrV _ _ _).slots[_]? = _; rw [arrV_read _ _ hlt, hv]) rfl rfl hdg kk
/-- System.arraycopy of n numbers from the start of one array to the start of another -/
theorem gw_cpy (hx : p.tables.exec = Jvm.exec) (hb : c.code = cc) (hml : c.maxLocals = ls.size) {own : String} {index : Nat} (hown : s.vm.findClass own = some m.cls) (hlink : (Cond.methodLink own index arraycopyName).before args s = true) (hnat : (Cond.native arraycopyName).before args s = true) (hstat : (Cond.static arraycopyName).before args s = true) (hini : (Cond.initialized "java/lang/System").before args s = true)
    (hK : va_K D cl tys s) (hP : va_P D cl (gw cI cJ ad sg S) H) (hD : va_D A (gw cI cJ ad sg S)) (hS : va_S A H0 H locs) (q0 q1 t0 : Nat) {n n0 n1 : Nat} (h0 : S[q0]? = some (.inr (n0, none))) (h1 : S[q1]? = some (.inr (n1, none))) (ht : tys[t0]? = some (cI, .int)) (hn : n < 2 ^ 31) (hn0 : n ≤ n0) (hn1 : n ≤ n1)
    (hframes : 1 ≤ R.frames) (hlocals : (rest.map fun v => v.category).sum + (nativeFrameWords "java/lang/System" "arraycopy" 5 + 11) ≤ R.locals) (hdg : decode cc pc = .ok (.invokestatic index, 3))
    (kk : ∀ (H1 : Heap) (locs1 : List Loc), va_P D cl (gw cI cJ ad (gw_u sg q1 (va_cpy (sg q0) (sg q1) 0 0 n)) S) H1 → va_D A (gw cI cJ ad (gw_u sg q1 (va_cpy (sg q0) (sg q1) 0 0 n)) S) → va_S A H0 H1 locs1 → W p l e R s m args below meth c H1 locs1 cells slots Q (F0 m (pc + 3) ls rest)) :
    W p l e R s m args below meth c H locs cells slots Q (F0 m pc ls (.int (nI n) :: .int (nI 0) :: .ref (ad q1) :: .int (nI 0) :: .ref (ad q0) :: rest)) := by
  have z0 : (nI 0).toNatClampNeg = 0 := nI_clamp (by decide)
  have zn : (nI n).toNatClampNeg = n := nI_clamp hn
  have e1 : (gw cI cJ ad sg S).set q1 (ad q1, .inl (cI, n1, .inl (va_cpy (sg q0) (sg q1) 0 0 n))) = gw cI cJ ad (gw_u sg q1 (va_cpy (sg q0) (sg q1) 0 0 n)) S := gw_set h1 _
  refine va_copyi hx hb hml hown hlink hnat hstat hini hK hP hD hS q0 q1 t0 t0 (f := sg q0) (g := sg q1) (ty := .int) (gw_at h0) (gw_at h1) ht ht rfl (nI_pos (by decide)) (nI_pos (by decide)) (nI_pos hn) (by rw [z0, zn]; omega) (by rw [z0, zn]; omega) (fun _ _ => rfl) hframes hlocals hdg ?_
  rw [z0, zn]
  intro H1 locs1 g1 g2 g3
  rw [e1] at g1 g2
  exact kk H1 locs1 g1 g2 g3
/-- a long that was an int, out of an array and into it -/
theorem gw_lald (hx : p.tables.exec = Jvm.exec) (hb : c.code = cc) (hK : va_K D cl tys s) (hP : va_P D cl (gw cI cJ ad sg S) H) (q0 t0 : Nat) {n : Nat} (hq : S[q0]? = some (.inr (n, some none))) (ht : tys[t0]? = some (cJ.2, .long)) {i : Nat} (hi : i < n) (hn : n < 2 ^ 31) (hdg : decode cc pc = .ok (.laload, 1))
    (kk : W p l e R s m args below meth c H locs cells slots Q (F0 m (pc + 1) ls (.long (sg q0 i).toInt64 :: rest))) : W p l e R s m args below meth c H locs cells slots Q (F0 m pc ls (.int (nI i) :: .ref (ad q0) :: rest)) := by
  refine va_lald hx hb hK hP q0 t0 (f := fun i => (sg q0 i).toInt64) (gw_at hq) ht (vp_in_nI hi hn) hdg ?_
  rw [nI_clamp (Nat.lt_trans hi hn)]
  exact kk
theorem gw_last (hx : p.tables.exec = Jvm.exec) (hb : c.code = cc) (hK : va_K D cl tys s) (hP : va_P D cl (gw cI cJ ad sg S) H) (hD : va_D A (gw cI cJ ad sg S)) (hS : va_S A H0 H locs) (q0 t0 : Nat) {n : Nat} (hq : S[q0]? = some (.inr (n, some none))) (ht : tys[t0]? = some (cJ.2, .long)) {i : Nat} {x : Int32} (hi : i < n) (hn : n < 2 ^ 31) (hdg : decode cc pc = .ok (.lastore, 1))
    (kk : ∀ (H1 : Heap) (locs1 : List Loc), va_P D cl (gw cI cJ ad (gw_u sg q0 (upd (sg q0) i x)) S) H1 → va_D A (gw cI cJ ad (gw_u sg q0 (upd (sg q0) i x)) S) → va_S A H0 H1 locs1 → W p l e R s m args below meth c H1 locs1 cells slots Q (F0 m (pc + 1) ls rest)) : W p l e R s m args below meth c H locs cells slots Q (F0 m pc ls (.long x.toInt64 :: .int (nI i) :: .ref (ad q0) :: rest)) := by
  have e0 : vp_updL (fun i => (sg q0 i).toInt64) i x.toInt64 = fun j => (upd (sg q0) i x j).toInt64 := by
    funext j
    unfold vp_updL upd
    split <;> rfl
  have e1 : (gw cI cJ ad sg S).set q0 (ad q0, .inl (cJ.2, n, .inr (.inl (fun j => (upd (sg q0) i x j).toInt64)))) = gw cI cJ ad (gw_u sg q0 (upd (sg q0) i x)) S := gw_set hq _
  refine va_last hx hb hK hP hD hS q0 t0 (f := fun i => (sg q0 i).toInt64) (gw_at hq) ht (vp_in_nI hi hn) hdg ?_
  rw [nI_clamp (Nat.lt_trans hi hn), e0]
  intro H1 locs1 h1 h2 h3
  rw [e1] at h1 h2
  exact kk H1 locs1 h1 h2 h3
end GWB
/-! a callee's world within the caller's: its cell j is the caller's cell 'pl j' -/
def gw_p (pl : List Nat) (j : Nat) : Nat := pl.getD j 0
def gw_ok (pl : List Nat) : gw_K → gw_K → Bool
  | .inl q, .inl q' => q.1 == q'.1 && q'.2 == q.2.map (fun o => o.map (gw_p pl))
  | .inr (n, none), .inr (n', none) => n == n'
  | .inr (n, some (some b)), .inr (n', some (some b')) => n == n' && (List.range n).all (fun i => gw_p pl (b + i) == b' + i)
  | .inr (n, some none), .inr (n', some none) => n == n'
  | _, _ => false
def gw_has (pl : List Nat) (S : List gw_K) (j : Nat) : gw_K → Bool := fun q => match S[gw_p pl j]? with
  | some q' => gw_ok pl q q'
  | none => false
def gw_em (pl : List Nat) (S : List gw_K) : Nat → List gw_K → Bool
  | _, [] => true
  | j, q :: r => gw_has pl S j q && gw_em pl S (j + 1) r
/-- S2 lies in S by the places pl -/
def gw_in (pl : List Nat) (S S2 : List gw_K) : Bool := pl.length == S2.length && va_nd pl && gw_em pl S 0 S2
section GWC
variable {cI : ClassId} {cJ : ClassId × ClassId} {ad : Nat → Nat} {sg : Nat → Nat → Int32} {S S2 : List gw_K} {pl : List Nat}
theorem gw_emat : ∀ (S2 : List gw_K) (k j : Nat) (q : gw_K), gw_em pl S k S2 = true → S2[j]? = some q → ∃ q', S[gw_p pl (k + j)]? = some q' ∧ gw_ok pl q q' = true
  | [], k, j, q, _, h => by simp at h
  | o :: r, k, 0, q, he, h => by
    simp only [gw_em, Bool.and_eq_true] at he
    have e1 : o = q := by simpa using h
    subst e1
    have h1 := he.1
    unfold gw_has at h1
    cases hs : S[gw_p pl k]? with
    | none => rw [hs] at h1; cases h1
    | some q' => rw [hs] at h1; exact ⟨q', by simpa using hs, h1⟩
  | o :: r, k, j + 1, q, he, h => by
    simp only [gw_em, Bool.and_eq_true] at he
    obtain ⟨q', h1, h2⟩ := gw_emat r (k + 1) j q he.2 (by simpa using h)
    exact ⟨q', by rw [show k + (j + 1) = k + 1 + j by omega]; exact h1, h2⟩
theorem gw_fren (f : Nat → Int32) : ∀ (fs : List (Option Nat)) (j : Nat), gw_f ad f j (fs.map (fun o => o.map (gw_p pl))) = gw_f (fun j => ad (gw_p pl j)) f j fs
  | [], j => rfl
  | o :: r, j => by
    show gw_v ad f j (o.map (gw_p pl)) :: gw_f ad f (j + 1) (r.map (fun o => o.map (gw_p pl))) = gw_v (fun j => ad (gw_p pl j)) f j o :: gw_f (fun j => ad (gw_p pl j)) f (j + 1) r
    rw [gw_fren f r (j + 1)]
    cases o <;> rfl
theorem gw_cren (f : Nat → Int32) {q q' : gw_K} (h : gw_ok pl q q' = true) : gw_c cI cJ ad f q' = gw_c cI cJ (fun j => ad (gw_p pl j)) f q := by
  rcases q with ⟨ci, fs⟩ | ⟨n, _ | _ | b⟩ <;> rcases q' with ⟨ci', fs'⟩ | ⟨n', _ | _ | b'⟩ <;> simp only [gw_ok, Bool.and_eq_true, beq_iff_eq] at h <;> (try cases h)
  · rename_i h1 h2
    subst h1; subst h2
    exact congrArg (fun z => Sum.inr (ci, z)) (gw_fren f fs 0)
  · rfl
  · rfl
  · rename_i h1 h2
    subst h1
    have e1 : gw_g ad b' n = gw_g (fun j => ad (gw_p pl j)) b n := by
      funext i
      unfold gw_g
      have h4 : (List.range n).map (fun j => ad (b' + j)) = (List.range n).map (fun j => ad (gw_p pl (b + j))) := List.map_congr_left (fun j hj => by
        have h3 := List.all_eq_true.mp h2 j hj
        simp only [beq_iff_eq] at h3
        rw [h3])
      rw [h4]
    show (Sum.inl (cJ.1, n, .inr (.inr (.inr (.inr (gw_g ad b' n))))) : va_E) = Sum.inl (cJ.1, n, .inr (.inr (.inr (.inr (gw_g (fun j => ad (gw_p pl j)) b n)))))
    rw [e1]
theorem gw_pat {j : Nat} (h : j < pl.length) : pl[j]? = some (gw_p pl j) := by
  unfold gw_p
  rw [List.getElem?_eq_getElem h, List.getD_eq_getElem?_getD, List.getElem?_eq_getElem h]
  rfl
/-- the callee's cells are those of the caller at the places pl -/
theorem gw_pick (h : gw_in pl S S2 = true) : pl.map (fun i => (gw cI cJ ad sg S)[i]?) = (gw cI cJ (fun j => ad (gw_p pl j)) (fun j => sg (gw_p pl j)) S2).map some := by
  simp only [gw_in, Bool.and_eq_true, beq_iff_eq] at h
  obtain ⟨⟨hl, -⟩, he⟩ := h
  apply List.ext_getElem?
  intro j
  rw [List.getElem?_map, List.getElem?_map]
  by_cases hj : j < pl.length
  · obtain ⟨q, hq⟩ : ∃ q, S2[j]? = some q := ⟨S2[j]'(by omega), List.getElem?_eq_getElem (by omega)⟩
    obtain ⟨q', h1, h2⟩ := gw_emat S2 0 j q he hq
    rw [Nat.zero_add] at h1
    rw [gw_pat hj, gw_at hq]
    show some ((gw cI cJ ad sg S)[gw_p pl j]?) = some (some _)
    rw [gw_at h1, gw_cren _ h2]
  · have e1 : pl[j]? = none := List.getElem?_eq_none (by omega)
    have e2 : (gw cI cJ (fun j => ad (gw_p pl j)) (fun j => sg (gw_p pl j)) S2)[j]? = none := by
      apply List.getElem?_eq_none
      show (gw_w _ _ _ _ 0 S2).length ≤ j
      rw [gw_len]; omega
    rw [e1, e2]
    rfl
/-- the callee's world holds -/
theorem gw_sub {D : va_G} {cl : List vw_C} {H : Heap} (h : gw_in pl S S2 = true) (hP : va_P D cl (gw cI cJ ad sg S) H) : va_P D cl (gw cI cJ (fun j => ad (gw_p pl j)) (fun j => sg (gw_p pl j)) S2) H := by
  intro k x hx
  have h1 : (pl.map (fun i => (gw cI cJ ad sg S)[i]?))[k]? = some (some x) := by rw [gw_pick h, List.getElem?_map, hx]; rfl
  rw [List.getElem?_map] at h1
  cases hi : pl[k]? with
  | none => rw [hi] at h1; cases h1
  | some i => rw [hi] at h1; exact hP i x (Option.some.inj h1)
/-- behind a call: the callee's numbers at its places, the others as they were -/
theorem gw_back {D : va_G} {cl : List vw_C} {A : Nat → Prop} {H H1 : Heap} {sg1 : Nat → Nat → Int32} (h : gw_in pl S S2 = true) (hP : va_P D cl (gw cI cJ ad sg S) H) (hD : va_D A (gw cI cJ ad sg S))
    (hk : ∀ q : Nat, q < H.size → ¬ va_A (gw cI cJ (fun j => ad (gw_p pl j)) (fun j => sg (gw_p pl j)) S2) H.size q → H1[q]? = H[q]?) (hP1 : va_P D cl (gw cI cJ (fun j => ad (gw_p pl j)) sg1 S2) H1) :
    ∃ sg2 : Nat → Nat → Int32, (∀ j, j < S2.length → sg2 (gw_p pl j) = sg1 j) ∧ (∀ k, k ∉ pl → sg2 k = sg k) ∧ va_P D cl (gw cI cJ ad sg2 S) H1 ∧ va_D A (gw cI cJ ad sg2 S) := by
  have h0 := h
  simp only [gw_in, Bool.and_eq_true, beq_iff_eq] at h
  obtain ⟨⟨hl, hnd⟩, he⟩ := h
  refine ⟨fun k => if k ∈ pl then sg1 (pl.idxOf k) else sg k, ?_, ?_, ?_, gw_D _ hD⟩
  · intro j hj
    have h1 := gw_pat (pl := pl) (j := j) (by omega)
    have h2 : gw_p pl j ∈ pl := List.mem_of_getElem? h1
    have h3 : pl[pl.idxOf (gw_p pl j)]? = some (gw_p pl j) := by
      have h4 := List.idxOf_lt_length_of_mem h2
      rw [List.getElem?_eq_getElem h4, List.getElem_idxOf h4]
    show (if gw_p pl j ∈ pl then _ else _) = _
    rw [if_pos h2, va_nd_inj pl hnd _ j _ h3 h1]
  · intro k hk2
    show (if k ∈ pl then _ else _) = _
    rw [if_neg hk2]
  · intro k x hx
    obtain ⟨q, hq, rfl⟩ := gw_of hx
    by_cases hm : k ∈ pl
    · obtain ⟨j, hj⟩ := List.getElem?_of_mem hm
      have hj2 : j < pl.length := (List.getElem?_eq_some_iff.mp hj).1
      have hjk : gw_p pl j = k := Option.some.inj ((gw_pat hj2).symm.trans hj)
      obtain ⟨q2, hq2⟩ : ∃ q2, S2[j]? = some q2 := ⟨S2[j]'(by omega), List.getElem?_eq_getElem (by omega)⟩
      obtain ⟨q', h1, h2⟩ := gw_emat S2 0 j q2 he hq2
      rw [Nat.zero_add, hjk, hq] at h1
      cases Option.some.inj h1
      have h3 : pl[pl.idxOf k]? = some k := by
        have h4 := List.idxOf_lt_length_of_mem hm
        rw [List.getElem?_eq_getElem h4, List.getElem_idxOf h4]
      have h5 := va_nd_inj pl hnd _ j _ h3 hj
      have h6 := hP1 j _ (gw_at hq2)
      rw [← gw_cren (sg1 j) h2] at h6
      show va_at D cl (ad k, gw_c cI cJ ad (if k ∈ pl then sg1 (pl.idxOf k) else sg k) q) H1
      rw [if_pos hm, h5, ← hjk]
      rw [hjk] at h6 ⊢
      simpa [hjk] using h6
    · show va_at D cl (ad k, gw_c cI cJ ad (if k ∈ pl then sg1 (pl.idxOf k) else sg k) q) H1
      rw [if_neg hm]
      have h1 := hP k _ (gw_at hq)
      refine h1.kept (hk _ h1.lt (fun hA => ?_))
      rcases hA with ⟨j, e, hj⟩ | hj
      · obtain ⟨q2, hq2, e2⟩ := gw_of hj
        have e3 : ad k = ad (gw_p pl j) := congrArg Prod.fst e2
        obtain ⟨q', h2, -⟩ := gw_emat S2 0 j q2 he hq2
        rw [Nat.zero_add] at h2
        have e4 := hD.1 k (gw_p pl j) _ _ (gw_at hq) (gw_at h2) e3
        have hj2 : j < pl.length := by rw [hl]; exact (List.getElem?_eq_some_iff.mp hq2).1
        exact hm (by rw [e4]; exact List.mem_of_getElem? (gw_pat hj2))
      · have := h1.lt
        exact absurd hj (Nat.not_le.mpr this)
end GWC
