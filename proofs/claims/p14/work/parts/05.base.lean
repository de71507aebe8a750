/-! Numbers in ranges, the codes that a first call gives, the fresh state. -/
abbrev tyS (cI : ClassId) (cJ : ClassId × ClassId) : List (ClassId × FieldType) := [(cI, .int), (cJ.1, .array .int), (cJ.2, .long)]
theorem i_nlt {a b : Int32} : ¬ a < b ↔ b ≤ a := by rw [Int32.lt_iff_toInt_lt, Int32.le_iff_toInt_le]; omega
theorem i_nle {a b : Int32} : ¬ a ≤ b ↔ b < a := by rw [Int32.lt_iff_toInt_lt, Int32.le_iff_toInt_le]; omega
def inR (v lo hi : Int32) : Prop := ¬ v < lo ∧ ¬ hi < v
def inX (i n : Int32) : Prop := ¬ i < 0 ∧ i < n
theorem ix_of {a : Int32} {n : Nat} (hn : n + 1 < 2 ^ 31) : inX a (nI (n + 1)) ↔ inR a (nI 0) (nI n) := by
  unfold inX inR
  rw [nI_0]
  rw [Int32.lt_iff_toInt_lt, Int32.lt_iff_toInt_lt, Int32.lt_iff_toInt_lt, nI_toInt hn, nI_toInt (by omega : n < 2 ^ 31)]
  omega
theorem ix4 {a : Int32} : inX a (nI 4) ↔ inR a (nI 0) (nI 3) := ix_of (by decide)
theorem ix3 {a : Int32} : inX a (nI 3) ↔ inR a (nI 0) (nI 2) := ix_of (by decide)
theorem ix6 {a : Int32} : inX a (nI 6) ↔ inR a (nI 0) (nI 5) := ix_of (by decide)
theorem ix0 {a : Int32} : ¬ inX a (nI 0) := fun h => h.1 h.2
theorem in_nat {a : Int32} {n : Nat} (hn : n < 2 ^ 31) (h : inR a (nI 0) (nI n)) : ∃ j : Nat, j < n + 1 ∧ a = nI j := by
  obtain ⟨j, h1, h2⟩ := nI_of2 (x := a) (M := nI n) (n := n) (nI_toInt hn) (by have := h.1; rwa [nI_0] at this) (i_nlt.mp h.2)
  exact ⟨j, by omega, h2⟩
theorem inof3 {a : Int32} (h : inR a (nI 0) (nI 3)) : ∃ j : Nat, j < 4 ∧ a = nI j := in_nat (by decide) h
theorem inof5 {a : Int32} (h : inR a (nI 0) (nI 5)) : ∃ j : Nat, j < 6 ∧ a = nI j := in_nat (by decide) h
theorem ixof4 {a : Int32} (h : inX a (nI 4)) : ∃ j : Nat, j < 4 ∧ a = nI j := inof3 (ix4.mp h)
theorem ixof6 {a : Int32} (h : inX a (nI 6)) : ∃ j : Nat, j < 6 ∧ a = nI j := inof5 (ix6.mp h)
theorem ixof3 {a : Int32} (h : inX a (nI 3)) : ∃ j : Nat, j < 3 ∧ a = nI j := in_nat (n := 2) (by decide) (ix3.mp h)
theorem ixofN {a : Int32} {N : Nat} (hN : N ≤ 6) (h : inX a (nI N)) : ∃ j : Nat, j < N ∧ a = nI j := by
  cases N with
  | zero => exact absurd h ix0
  | succ n => exact in_nat (by omega) ((ix_of (by omega)).mp h)
theorem nI_ne6 {N : Nat} (h : N < 6) : ¬ nI N = nI 6 := fun q => by
  have := (nI_eq (a := N) (b := 6) (by omega) (by decide)).mp q
  omega
theorem nI_sub {j : Nat} (h : 2 ≤ j) : nI j - nI 2 = nI (j - 2) := by
  obtain ⟨k, rfl⟩ : ∃ k, j = k + 2 := ⟨j - 2, by omega⟩
  rw [show k + 2 - 2 = k by omega, ← nI_add, Int32.add_sub_cancel]
theorem mill_off {j : Nat} (h1 : j < 6) (h2 : 2 ≤ j) : Op.lookupswitch.offset [(0, 25), (1, 30)] 35 (nI j).toInt = 35 := by
  rw [nI_toInt (by omega)]
  rcases (show j = 2 ∨ j = 3 ∨ j = 4 ∨ j = 5 by omega) with rfl | rfl | rfl | rfl <;> rfl
noncomputable def kif (c : Prop) (a b : Int32) : Int32 := @ite Int32 c (Classical.propDecidable c) a b
noncomputable def kLogs (a b c : Int32) : Int32 := kif (inR a (nI 0) (nI 3)) (kif (inR b (nI 0) (nI 1000) ∧ inR c (nI 0) (nI 100000)) (nI 0) (nI 2)) (nI 1)
noncomputable def kPattern (P a b : Int32) : Int32 := kif (inR a (nI 0) (nI 3)) (kif (inR b (nI 1) (nI 480)) (kif (P = nI 6) (nI 3) (nI 0)) (nI 2)) (nI 1)
noncomputable def kGives (P a b c : Int32) : Int32 := kif (inX a P ∧ inR b (nI 0) (nI 3)) (kif (inR c (nI 0) (nI 9)) (nI 0) (nI 2)) (nI 1)
noncomputable def kOrder (a b c d : Int32) : Int32 := kif (inR a (nI 0) (nI 3)) (kif (inR b (nI 0) (nI 1000) ∧ inR c b (nI 1000) ∧ inR d (nI 0) (nI 1000)) (nI 0) (nI 2)) (nI 1)
noncomputable def kHours (a b : Int32) : Int32 := kif (inR a (nI 0) (nI 1440) ∧ inR b (nI 0) (nI 1440)) (nI 0) (nI 1)
noncomputable def kRun (a : Int32) : Int32 := kif (inR a (nI 0) (nI 20000)) (nI 0) (nI 1)
noncomputable def kSearch (a : Int32) : Int32 := kif (inR a (nI 0) (nI 3)) (nI 2) (nI 1)
noncomputable def kBest (a : Int32) : Int32 := kif (inR a (nI 0) (nI 2)) (nI 2) (nI 1)
noncomputable def kMade (a : Int32) : Int32 := kif (inR a (nI 0) (nI 3)) (nI 2) (nI 1)
noncomputable def kMill (a : Int32) : Int32 := kif (inR a (nI 0) (nI 5)) (nI 0) (nI 1)
noncomputable def kCost (a b : Int32) : Int32 := kif (inR a (nI 0) (nI 3)) (kif (inR b (nI 0) (nI 20000)) (nI 0) (nI 2)) (nI 1)
def fr (k j : Nat) : Int32 := if k = 1 then (if j = 10 then nI 480 else nI 0) else nI 0
def fm (k j : Nat) : Int32 := if k = 0 then (if j = 11 then nI 480 else nI 0) else nI 0
/-- a search's world of zeros; the reference's -/
def ZSS (sg : Nat → Nat → Int32) : Prop := (∀ k : Nat, k < 24 → k ≠ 0 → k ≠ 8 → ∀ i : Nat, sg k i = nI 0) ∧ sg 8 9 = nI 0 ∧ sg 0 5 = nI 0
theorem ZSS.wa {sg : Nat → Nat → Int32} (h : ZSS sg) (k : Nat) (h0 : k ≠ 0) (h8 : k ≠ 8) (i : Nat) : ZSS (gw_u sg k (upd (sg k) i (nI 0))) := by
  refine ⟨fun k' a1 a2 a3 j => ?_, ?_, ?_⟩
  · by_cases e : k' = k
    · subst e
      rw [gw_u_s]
      unfold upd
      split
      · rfl
      · exact h.1 k' a1 a2 a3 j
    · rw [gw_u_n _ _ e]
      exact h.1 k' a1 a2 a3 j
  · rw [gw_u_n _ _ (Ne.symm h8)]; exact h.2.1
  · rw [gw_u_n _ _ (Ne.symm h0)]; exact h.2.2
theorem ZSS.wf {sg : Nat → Nat → Int32} (h : ZSS sg) {j : Nat} (hj : j ≠ 5) (x : Int32) : ZSS (gw_u sg 0 (upd (sg 0) j x)) := by
  refine ⟨fun k' a1 a2 a3 i => ?_, ?_, ?_⟩
  · rw [gw_u_n _ _ a2]; exact h.1 k' a1 a2 a3 i
  · rw [gw_u_n _ _ (by decide)]; exact h.2.1
  · rw [gw_u_s]
    unfold upd
    rw [if_neg (Ne.symm hj)]
    exact h.2.2
theorem ZSS.wc {sg : Nat → Nat → Int32} (h : ZSS sg) : ZSS (gw_u sg 0 (upd (sg 0) 5 (nI 0))) := by
  refine ⟨fun k' a1 a2 a3 i => ?_, ?_, ?_⟩
  · rw [gw_u_n _ _ a2]; exact h.1 k' a1 a2 a3 i
  · rw [gw_u_n _ _ (by decide)]; exact h.2.1
  · rw [gw_u_s]
    unfold upd
    rw [if_pos rfl]
theorem ZSS.wcp {sg : Nat → Nat → Int32} (h : ZSS sg) (k d n : Nat) (hk : k < 24) (hk0 : k ≠ 0) (hk8 : k ≠ 8) (hd : d < 24) (hd0 : d ≠ 0) (hd8 : d ≠ 8) : ZSS (gw_u sg d (va_cpy (sg k) (sg d) 0 0 n)) := by
  refine ⟨fun k' a1 a2 a3 i => ?_, ?_, ?_⟩
  · by_cases e : k' = d
    · subst e
      rw [gw_u_s]
      unfold va_cpy
      split
      · exact h.1 k hk hk0 hk8 _
      · exact h.1 k' a1 a2 a3 i
    · rw [gw_u_n _ _ e]
      exact h.1 k' a1 a2 a3 i
  · rw [gw_u_n _ _ (Ne.symm hd8)]; exact h.2.1
  · rw [gw_u_n _ _ (Ne.symm hd0)]; exact h.2.2
def ZSM (sg : Nat → Nat → Int32) : Prop := (∀ k : Nat, k < 13 → k ≠ 0 → ∀ i : Nat, sg k i = nI 0) ∧ sg 0 3 = nI 0
theorem ZSM.wa {sg : Nat → Nat → Int32} (h : ZSM sg) (k : Nat) (h0 : k ≠ 0) (i : Nat) : ZSM (gw_u sg k (upd (sg k) i (nI 0))) := by
  refine ⟨fun k' a1 a2 j => ?_, ?_⟩
  · by_cases e : k' = k
    · subst e
      rw [gw_u_s]
      unfold upd
      split
      · rfl
      · exact h.1 k' a1 a2 j
    · rw [gw_u_n _ _ e]
      exact h.1 k' a1 a2 j
  · rw [gw_u_n _ _ (Ne.symm h0)]; exact h.2
theorem ZSM.wf {sg : Nat → Nat → Int32} (h : ZSM sg) {j : Nat} (hj : j ≠ 3) (x : Int32) : ZSM (gw_u sg 0 (upd (sg 0) j x)) := by
  refine ⟨fun k' a1 a2 i => ?_, ?_⟩
  · rw [gw_u_n _ _ a2]; exact h.1 k' a1 a2 i
  · rw [gw_u_s]
    unfold upd
    rw [if_neg (Ne.symm hj)]
    exact h.2
theorem zm_fresh {sg : Nat → Nat → Int32} (h : ∀ k j : Nat, k < 13 → sg k j = fm k j) : ZSM sg := by
  refine ⟨fun k h1 h2 i => ?_, ?_⟩
  · rw [h k i h1]; simp [fm, h2]
  · rw [h 0 _ (by decide)]; rfl
theorem zs_of {sg : Nat → Nat → Int32} (pl : List Nat) (hpl : ∀ k, k < 24 → gw_p pl k < 33 ∧ (k ≠ 8 → gw_p pl k ≠ 1)) (h8 : gw_p pl 8 = 1) (h0 : gw_p pl 0 ≠ 1) (h : ∀ k j : Nat, k < 33 → sg k j = fr k j) : ZSS (fun j => sg (gw_p pl j)) := by
  refine ⟨fun k h1 h2 h3 i => ?_, ?_, ?_⟩
  · show sg (gw_p pl k) i = _
    rw [h _ i (hpl k h1).1]; simp [fr, (hpl k h1).2 h3]
  · show sg (gw_p pl 8) _ = _
    rw [h8, h 1 _ (by decide)]; rfl
  · show sg (gw_p pl 0) _ = _
    rw [h _ _ (hpl 0 (by decide)).1]; simp [fr, h0]
theorem zs_latest {sg : Nat → Nat → Int32} (h : ∀ k j : Nat, k < 33 → sg k j = fr k j) : ZSS (fun j => sg (gw_p [2, 19, 20, 21, 22, 23, 24, 25, 1, 4, 5, 6, 7, 8, 9, 10, 11, 12, 13, 14, 15, 16, 17, 18] j)) := zs_of _ (by decide) (by decide) (by decide) h
theorem zs_trial {sg : Nat → Nat → Int32} (h : ∀ k j : Nat, k < 33 → sg k j = fr k j) : ZSS (fun j => sg (gw_p [3, 26, 27, 28, 29, 30, 31, 32, 1, 4, 5, 6, 7, 8, 9, 10, 11, 12, 13, 14, 15, 16, 17, 18] j)) := zs_of _ (by decide) (by decide) (by decide) h
theorem zs_back {pl : List Nat} {n : Nat} {sg1 sg2 : Nat → Nat → Int32} (h1 : ∀ j, j < n → sg2 (gw_p pl j) = sg1 j) (hn : n = 24) (h : ZSS sg1) : ZSS (fun j => sg2 (gw_p pl j)) := by
  subst hn
  refine ⟨fun k a1 a2 a3 i => ?_, ?_, ?_⟩
  · show sg2 (gw_p pl k) i = _
    rw [h1 k a1]; exact h.1 k a1 a2 a3 i
  · show sg2 (gw_p pl 8) _ = _
    rw [h1 8 (by decide)]; exact h.2.1
  · show sg2 (gw_p pl 0) _ = _
    rw [h1 0 (by decide)]; exact h.2.2
theorem gw_same {pl : List Nat} {n : Nat} {sg sg1 sg2 : Nat → Nat → Int32} (hs : sg1 = fun j => sg (gw_p pl j)) (h1 : ∀ j, j < n → sg2 (gw_p pl j) = sg1 j) (h2 : ∀ k, k ∉ pl → sg2 k = sg k) (hn : pl.length = n) : sg2 = sg := by
  funext k
  by_cases hk : k ∈ pl
  · obtain ⟨j, hj⟩ := List.getElem?_of_mem hk
    have hj2 : j < pl.length := (List.getElem?_eq_some_iff.mp hj).1
    have e : gw_p pl j = k := Option.some.inj ((gw_pat hj2).symm.trans hj)
    rw [← e, h1 j (by omega), hs]
  · exact h2 k hk
theorem wr_at {sg : Nat → Nat → Int32} (h : ∀ k j : Nat, k < 33 → sg k j = fr k j) (k j : Nat) (hk : k < 33) : (fun j => sg (gw_p [0, 1, 2, 3, 4, 5, 6, 7, 8, 9, 10, 11, 12, 13, 14, 15, 16, 17, 18, 19, 20, 21, 22, 23, 24, 25, 26, 27, 28, 29, 30, 31, 32] j)) k j = fr k j := by
  have e : gw_p [0, 1, 2, 3, 4, 5, 6, 7, 8, 9, 10, 11, 12, 13, 14, 15, 16, 17, 18, 19, 20, 21, 22, 23, 24, 25, 26, 27, 28, 29, 30, 31, 32] k = k := by revert k; decide
  show sg (gw_p [0, 1, 2, 3, 4, 5, 6, 7, 8, 9, 10, 11, 12, 13, 14, 15, 16, 17, 18, 19, 20, 21, 22, 23, 24, 25, 26, 27, 28, 29, 30, 31, 32] k) j = _
  rw [e]
  exact h k j hk
def SS : List gw_K := [.inl (0, [some 8, some 1, some 2, some 3, none, none, some 4, some 5, some 6, none, none, none, none, none, some 7]), .inr (6, none), .inr (4, none), .inr (4, none), .inr (4, none), .inr (4, none), .inr (4, none), .inr (6, none), .inl (1, [some 9, some 10, some 11, some 12, some 13, some 14, some 15, some 16, some 17, none, none, none]), .inr (4, none), .inr (4, none), .inr (6, none), .inr (6, none), .inr (6, some (some 18)), .inr (4, none), .inr (4, none), .inr (4, none), .inr (4, none), .inr (4, none), .inr (4, none), .inr (4, none), .inr (4, none), .inr (4, none), .inr (4, none)]
def SC : List gw_K := [.inl (2, [some 1, some 2, some 3, none, none, none]), .inl (1, [some 4, some 5, some 6, some 7, some 8, some 9, some 10, some 11, some 12, none, none, none]), .inl (0, [some 1, some 19, some 20, some 21, none, none, some 22, some 23, some 24, none, none, none, none, none, some 25]), .inl (0, [some 1, some 26, some 27, some 28, none, none, some 29, some 30, some 31, none, none, none, none, none, some 32]), .inr (4, none), .inr (4, none), .inr (6, none), .inr (6, none), .inr (6, some (some 13)), .inr (4, none), .inr (4, none), .inr (4, none), .inr (4, none), .inr (4, none), .inr (4, none), .inr (4, none), .inr (4, none), .inr (4, none), .inr (4, none), .inr (6, none), .inr (4, none), .inr (4, none), .inr (4, none), .inr (4, none), .inr (4, none), .inr (6, none), .inr (6, none), .inr (4, none), .inr (4, none), .inr (4, none), .inr (4, none), .inr (4, none), .inr (6, none)]
def SW : List gw_K := [.inl (2, [some 1, some 2, some 3, none, none, none]), .inl (1, [some 4, some 5, some 6, some 7, some 8, some 9, some 10, some 11, some 12, none, none, none]), .inl (0, [some 1, some 19, some 20, some 21, none, none, some 22, some 23, some 24, none, none, none, none, none, some 25]), .inl (0, [some 1, some 26, some 27, some 28, none, none, some 29, some 30, some 31, none, none, none, none, none, some 32]), .inr (4, none), .inr (4, none), .inr (6, none), .inr (6, none), .inr (6, some (some 13)), .inr (4, none), .inr (4, none), .inr (4, none), .inr (4, none), .inr (4, none), .inr (4, none), .inr (4, none), .inr (4, none), .inr (4, none), .inr (4, none), .inr (6, none), .inr (4, none), .inr (4, none), .inr (4, none), .inr (4, none), .inr (4, none), .inr (6, none), .inr (6, none), .inr (4, none), .inr (4, none), .inr (4, none), .inr (4, none), .inr (4, none), .inr (6, none), .inr (1, some none)]
def SM : List gw_K := [.inl (3, [none, some 1, some 2, none, some 3, some 4, some 5, some 6, some 7, some 8, some 9, none, none, none, none, none, none, none, none, some 10, none, some 11, some 12, none, none, none, none]), .inr (4, none), .inr (4, none), .inr (6, none), .inr (6, none), .inr (24, none), .inr (4, none), .inr (4, none), .inr (4, none), .inr (4, none), .inr (6, none), .inr (6, none), .inr (6, none)]
def SE : List gw_K := []
def SL : List gw_K := [.inl (2, [some 1, some 2, some 3, none, none, none]), .inl (1, [some 4, some 5, some 6, some 7, some 8, some 9, some 10, some 11, some 12, none, none, none]), .inl (0, [some 1, some 19, some 20, some 21, none, none, some 22, some 23, some 24, none, none, none, none, none, some 25]), .inl (0, [some 1, some 26, some 27, some 28, none, none, some 29, some 30, some 31, none, none, none, none, none, some 32]), .inr (4, none), .inr (4, none), .inr (6, none), .inr (6, none), .inr (6, some (some 13)), .inr (4, none), .inr (4, none), .inr (4, none), .inr (4, none), .inr (4, none), .inr (4, none), .inr (4, none), .inr (4, none), .inr (4, none), .inr (4, none), .inr (6, none), .inr (4, none), .inr (4, none), .inr (4, none), .inr (4, none), .inr (4, none), .inr (6, none), .inr (6, none), .inr (4, none), .inr (4, none), .inr (4, none), .inr (4, none), .inr (4, none), .inr (6, none), .inr (1, some none), .inl (3, [none, some 35, some 36, none, some 37, some 38, some 39, some 40, some 41, some 42, some 43, none, none, none, none, none, none, none, none, some 44, none, some 45, some 46, none, none, none, none]), .inr (4, none), .inr (4, none), .inr (6, none), .inr (6, none), .inr (24, none), .inr (4, none), .inr (4, none), .inr (4, none), .inr (4, none), .inr (6, none), .inr (6, none), .inr (6, none)]
def SY : List gw_K := [.inl (1, [some 1, some 2, some 3, some 4, some 5, some 6, some 7, some 8, some 9, none, none, none]), .inr (4, none), .inr (4, none), .inr (6, none), .inr (6, none), .inr (6, some (some 10)), .inr (4, none), .inr (4, none), .inr (4, none), .inr (4, none), .inr (4, none), .inr (4, none), .inr (4, none), .inr (4, none), .inr (4, none), .inr (4, none), .inr (6, none)]
def SYD : List gw_K := [.inl (1, [some 1, some 2, some 3, some 4, some 5, some 6, some 7, some 8, some 9, none, none, none]), .inr (4, none), .inr (4, none), .inr (6, none), .inr (6, none), .inr (6, some (some 10)), .inr (4, none), .inr (4, none), .inr (4, none), .inr (4, none), .inr (4, none), .inr (4, none), .inr (4, none), .inr (4, none), .inr (4, none), .inr (4, none)]
def SSD : List gw_K := [.inl (0, [some 8, some 1, some 2, some 3, none, none, some 4, some 5, some 6, none, none, none, none, none, some 7]), .inr (6, none), .inr (4, none), .inr (4, none), .inr (4, none), .inr (4, none), .inr (4, none), .inr (6, none)]
def frY (k j : Nat) : Int32 := if k = 0 then (if j = 10 then nI 480 else nI 0) else nI 0
def frZ (_ _ : Nat) : Int32 := nI 0
def gxT : List (String × Nat × String) := [(RX2, 145, "there is no such number"), (RX2, 150, "a number is out of its range"), (RX2, 153, "there is no best plan"), (RX2, 53, "there is no room for a pattern more"), (RX2, 96, "there was no search since something was told")]
def gxN : List Cond := [.castable "java/lang/IllegalArgumentException" "java/lang/IllegalArgumentException", .castable "java/lang/IllegalStateException" "java/lang/IllegalStateException", .castable "java/lang/IndexOutOfBoundsException" "java/lang/IndexOutOfBoundsException", .declares ⟨"java/lang/Exception", "<init>", "(Ljava/lang/String;)V"⟩, .declares ⟨"java/lang/RuntimeException", "<init>", "(Ljava/lang/String;)V"⟩, .declares ⟨"java/lang/Throwable", "<init>", "(Ljava/lang/String;)V"⟩, .fieldLinkNest RX0 100 RX1 "classOf" "[I" RX2, .fieldLinkNest RX0 107 RX1 "minutesALog" "[I" RX2, .fieldLinkNest RX0 110 RX1 "change" "I" RX2, .fieldLinkNest RX0 113 RX1 "centsALog" "[I" RX2, .fieldLinkNest RX0 116 RX1 "boardsALog" "[[I" RX2, .fieldLinkNest RX0 61 RX1 "logsLeft" "[I" RX2, .fieldLinkNest RX0 66 RX1 "stock" "[I" RX2, .fieldLinkNest RX0 69 RX1 "minutesADay" "I" RX2, .fieldLinkNest RX0 78 RX1 "least" "[I" RX2, .fieldLinkNest RX0 79 RX1 "most" "[I" RX2, .fieldLinkNest RX0 80 RX1 "worth" "[I" RX2, .fieldLinkNest RX0 81 RX1 "patterns" "I" RX2, .fieldLinkNest RX2 109 RX0 "bestCounts" "[I" RX2, .fieldLinkNest RX2 112 RX0 "bestGain" "I" RX2, .fieldLinkNest RX2 136 RX1 "stock" "[I" RX2, .fieldLinkNest RX2 37 RX1 "logsLeft" "[I" RX2, .fieldLinkNest RX2 41 RX1 "centsALog" "[I" RX2, .fieldLinkNest RX2 47 RX1 "patterns" "I" RX2, .fieldLinkNest RX2 58 RX1 "classOf" "[I" RX2, .fieldLinkNest RX2 61 RX1 "minutesALog" "[I" RX2, .fieldLinkNest RX2 64 RX1 "boardsALog" "[[I" RX2, .fieldLinkNest RX2 68 RX1 "least" "[I" RX2, .fieldLinkNest RX2 71 RX1 "most" "[I" RX2, .fieldLinkNest RX2 74 RX1 "worth" "[I" RX2, .fieldLinkNest RX2 77 RX1 "minutesADay" "I" RX2, .fieldLinkNest RX2 80 RX1 "change" "I" RX2, .fieldLinkNest RX2 90 RX0 "spent" "Z" RX2, .fieldLinkNest RX2 93 RX0 "found" "Z" RX2, .fieldLinkNest RX2 98 RX0 "steps" "I" RX2, .methodLinkNest RX2 101 yX1_boundOfGain RX2, .methodLinkNest RX2 115 yX1_minutesOf RX2, .methodLinkNest RX2 119 yX1_patternsUsedIn RX2, .methodLinkNest RX2 122 yX1_madeBy RX2, .methodLinkNest RX2 126 yX1_doPlan RX2, .methodLinkNest RX2 18 yX0_init RX2, .methodLinkNest RX2 83 yX0_goThroughPlans RX2, .methodLinkNest RX2 9 yX1_init RX2]
theorem vxDN : ∀ w ∈ vxD, w ∈ gxN := by decide +kernel
