/-! THE LAW'S INVARIANT: class and reference hold one and the same state. -/
def LI (sg : Nat → Nat → Int32) : Prop := ∃ T : TS, TOk T ∧ EC T sg ∧ EM T (fun j => sg (gw_p [34, 35, 36, 37, 38, 39, 40, 41, 42, 43, 44, 45, 46] j))
theorem wr_in {T : TS} {sg : Nat → Nat → Int32} (h : EC T sg) : EC T (fun j => sg (gw_p [0, 1, 2, 3, 4, 5, 6, 7, 8, 9, 10, 11, 12, 13, 14, 15, 16, 17, 18, 19, 20, 21, 22, 23, 24, 25, 26, 27, 28, 29, 30, 31, 32, 33] j)) := h.cong (fun k hk => by show sg (gw_p [0, 1, 2, 3, 4, 5, 6, 7, 8, 9, 10, 11, 12, 13, 14, 15, 16, 17, 18, 19, 20, 21, 22, 23, 24, 25, 26, 27, 28, 29, 30, 31, 32, 33] k) = sg k; rw [wr_k k (by omega)])
theorem wr_out {T : TS} {s1 s2 : Nat → Nat → Int32} {n : Nat} (h : EC T s1) (h1 : ∀ j, j < n → s2 (gw_p [0, 1, 2, 3, 4, 5, 6, 7, 8, 9, 10, 11, 12, 13, 14, 15, 16, 17, 18, 19, 20, 21, 22, 23, 24, 25, 26, 27, 28, 29, 30, 31, 32, 33] j) = s1 j) (hn : n = 34) : EC T s2 := by
  subst hn
  exact h.cong (fun k hk => by have q := h1 k (by omega); rwa [wr_k k (by omega)] at q)
theorem mod_n : ∀ k : Nat, k < 13 → gw_p [34, 35, 36, 37, 38, 39, 40, 41, 42, 43, 44, 45, 46] k ∉ [0, 1, 2, 3, 4, 5, 6, 7, 8, 9, 10, 11, 12, 13, 14, 15, 16, 17, 18, 19, 20, 21, 22, 23, 24, 25, 26, 27, 28, 29, 30, 31, 32, 33] := by decide
theorem cls_n : ∀ k : Nat, k < 34 → k ∉ [34, 35, 36, 37, 38, 39, 40, 41, 42, 43, 44, 45, 46] := by decide
theorem mod_keep {T : TS} {sg s2 : Nat → Nat → Int32} (h : EM T (fun j => sg (gw_p [34, 35, 36, 37, 38, 39, 40, 41, 42, 43, 44, 45, 46] j))) (h2 : ∀ k, k ∉ [0, 1, 2, 3, 4, 5, 6, 7, 8, 9, 10, 11, 12, 13, 14, 15, 16, 17, 18, 19, 20, 21, 22, 23, 24, 25, 26, 27, 28, 29, 30, 31, 32, 33] → s2 k = sg k) : EM T (fun j => s2 (gw_p [34, 35, 36, 37, 38, 39, 40, 41, 42, 43, 44, 45, 46] j)) := h.cong (fun k hk => h2 _ (mod_n k hk))
theorem mod_out {T : TS} {s1 s2 : Nat → Nat → Int32} {n : Nat} (h : EM T s1) (h1 : ∀ j, j < n → s2 (gw_p [34, 35, 36, 37, 38, 39, 40, 41, 42, 43, 44, 45, 46] j) = s1 j) (hn : n = 13) : EM T (fun j => s2 (gw_p [34, 35, 36, 37, 38, 39, 40, 41, 42, 43, 44, 45, 46] j)) := by
  subst hn
  exact h.cong (fun k hk => h1 k hk)
theorem cls_keep {T : TS} {sg s2 : Nat → Nat → Int32} (h : EC T sg) (h2 : ∀ k, k ∉ [34, 35, 36, 37, 38, 39, 40, 41, 42, 43, 44, 45, 46] → s2 k = sg k) : EC T s2 := h.cong (fun k hk => h2 k (cls_n k (by omega)))
theorem TOk_u {k : Int32} {t T : TS} (ht : TOk t) (hT : TOk T) : TOk (uT k t T) := by
  unfold uT
  split
  · exact ht
  · exact hT
theorem TOk_f (T : TS) : TOk (sFo T false) := fun q => Bool.noConfusion q
theorem TOk_run (T : TS) (x : Int32) : TOk (tRun T x) := by
  intro hq
  have hq : (cR (yL T.1 (nt x))).2.2.1 = true := hq
  obtain ⟨pl, h1, h2, h3, h4⟩ := cR_ok _ hq
  have e : (tRun T x).2.2.2.1 = pl := by
    funext q
    show nt ((cR (yL T.1 (nt x))).2.2.2.2 q) = pl q
    rw [h1 q, nt_nI (by have := h2 q; omega)]
  rw [e]
  exact ⟨h2, h3, h4⟩
theorem law_in {L i : Nat} (hL : L ≤ 2560) (hi : i ≤ 2560) (h : ¬ (Int32.ofNat L - nI 5 < nI i)) : i + 5 ≤ L := by
  by_cases h5 : 5 ≤ L
  · have e : Int32.ofNat L - nI 5 = nI (L - 5) := by
      obtain ⟨k, rfl⟩ : ∃ k, L = k + 5 := ⟨L - 5, by omega⟩
      show nI (k + 5) - nI 5 = nI (k + 5 - 5)
      rw [show k + 5 - 5 = k by omega, ← nI_add, Int32.add_sub_cancel]
    rw [e] at h
    have h2 : ¬ (L - 5 < i) := fun q => h ((nI_ltI (by omega) (by omega)).mpr q)
    omega
  · exfalso
    apply h
    rw [Int32.lt_iff_toInt_lt, nI_toInt (show i < 2 ^ 31 by omega)]
    rcases (show L = 0 ∨ L = 1 ∨ L = 2 ∨ L = 3 ∨ L = 4 by omega) with rfl | rfl | rfl | rfl | rfl
    · have : (Int32.ofNat 0 - nI 5).toInt = -5 := by decide
      omega
    · have : (Int32.ofNat 1 - nI 5).toInt = -4 := by decide
      omega
    · have : (Int32.ofNat 2 - nI 5).toInt = -3 := by decide
      omega
    · have : (Int32.ofNat 3 - nI 5).toInt = -2 := by decide
      omega
    · have : (Int32.ofNat 4 - nI 5).toInt = -1 := by decide
      omega
/-- the law's world when all is made -/
def frL (k j : Nat) : Int32 := if k < 33 then fr k j else if k = 33 then nI 0 else fm (k - 34) j
def T00 : TS := ((0, 0, 0, 480, z0, z0, z0, fun _ => nI 0, fun _ => nI 0, fun _ => nI 0, fun _ => nI 0, fun _ => nI 0, fun _ _ => nI 0), false, nI 0, z0, nI 0, nI 0)
theorem law_fresh : LI frL := by
  refine ⟨T00, fun q => Bool.noConfusion q, ⟨⟨⟨by decide, rfl⟩, ⟨rfl, by decide⟩, ⟨rfl, by decide⟩, fun c _ => ⟨rfl, by show 0 ≤ 1000; omega⟩, fun c _ => rfl, fun p _ => ⟨rfl, by show 0 < 4; omega⟩, fun p _ => ⟨rfl, by show 0 ≤ 480; omega⟩, fun k _ => rfl, fun p k hp _ => ?_, fun k _ => ⟨rfl, rfl, rfl⟩⟩, rfl, fun q => Bool.noConfusion q, rfl, rfl⟩, ⟨⟨by decide, rfl⟩, ⟨rfl, by decide⟩, ⟨rfl, by decide⟩, fun c _ => ⟨rfl, by show 0 ≤ 1000; omega⟩, fun c _ => rfl, fun p _ => ⟨rfl, by show 0 < 4; omega⟩, fun p _ => ⟨rfl, by show 0 ≤ 480; omega⟩, fun k _ => rfl, fun p k _ _ => rfl, fun k _ => ⟨rfl, rfl, rfl⟩⟩, rfl, fun q => Bool.noConfusion q, rfl, rfl⟩
  unfold frL fr
  rw [if_pos (by omega), if_neg (by omega)]
  rfl
