/-! TWO SEARCHES THAT BEGIN WITH OTHER LEFTOVERS; what a found plan keeps. -/
def Sim (a b : RS) : Prop := a.1 = b.1 ∧ a.2.1 = b.2.1 ∧ a.2.2.1 = b.2.2.1 ∧ (b.2.2.1 = true → a.2.2.2 = b.2.2.2)
theorem look_sim {Y : YT} {pl : Nat → Nat} {a b : RS} (h : Sim a b) : Sim (yLook Y pl a) (yLook Y pl b) := by
  obtain ⟨a1, a2, a3, a4, a5⟩ := a
  obtain ⟨b1, b2, b3, b4, b5⟩ := b
  obtain ⟨h1, h2, h3, h4⟩ := h
  simp only at h1 h2 h3 h4
  subst h1 h2 h3
  unfold yLook lookP
  by_cases q1 : FilW (ySk Y) (yLs Y) (yGv Y) pl
  · simp only [if_pos q1]
    cases a3 with
    | false =>
      rw [if_pos (Or.inl rfl), if_pos (Or.inl rfl)]
      exact ⟨rfl, rfl, rfl, fun _ => rfl⟩
    | true =>
      have h5 := h4 rfl
      simp only [Prod.mk.injEq] at h5
      obtain ⟨rfl, rfl⟩ := h5
      exact ⟨rfl, rfl, rfl, fun _ => rfl⟩
  · simp only [if_neg q1]
    exact ⟨rfl, rfl, rfl, h4⟩
theorem step_sim {lim : Nat} {f : RS → RS} (hf : ∀ a b : RS, Sim a b → Sim (f a) (f b)) {a b : RS} (h : Sim a b) : Sim (stepP lim f a) (stepP lim f b) := by
  obtain ⟨h1, h2, h3, h4⟩ := h
  by_cases q : lim ≤ a.1
  · rw [stepP_t q, stepP_t (by omega)]
    exact ⟨h1, rfl, h3, h4⟩
  · rw [stepP_f (by omega), stepP_f (by omega)]
    exact hf _ _ ⟨by show a.1 + 1 = b.1 + 1; omega, h2, h3, h4⟩
theorem it_sim {Y : YT} {g : (Nat → Nat) → RS → RS} (hg : ∀ (pl : Nat → Nat) (a b : RS), Sim a b → Sim (g pl a) (g pl b)) {p : Nat} : ∀ (r : Nat) (pl : Nat → Nat) (a b : RS), Sim a b → Sim (yIt Y g p r pl a) (yIt Y g p r pl b)
  | 0, _, _, _, h => h
  | r + 1, pl, a, b, h => by
    by_cases q : a.2.1 = false ∧ yFit Y (pu pl p (pl p + 1))
    · rw [yIt_go q.1 q.2, yIt_go (h.2.1 ▸ q.1) q.2]
      exact it_sim hg r _ _ _ (step_sim (hg _) h)
    · rw [yIt_stop q, yIt_stop (fun x => q ⟨h.2.1.trans x.1, x.2⟩)]
      exact h
theorem srch_sim {Y : YT} : ∀ (d p : Nat) (pl : Nat → Nat) (a b : RS), Sim a b → Sim (ySrch Y d p pl a) (ySrch Y d p pl b)
  | 0, _, _, _, _, h => look_sim h
  | d + 1, p, pl, a, b, h => by
    rw [ySrch_s rfl, ySrch_s rfl]
    exact it_sim (fun pl a b h => srch_sim d (p + 1) pl a b h) 12 pl _ _ (step_sim (fun a b h => srch_sim d (p + 1) pl a b h) h)
noncomputable def cR (Y : YT) : RS := ySrch Y (yN Y) 0 z0 (0, false, false, nI 0, fun _ => nI 0)
theorem cR_sim (Y : YT) (g : Int32) (f : Nat → Int32) : Sim (ySrch Y (yN Y) 0 z0 (0, false, false, g, f)) (cR Y) := srch_sim _ _ _ _ _ ⟨rfl, rfl, rfl, fun q => Bool.noConfusion q⟩
def ResOk (Y : YT) (a : RS) : Prop := a.2.2.1 = true → ∃ pl : Nat → Nat, (∀ q : Nat, a.2.2.2.2 q = nI (pl q)) ∧ (∀ q : Nat, pl q ≤ 12) ∧ yFit Y pl ∧ ∀ q : Nat, yN Y ≤ q → pl q = 0
theorem look_ok {Y : YT} {pl : Nat → Nat} {a : RS} (h1 : ∀ q : Nat, pl q ≤ 12) (h2 : yFit Y pl) (h3 : ∀ q : Nat, yN Y ≤ q → pl q = 0) (h : ResOk Y a) : ResOk Y (yLook Y pl a) := by
  unfold yLook lookP
  split
  · split
    · exact fun _ => ⟨pl, fun _ => rfl, h1, h2, h3⟩
    · exact h
  · exact h
theorem step_ok {Y : YT} {lim : Nat} {f : RS → RS} (hf : ∀ a : RS, ResOk Y a → ResOk Y (f a)) {a : RS} (h : ResOk Y a) : ResOk Y (stepP lim f a) := by
  unfold stepP
  split
  · exact h
  · exact hf _ h
theorem it_ok {Y : YT} {g : (Nat → Nat) → RS → RS} {p : Nat} (hg : ∀ (pl : Nat → Nat) (a : RS), (∀ q : Nat, pl q ≤ 12) → yFit Y pl → (∀ q : Nat, p + 1 ≤ q → pl q = 0) → ResOk Y a → ResOk Y (g pl a)) : ∀ (r : Nat) (pl : Nat → Nat) (a : RS), pl p + r ≤ 12 → (∀ q : Nat, pl q ≤ 12) → (∀ q : Nat, p + 1 ≤ q → pl q = 0) → ResOk Y a → ResOk Y (yIt Y g p r pl a)
  | 0, _, _, _, _, _, h => h
  | r + 1, pl, a, h0, h1, h3, h => by
    by_cases q : a.2.1 = false ∧ yFit Y (pu pl p (pl p + 1))
    · rw [yIt_go q.1 q.2]
      have k1 : ∀ j : Nat, pu pl p (pl p + 1) j ≤ 12 := fun j => by
        by_cases e : j = p
        · rw [e, pu_s]; omega
        · rw [pu_n _ _ e]; exact h1 j
      have k3 : ∀ j : Nat, p + 1 ≤ j → pu pl p (pl p + 1) j = 0 := fun j hj => by rw [pu_n _ _ (by omega)]; exact h3 j hj
      exact it_ok hg r _ _ (by rw [pu_s]; omega) k1 k3 (step_ok (fun a ha => hg _ a k1 q.2 k3 ha) h)
    · rw [yIt_stop q]
      exact h
theorem srch_ok {Y : YT} : ∀ (d p : Nat) (pl : Nat → Nat) (a : RS), p + d = yN Y → (∀ q : Nat, pl q ≤ 12) → yFit Y pl → (∀ q : Nat, p ≤ q → pl q = 0) → ResOk Y a → ResOk Y (ySrch Y d p pl a)
  | 0, p, pl, a, e, h1, h2, h3, h => look_ok h1 h2 (fun q hq => h3 q (by omega)) h
  | d + 1, p, pl, a, e, h1, h2, h3, h => by
    rw [ySrch_s rfl]
    refine it_ok (fun pl a k1 k2 k3 ha => srch_ok d (p + 1) pl a (by omega) k1 k2 k3 ha) 12 pl _ (by rw [h3 p (Nat.le_refl _)]; omega) h1 (fun q hq => h3 q (by omega)) ?_
    exact step_ok (fun a ha => srch_ok d (p + 1) pl a (by omega) h1 h2 (fun q hq => h3 q (by omega)) ha) h
theorem cR_ok (Y : YT) : ResOk Y (cR Y) := srch_ok _ 0 z0 _ (by omega) (fun _ => by simp [z0]) (fit_z0 Y) (fun _ _ => rfl) (fun q => Bool.noConfusion q)
theorem cR_nt {Y : YT} (h : (cR Y).2.2.1 = true) (q : Nat) : nI (nt ((cR Y).2.2.2.2 q)) = (cR Y).2.2.2.2 q := by
  obtain ⟨pl, h1, h2, -⟩ := cR_ok Y h
  rw [h1 q, nt_nI (by have := h2 q; omega)]
/-! THE ANSWERS AND THE STATES BEHIND THE CALLS. -/
def yL (Y : YT) (lim : Nat) : YT := (yN Y, lim, Y.2.2)
def yQ (Y : YT) (j lim : Nat) : YT := (yN Y, lim, yCh Y, yHr Y, yMn Y, yCf Y, yLg Y, yCt Y, ySk Y, upd (yLs Y) j (nI 0), upd (yMs Y) j (nI 0), upd (yWo Y) j (nI 0), yGv Y)
def cnt (pl : Nat → Nat) : Nat → Nat := sN (fun q => if 0 < pl q then 1 else 0)
def uT (k : Int32) (a b : TS) : TS := if k = nI 0 then a else b
theorem uT_t {k : Int32} {a b : TS} (h : k = nI 0) : uT k a b = a := if_pos h
theorem uT_f {k : Int32} {a b : TS} (h : ¬ k = nI 0) : uT k a b = b := if_neg h
def tLogs (T : TS) (a b c : Int32) : TS := sFo (sCt (sLg T (nt a) (nt b)) (nt a) c) false
def tPattern (T : TS) (a b : Int32) : TS := sFo (sNn (sMn (sCf T (yN T.1) (nt a)) (yN T.1) (nt b)) (yN T.1 + 1)) false
def tGives (T : TS) (a b c : Int32) : TS := sFo (sGv T (nt a) (nt b) c) false
def tOrder (T : TS) (a b c d : Int32) : TS := sFo (sWo (sMs (sLs T (nt a) b) (nt a) c) (nt a) d) false
def tHours (T : TS) (a b : Int32) : TS := sFo (sCh (sHr T (nt a)) (nt b)) false
noncomputable def tRun (T : TS) (a : Int32) : TS := (T.1, (cR (yL T.1 (nt a))).2.2.1, (cR (yL T.1 (nt a))).2.2.2.1, fun q => nt ((cR (yL T.1 (nt a))).2.2.2.2 q), T.2.2.2.2)
/-- stock up to product i, logs up to pattern i -/
def tSt (T : TS) (i : Nat) : TS := ((yN T.1, yLim T.1, yCh T.1, yHr T.1, yMn T.1, yCf T.1, yLg T.1, yCt T.1, (fun k => if k < i then yMad T.1 T.2.2.2.1 k - mnW (yMad T.1 T.2.2.2.1 k) (yMs T.1 k) else ySk T.1 k), yLs T.1, yMs T.1, yWo T.1, yGv T.1), T.2)
def tLo (T : TS) (i : Nat) : TS := ((yN T.1, yLim T.1, yCh T.1, yHr T.1, yMn T.1, yCf T.1, (fun c => yLg T.1 c - usdN (yCf T.1) T.2.2.2.1 c i), yCt T.1, ySk T.1, yLs T.1, yMs T.1, yWo T.1, yGv T.1), T.2)
def tSaw (T : TS) : TS := sFo (sDy (sEr (tLo (tSt T 4) (yN T.1)) (T.2.2.2.2.2 + T.2.2.1)) (T.2.2.2.2.1 + nI 1)) false
noncomputable def qUsed (T : TS) (a : Int32) : Int32 := kif (inX a (nI (yN T.1))) (kif (T.2.1 = true) (nI 0) (nI 2)) (nI 1)
noncomputable def qBest (T : TS) (a : Int32) : Int32 := kif (inR a (nI 0) (nI 2)) (kif (T.2.1 = true) (nI 0) (nI 2)) (nI 1)
noncomputable def qMade (T : TS) (a : Int32) : Int32 := kif (inR a (nI 0) (nI 3)) (kif (T.2.1 = true) (nI 0) (nI 2)) (nI 1)
noncomputable def qSaw (T : TS) : Int32 := kif (T.2.1 = true) (nI 0) (nI 1)
noncomputable def qCost (T : TS) (a b : Int32) : Int32 := kif (inR a (nI 0) (nI 3)) (kif (inR b (nI 0) (nI 20000)) (kif ((cR (yL T.1 (nt b))).2.2.1 = true ∧ (cR (yQ T.1 (nt a) (nt b))).2.2.1 = true) (nI 0) (nI 3)) (nI 2)) (nI 1)
noncomputable def aRun (T : TS) (a : Int32) : Int32 := if (cR (yL T.1 (nt a))).2.1 = true then nI 2 else if (cR (yL T.1 (nt a))).2.2.1 = true then nI 0 else nI 1
def aUsed (T : TS) (a : Int32) : Int32 := nI (T.2.2.2.1 (nt a))
def aBest (T : TS) (a : Int32) : Int32 := if nt a = 0 then T.2.2.1 else if nt a = 1 then nI (totN (yMn T.1) (yCh T.1) T.2.2.2.1 (yN T.1)) else nI (cnt T.2.2.2.1 (yN T.1))
def aMade (T : TS) (a : Int32) : Int32 := yMad T.1 T.2.2.2.1 (nt a)
def aSaw (T : TS) : Int32 := T.2.2.1
def aMill (T : TS) (a : Int32) : Int32 := if nt a = 0 then T.2.2.2.2.1 else if nt a = 1 then T.2.2.2.2.2 else ySk T.1 (nt a - 2)
noncomputable def aCost (T : TS) (a b : Int32) : Int32 := (cR (yL T.1 (nt b))).2.2.2.1 - (cR (yQ T.1 (nt a) (nt b))).2.2.2.1
/-! THE SEARCH'S WORLD INSIDE THE CLASS'S. -/
theorem lat_k : ∀ k : Nat, k < 19 → 4 ≤ k → gw_p [2, 19, 20, 21, 22, 23, 24, 25, 1, 4, 5, 6, 7, 8, 9, 10, 11, 12, 13, 14, 15, 16, 17, 18] (k + 5) = k := by decide
theorem tri_k : ∀ k : Nat, k < 19 → 4 ≤ k → gw_p [3, 26, 27, 28, 29, 30, 31, 32, 1, 4, 5, 6, 7, 8, 9, 10, 11, 12, 13, 14, 15, 16, 17, 18] (k + 5) = k := by decide
theorem EY_latest {Y : YT} {sg : Nat → Nat → Int32} (h : ECy Y sg) : EY Y (fun j => sg (gw_p [2, 19, 20, 21, 22, 23, 24, 25, 1, 4, 5, 6, 7, 8, 9, 10, 11, 12, 13, 14, 15, 16, 17, 18] j)) := by
  obtain ⟨h1, h2, h3, h4, h5, h6, h7, h8, h9, h10⟩ := h
  refine ⟨h1, h2, h3, h4, h5, h6, h7, h8, fun p k hp hk => ?_⟩
  have h11 := h9 p k hp hk
  rcases (show p = 0 ∨ p = 1 ∨ p = 2 ∨ p = 3 ∨ p = 4 ∨ p = 5 by omega) with rfl | rfl | rfl | rfl | rfl | rfl <;> exact h11
theorem EY_trial {Y : YT} {sg : Nat → Nat → Int32} (h : ECy Y sg) : EY Y (fun j => sg (gw_p [3, 26, 27, 28, 29, 30, 31, 32, 1, 4, 5, 6, 7, 8, 9, 10, 11, 12, 13, 14, 15, 16, 17, 18] j)) := by
  obtain ⟨h1, h2, h3, h4, h5, h6, h7, h8, h9, h10⟩ := h
  refine ⟨h1, h2, h3, h4, h5, h6, h7, h8, fun p k hp hk => ?_⟩
  have h11 := h9 p k hp hk
  rcases (show p = 0 ∨ p = 1 ∨ p = 2 ∨ p = 3 ∨ p = 4 ∨ p = 5 by omega) with rfl | rfl | rfl | rfl | rfl | rfl <;> exact h11
theorem nI_nm1 {k : Nat} (h : k < 4) : ¬ nI k = -1 := by
  rcases (show k = 0 ∨ k = 1 ∨ k = 2 ∨ k = 3 by omega) with rfl | rfl | rfl | rfl <;> decide
theorem EQ_none {Y : YT} {lim : Nat} {s : Nat → Nat → Int32} (h : ∀ k : Nat, k < 4 → s 14 k = yLs Y k ∧ s 15 k = yMs Y k ∧ s 16 k = yWo Y k) : EQ (yL Y lim) (-1) s := by
  intro k hk
  unfold oF
  rw [if_neg (nI_nm1 hk), if_neg (nI_nm1 hk), if_neg (nI_nm1 hk)]
  exact h k hk
theorem EQ_one {Y : YT} {j lim : Nat} (hj : j < 4) {s : Nat → Nat → Int32} (h : ∀ k : Nat, k < 4 → s 14 k = yLs Y k ∧ s 15 k = yMs Y k ∧ s 16 k = yWo Y k) : EQ (yQ Y j lim) (nI j) s := by
  intro k hk
  show oF s (nI j) 14 k = upd (yLs Y) j (nI 0) k ∧ oF s (nI j) 15 k = upd (yMs Y) j (nI 0) k ∧ oF s (nI j) 16 k = upd (yWo Y) j (nI 0) k
  unfold oF upd
  by_cases e : k = j
  · subst e
    simp
  · have e2 : ¬ nI k = nI j := fun q => e ((nI_eq (by omega) (by omega)).mp q)
    rw [if_neg e2, if_neg e2, if_neg e2, if_neg e, if_neg e, if_neg e]
    exact h k hk
section BACK
variable {Y9 : YT} {T : TS} {pl9 : Nat → Nat} {a : RS} {old sp s2 : Nat → Nat → Int32} {n : Nat}
theorem run_rows (hZ : EZ (fun j => old (gw_p [2, 19, 20, 21, 22, 23, 24, 25, 1, 4, 5, 6, 7, 8, 9, 10, 11, 12, 13, 14, 15, 16, 17, 18] j)) Y9 pl9 a sp) (h1 : ∀ j, j < n → s2 (gw_p [2, 19, 20, 21, 22, 23, 24, 25, 1, 4, 5, 6, 7, 8, 9, 10, 11, 12, 13, 14, 15, 16, 17, 18] j) = sp j) (hn : n = 24) : ∀ k : Nat, k = 1 ∨ (4 ≤ k ∧ k < 19) → s2 k = old k := by
  intro k hk
  subst hn
  rcases hk with rfl | ⟨ha, hb⟩
  · exact (h1 8 (by decide)).trans (hZ.2 8 (by decide))
  · have e := lat_k k hb ha
    have q := (h1 (k + 5) (by omega)).trans (hZ.2 (k + 5) (by omega))
    simp only [e] at q
    exact q
theorem tri_rows (hZ : EZ (fun j => old (gw_p [3, 26, 27, 28, 29, 30, 31, 32, 1, 4, 5, 6, 7, 8, 9, 10, 11, 12, 13, 14, 15, 16, 17, 18] j)) Y9 pl9 a sp) (h1 : ∀ j, j < n → s2 (gw_p [3, 26, 27, 28, 29, 30, 31, 32, 1, 4, 5, 6, 7, 8, 9, 10, 11, 12, 13, 14, 15, 16, 17, 18] j) = sp j) (hn : n = 24) : ∀ k : Nat, k = 1 ∨ (4 ≤ k ∧ k < 19) → s2 k = old k := by
  intro k hk
  subst hn
  rcases hk with rfl | ⟨ha, hb⟩
  · exact (h1 8 (by decide)).trans (hZ.2 8 (by decide))
  · have e := tri_k k hb ha
    have q := (h1 (k + 5) (by omega)).trans (hZ.2 (k + 5) (by omega))
    simp only [e] at q
    exact q
theorem run_EC (h : EC T old) (hZ : EZ (fun j => old (gw_p [2, 19, 20, 21, 22, 23, 24, 25, 1, 4, 5, 6, 7, 8, 9, 10, 11, 12, 13, 14, 15, 16, 17, 18] j)) Y9 pl9 a sp) (h1 : ∀ j, j < n → s2 (gw_p [2, 19, 20, 21, 22, 23, 24, 25, 1, 4, 5, 6, 7, 8, 9, 10, 11, 12, 13, 14, 15, 16, 17, 18] j) = sp j) (h2 : ∀ k, k ∉ [2, 19, 20, 21, 22, 23, 24, 25, 1, 4, 5, 6, 7, 8, 9, 10, 11, 12, 13, 14, 15, 16, 17, 18] → s2 k = old k) (hn : n = 24) : ECy T.1 s2 ∧ s2 2 11 = b2 a.2.1 ∧ s2 2 12 = b2 a.2.2.1 ∧ s2 2 13 = a.2.2.2.1 ∧ (∀ q : Nat, q < 6 → s2 25 q = a.2.2.2.2 q) ∧ s2 0 = old 0 := by
  have e := run_rows hZ h1 hn
  subst hn
  have e0 : s2 2 = sp 0 := h1 0 (by decide)
  have e7 : s2 25 = sp 7 := h1 7 (by decide)
  obtain ⟨-, -, r3, r4, r5, r6⟩ := hZ.1.2.2.2
  refine ⟨h.1.cong e, ?_, ?_, ?_, ?_, h2 0 (by decide)⟩
  · rw [e0]; exact r3
  · rw [e0]; exact r4
  · rw [e0]; exact r5
  · rw [e7]; exact r6
theorem tri_EC (h : EC T old) (hZ : EZ (fun j => old (gw_p [3, 26, 27, 28, 29, 30, 31, 32, 1, 4, 5, 6, 7, 8, 9, 10, 11, 12, 13, 14, 15, 16, 17, 18] j)) Y9 pl9 a sp) (h1 : ∀ j, j < n → s2 (gw_p [3, 26, 27, 28, 29, 30, 31, 32, 1, 4, 5, 6, 7, 8, 9, 10, 11, 12, 13, 14, 15, 16, 17, 18] j) = sp j) (h2 : ∀ k, k ∉ [3, 26, 27, 28, 29, 30, 31, 32, 1, 4, 5, 6, 7, 8, 9, 10, 11, 12, 13, 14, 15, 16, 17, 18] → s2 k = old k) (hn : n = 24) : EC T s2 ∧ s2 3 12 = b2 a.2.2.1 ∧ s2 3 13 = a.2.2.2.1 := by
  have e := tri_rows hZ h1 hn
  subst hn
  have e0 : s2 3 = sp 0 := h1 0 (by decide)
  obtain ⟨-, -, r3, r4, r5, r6⟩ := hZ.1.2.2.2
  obtain ⟨g0, g1, g2, g3, g4⟩ := h
  refine ⟨⟨g0.cong e, ?_, ?_, ?_, ?_⟩, ?_, ?_⟩
  · rw [h2 2 (by decide)]; exact g1
  · rw [h2 2 (by decide), h2 25 (by decide)]; exact g2
  · rw [h2 0 (by decide)]; exact g3
  · rw [h2 0 (by decide)]; exact g4
  · rw [e0]; exact r4
  · rw [e0]; exact r5
end BACK
/-- the class behind a run -/
theorem EC_run {T : TS} {x : Int32} {a : RS} {s : Nat → Nat → Int32} (hs : Sim a (cR (yL T.1 (nt x)))) (h0 : ECy T.1 s) (h1 : s 2 12 = b2 a.2.2.1) (h2 : s 2 13 = a.2.2.2.1) (h3 : ∀ q : Nat, q < 6 → s 25 q = a.2.2.2.2 q) (h4 : s 0 4 = T.2.2.2.2.1) (h5 : s 0 5 = T.2.2.2.2.2) : EC (tRun T x) s := by
  refine ⟨h0, ?_, ?_, h4, h5⟩
  · rw [h1, hs.2.2.1]; rfl
  · intro hq
    have e := hs.2.2.2 hq
    refine ⟨?_, fun q hq6 => ?_⟩
    · rw [h2, e]; rfl
    · rw [h3 q hq6, e]
      exact (cR_nt hq q).symm
