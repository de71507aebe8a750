/-! THE SEARCH'S CELLS AS A FUNCTION of the data, the plan and the result. Data: N, lim, ch, hr, mn, cf, lg, ct, sk, ls, ms, wo, gv. -/
abbrev YT : Type := Nat × Nat × Nat × Nat × (Nat → Nat) × (Nat → Nat) × (Nat → Nat) × (Nat → Int32) × (Nat → Int32) × (Nat → Int32) × (Nat → Int32) × (Nat → Int32) × (Nat → Nat → Int32)
abbrev yN (Y : YT) : Nat := Y.1
abbrev yLim (Y : YT) : Nat := Y.2.1
abbrev yCh (Y : YT) : Nat := Y.2.2.1
abbrev yHr (Y : YT) : Nat := Y.2.2.2.1
abbrev yMn (Y : YT) : Nat → Nat := Y.2.2.2.2.1
abbrev yCf (Y : YT) : Nat → Nat := Y.2.2.2.2.2.1
abbrev yLg (Y : YT) : Nat → Nat := Y.2.2.2.2.2.2.1
abbrev yCt (Y : YT) : Nat → Int32 := Y.2.2.2.2.2.2.2.1
abbrev ySk (Y : YT) : Nat → Int32 := Y.2.2.2.2.2.2.2.2.1
abbrev yLs (Y : YT) : Nat → Int32 := Y.2.2.2.2.2.2.2.2.2.1
abbrev yMs (Y : YT) : Nat → Int32 := Y.2.2.2.2.2.2.2.2.2.2.1
abbrev yWo (Y : YT) : Nat → Int32 := Y.2.2.2.2.2.2.2.2.2.2.2.1
abbrev yGv (Y : YT) : Nat → Nat → Int32 := Y.2.2.2.2.2.2.2.2.2.2.2.2
def yTot (Y : YT) (pl : Nat → Nat) : Nat := totN (yMn Y) (yCh Y) pl 6
def yUsd (Y : YT) (pl : Nat → Nat) (c : Nat) : Nat := usdN (yCf Y) pl c 6
def yMad (Y : YT) (pl : Nat → Nat) (k : Nat) : Int32 := madW (ySk Y) (yGv Y) pl k 6
def yCst (Y : YT) (pl : Nat → Nat) : Int32 := cstW (yCt Y) (yCf Y) pl 6
def yFit (Y : YT) (pl : Nat → Nat) : Prop := FitN (yMn Y) (yCh Y) (yHr Y) (yCf Y) (yLg Y) pl 6
noncomputable def yLook (Y : YT) (pl : Nat → Nat) (a : RS) : RS := lookP (yCf Y) (yCt Y) (ySk Y) (yLs Y) (yMs Y) (yWo Y) (yGv Y) pl a
noncomputable def yIt (Y : YT) (g : (Nat → Nat) → RS → RS) (p r : Nat) (pl : Nat → Nat) (a : RS) : RS := itP (yLim Y) (yCh Y) (yHr Y) (yMn Y) (yCf Y) (yLg Y) g p r pl a
noncomputable def ySrch (Y : YT) (d p : Nat) (pl : Nat → Nat) (a : RS) : RS := srchP (yLim Y) (yCh Y) (yHr Y) (yMn Y) (yCf Y) (yLg Y) (yCt Y) (ySk Y) (yLs Y) (yMs Y) (yWo Y) (yGv Y) d p pl a
def b2 (b : Bool) : Int32 := if b then nI 1 else nI 0
/-- the yard; the orders; the plan told so far; the result so far -/
def EY (Y : YT) (sg : Nat → Nat → Int32) : Prop := (yN Y ≤ 6 ∧ sg 8 9 = nI (yN Y)) ∧ (sg 8 10 = nI (yHr Y) ∧ yHr Y ≤ 1440) ∧ (sg 8 11 = nI (yCh Y) ∧ yCh Y ≤ 1440) ∧ (∀ c : Nat, c < 4 → sg 9 c = nI (yLg Y c) ∧ yLg Y c ≤ 1000) ∧ (∀ c : Nat, c < 4 → sg 10 c = yCt Y c) ∧ (∀ p : Nat, p < 6 → sg 11 p = nI (yCf Y p) ∧ yCf Y p < 4) ∧ (∀ p : Nat, p < 6 → sg 12 p = nI (yMn Y p) ∧ yMn Y p ≤ 480) ∧ (∀ k : Nat, k < 4 → sg 17 k = ySk Y k) ∧ ∀ p k : Nat, p < 6 → k < 4 → sg (18 + p) k = yGv Y p k
def EO (Y : YT) (sg : Nat → Nat → Int32) : Prop := ∀ k : Nat, k < 4 → sg 4 k = yLs Y k ∧ sg 5 k = yMs Y k ∧ sg 6 k = yWo Y k
def EP (Y : YT) (pl : Nat → Nat) (sg : Nat → Nat → Int32) : Prop := (∀ q : Nat, q < 6 → sg 1 q = nI (pl q) ∧ pl q ≤ 12) ∧ (∀ c : Nat, c < 4 → sg 2 c = nI (yLg Y c - yUsd Y pl c)) ∧ (∀ k : Nat, k < 4 → sg 3 k = yMad Y pl k) ∧ sg 0 4 = nI (yHr Y - yTot Y pl) ∧ sg 0 5 = yCst Y pl ∧ yFit Y pl
def ER (Y : YT) (a : RS) (sg : Nat → Nat → Int32) : Prop := (sg 0 9 = nI (yLim Y) ∧ yLim Y ≤ 20000) ∧ (sg 0 10 = nI a.1 ∧ a.1 ≤ yLim Y) ∧ sg 0 11 = b2 a.2.1 ∧ sg 0 12 = b2 a.2.2.1 ∧ sg 0 13 = a.2.2.2.1 ∧ ∀ q : Nat, q < 6 → sg 7 q = a.2.2.2.2 q
def ES (Y : YT) (pl : Nat → Nat) (a : RS) (sg : Nat → Nat → Int32) : Prop := EY Y sg ∧ EO Y sg ∧ EP Y pl sg ∧ ER Y a sg
theorem EY.iv {Y : YT} {sg : Nat → Nat → Int32} (h : EY Y sg) : IvG 8 9 11 sg := ⟨⟨yN Y, h.1.1, h.1.2⟩, fun i hi => ⟨yCf Y i, (h.2.2.2.2.2.1 i hi).2, (h.2.2.2.2.2.1 i hi).1⟩⟩
/-- cells 8 to 23 as they were -/
theorem EY.cong {Y : YT} {a b : Nat → Nat → Int32} (h : EY Y a) (e : ∀ k : Nat, 8 ≤ k → k < 24 → b k = a k) : EY Y b := by
  obtain ⟨h1, h2, h3, h4, h5, h6, h7, h8, h9⟩ := h
  refine ⟨?_, ?_, ?_, ?_, ?_, ?_, ?_, ?_, fun p k hp hk => ?_⟩
  · rw [e 8 (by decide) (by decide)]; exact h1
  · rw [e 8 (by decide) (by decide)]; exact h2
  · rw [e 8 (by decide) (by decide)]; exact h3
  · rw [e 9 (by decide) (by decide)]; exact h4
  · rw [e 10 (by decide) (by decide)]; exact h5
  · rw [e 11 (by decide) (by decide)]; exact h6
  · rw [e 12 (by decide) (by decide)]; exact h7
  · rw [e 17 (by decide) (by decide)]; exact h8
  · rw [e (18 + p) (by omega) (by omega)]; exact h9 p k hp hk
theorem EO.cong {Y : YT} {a b : Nat → Nat → Int32} (h : EO Y a) (e4 : b 4 = a 4) (e5 : b 5 = a 5) (e6 : b 6 = a 6) : EO Y b := by
  intro k hk
  rw [e4, e5, e6]
  exact h k hk
theorem ER.cong {Y : YT} {r : RS} {a b : Nat → Nat → Int32} (h : ER Y r a) (e : ∀ j : Nat, 9 ≤ j → j < 14 → b 0 j = a 0 j) (e7 : b 7 = a 7) : ER Y r b := by
  obtain ⟨h1, h2, h3, h4, h5, h6⟩ := h
  refine ⟨?_, ?_, ?_, ?_, ?_, ?_⟩
  · rw [e 9 (by decide) (by decide)]; exact h1
  · rw [e 10 (by decide) (by decide)]; exact h2
  · rw [e 11 (by decide) (by decide)]; exact h3
  · rw [e 12 (by decide) (by decide)]; exact h4
  · rw [e 13 (by decide) (by decide)]; exact h5
  · rw [e7]; exact h6
/-- what FL and FT leave -/
theorem FL_n (b : Nat → Nat → Int32) (p c k : Nat) (h : 4 ≤ k) : FL b p c k = b k := by
  simp [FL, FL4, FL3, FL2, FL1, gw_u, show k ≠ 0 by omega, show k ≠ 1 by omega, show k ≠ 2 by omega, show k ≠ 3 by omega]
theorem FT_n (b : Nat → Nat → Int32) (p c k : Nat) (h : 4 ≤ k) : FT b p c k = b k := by
  simp [FT, FT4, FT3, FT2, FT1, gw_u, show k ≠ 0 by omega, show k ≠ 1 by omega, show k ≠ 2 by omega, show k ≠ 3 by omega]
theorem FL_0 (b : Nat → Nat → Int32) (p c j : Nat) (h4 : j ≠ 4) (h5 : j ≠ 5) : FL b p c 0 j = b 0 j := by simp [FL, FL4, FL3, FL2, FL1, gw_u, upd, h4, h5]
theorem FT_0 (b : Nat → Nat → Int32) (p c j : Nat) (h4 : j ≠ 4) (h5 : j ≠ 5) : FT b p c 0 j = b 0 j := by simp [FT, FT4, FT3, FT2, FT1, gw_u, upd, h4, h5]
theorem FL_04 (b : Nat → Nat → Int32) (p c : Nat) : FL b p c 0 4 = b 0 4 - nx b p := by simp [FL, FL4, FL3, FL2, FL1, gw_u, upd]
theorem FL_05 (b : Nat → Nat → Int32) (p c : Nat) : FL b p c 0 5 = b 0 5 + b 10 c := by simp [FL, FL4, FL3, FL2, FL1, gw_u, upd]
theorem FL_1 (b : Nat → Nat → Int32) (p c q : Nat) : FL b p c 1 q = if q = p then b 1 p + nI 1 else b 1 q := by simp [FL, FL4, FL3, FL2, FL1, gw_u, upd]
theorem FL_2 (b : Nat → Nat → Int32) (p c q : Nat) : FL b p c 2 q = if q = c then b 2 c - nI 1 else b 2 q := by simp [FL, FL4, FL3, FL2, FL1, gw_u, upd]
theorem FL_3 (b : Nat → Nat → Int32) (p c k : Nat) (hk : k < 4) : FL b p c 3 k = b 3 k + b (18 + p) k := by
  simp [FL, FL4, FL3, FL2, FL1, gw_u, upd, fil, hk, show 18 + p ≠ 0 by omega, show 18 + p ≠ 1 by omega, show 18 + p ≠ 2 by omega, show 18 + p ≠ 3 by omega]
theorem FT_04 (b : Nat → Nat → Int32) (p c : Nat) : FT b p c 0 4 = b 0 4 + (b 1 p * b 12 p + b 8 11) := by simp [FT, FT4, FT3, FT2, FT1, gw_u, upd]
theorem FT_05 (b : Nat → Nat → Int32) (p c : Nat) : FT b p c 0 5 = b 0 5 - b 1 p * b 10 c := by simp [FT, FT4, FT3, FT2, FT1, gw_u, upd]
theorem FT_1 (b : Nat → Nat → Int32) (p c q : Nat) : FT b p c 1 q = if q = p then nI 0 else b 1 q := by simp [FT, FT4, FT3, FT2, FT1, gw_u, upd]
theorem FT_2 (b : Nat → Nat → Int32) (p c q : Nat) : FT b p c 2 q = if q = c then b 2 c + b 1 p else b 2 q := by simp [FT, FT4, FT3, FT2, FT1, gw_u, upd]
theorem FT_3 (b : Nat → Nat → Int32) (p c k : Nat) (hk : k < 4) : FT b p c 3 k = b 3 k - b 1 p * b (18 + p) k := by
  simp [FT, FT4, FT3, FT2, FT1, gw_u, upd, fil, hk, show 18 + p ≠ 0 by omega, show 18 + p ≠ 1 by omega, show 18 + p ≠ 2 by omega, show 18 + p ≠ 3 by omega]
theorem nI_subN {a b : Nat} (h : b ≤ a) : nI a - nI b = nI (a - b) := by
  obtain ⟨k, rfl⟩ : ∃ k, a = k + b := ⟨a - b, by omega⟩
  rw [show k + b - b = k by omega, ← nI_add, Int32.add_sub_cancel]
/-- the next log's minutes -/
theorem ES_nx {Y : YT} {pl : Nat → Nat} {a : RS} {sg : Nat → Nat → Int32} (h : ES Y pl a sg) {p : Nat} (hp : p < 6) : nx sg p = nI (yMn Y p + if pl p = 0 then yCh Y else 0) := by
  obtain ⟨hY, -, hP, -⟩ := h
  have h1 := (hP.1 p hp).1
  have h2 := (hP.1 p hp).2
  have h3 := (hY.2.2.2.2.2.2.1 p hp).1
  unfold nx
  rw [h1, h3, hY.2.2.1.1]
  by_cases h0 : pl p = 0
  · rw [if_pos (by rw [h0]; decide), if_pos h0, nI_add]
  · rw [if_neg (fun q => h0 ((nI_eq (a := pl p) (b := 0) (by omega) (by decide)).mp (by rw [nI_0]; exact q))), if_neg h0]
    rfl
/-- whether one log more fits -/
theorem ES_fits {Y : YT} {pl : Nat → Nat} {a : RS} {sg : Nat → Nat → Int32} (h : ES Y pl a sg) {p : Nat} (hp : p < 6) : (0 < sg 2 (yCf Y p) ∧ nx sg p ≤ sg 0 4) ↔ yFit Y (pu pl p (pl p + 1)) := by
  have hn := ES_nx h hp
  obtain ⟨hY, -, hP, -⟩ := h
  obtain ⟨p1, p2, p3, p4, p5, p6⟩ := hP
  obtain ⟨hc1, hc2⟩ := hY.2.2.2.2.2.1 p hp
  have hm := (hY.2.2.2.2.2.2.1 p hp).2
  have hch := hY.2.2.1.2
  have hhr := hY.2.1.2
  have hlg := (hY.2.2.2.1 (yCf Y p) hc2).2
  have ht := tot_more (mn := yMn Y) (ch := yCh Y) (pl := pl) hp rfl
  have f1 := p6.1
  have f2 := p6.2
  rw [p2 _ hc2, hn, p4, ← nI_0, nI_ltI (by decide) (by omega), nI_leI (by split <;> omega) (by omega)]
  have hu := fun q => usd_more (cf := yCf Y) (pl := pl) (q := q) hp rfl
  have g := f2 (yCf Y p) hc2
  unfold yFit FitN
  constructor
  · intro ⟨q1, q2⟩
    refine ⟨?_, fun c hc => ?_⟩
    · rw [ht]
      unfold yTot at q2
      omega
    · rw [hu c]
      have := f2 c hc
      by_cases e : yCf Y p = c
      · subst e
        rw [if_pos rfl]
        unfold yUsd at q1
        omega
      · rw [if_neg e]
        omega
  · intro ⟨q1, q2⟩
    have q3 := q2 (yCf Y p) hc2
    rw [hu, if_pos rfl] at q3
    rw [ht] at q1
    unfold yUsd yTot
    constructor
    · omega
    · omega

theorem b2_t : b2 true = nI 1 := rfl
theorem b2_f : b2 false = nI 0 := rfl
theorem b2_0 {b : Bool} : b2 b = 0 ↔ b = false := by cases b <;> simp [b2, nI]
/-- one log more -/
theorem ES_more {Y : YT} {pl : Nat → Nat} {a : RS} {sg : Nat → Nat → Int32} (h : ES Y pl a sg) {p : Nat} (hp : p < 6) (h12 : pl p < 12) (hf : yFit Y (pu pl p (pl p + 1))) : ES Y (pu pl p (pl p + 1)) a (FL sg p (yCf Y p)) := by
  have hn := ES_nx h hp
  obtain ⟨hY, hO, hP, hR⟩ := h
  obtain ⟨p1, p2, p3, p4, p5, p6⟩ := hP
  have hc2 := (hY.2.2.2.2.2.1 p hp).2
  refine ⟨hY.cong (fun k h8 _ => FL_n _ _ _ k (by omega)), hO.cong (FL_n _ _ _ 4 (by decide)) (FL_n _ _ _ 5 (by decide)) (FL_n _ _ _ 6 (by decide)), ⟨?_, ?_, ?_, ?_, ?_, hf⟩, hR.cong (fun j h9 _ => FL_0 _ _ _ j (by omega) (by omega)) (FL_n _ _ _ 7 (by decide))⟩
  · intro q hq
    rw [FL_1]
    by_cases e : q = p
    · subst e
      rw [if_pos rfl, pu_s, (p1 q hq).1, nI_add]
      exact ⟨rfl, by omega⟩
    · rw [if_neg e, pu_n _ _ e]
      exact p1 q hq
  · intro c hc
    rw [FL_2]
    have hu := usd_more (cf := yCf Y) (pl := pl) (q := c) hp rfl
    have g := hf.2 c hc
    unfold yUsd
    by_cases e : c = yCf Y p
    · subst e
      rw [if_pos rfl, p2 _ hc2, hu, if_pos rfl]
      rw [hu, if_pos rfl] at g
      rw [nI_subN (by unfold yUsd; omega)]
      exact congrArg nI (by unfold yUsd; omega)
    · rw [if_neg e, p2 c hc, hu, if_neg (fun q => e q.symm)]
      rfl
  · intro k hk
    rw [FL_3 _ _ _ k hk, p3 k hk, hY.2.2.2.2.2.2.2.2 p k hp hk]
    exact (mad_more hp rfl).symm
  · have ht := tot_more (mn := yMn Y) (ch := yCh Y) (pl := pl) hp rfl
    have g := hf.1
    rw [ht] at g
    rw [FL_04, hn, p4]
    unfold yTot
    rw [ht, nI_subN (by omega)]
    congr 1
    omega
  · rw [FL_05, p5, hY.2.2.2.2.1 _ hc2]
    exact (cst_more hp rfl).symm
theorem pu_0 {pl : Nat → Nat} {p : Nat} (h : pl p = 0) : pu pl p 0 = pl := by
  have := pu_self pl p
  rwa [h] at this
/-- the logs of p taken back: what fits more fits less -/
theorem yFit_none {Y : YT} {pl : Nat → Nat} (h : yFit Y pl) {p : Nat} (hp : p < 6) : yFit Y (pu pl p 0) := by
  refine ⟨?_, fun c hc => ?_⟩
  · have := tot_none (mn := yMn Y) (ch := yCh Y) (pl := pl) hp rfl
    have := h.1
    omega
  · have := usd_none (cf := yCf Y) (pl := pl) (q := c) hp rfl
    have := h.2 c hc
    omega
theorem ES_none {Y : YT} {pl : Nat → Nat} {a : RS} {sg : Nat → Nat → Int32} (h : ES Y pl a sg) {p : Nat} (hp : p < 6) : ES Y (pu pl p 0) a (if sg 1 p = 0 then sg else FT sg p (yCf Y p)) := by
  obtain ⟨hY, hO, hP, hR⟩ := id h
  obtain ⟨p1, p2, p3, p4, p5, p6⟩ := hP
  have hc2 := (hY.2.2.2.2.2.1 p hp).2
  by_cases h0 : pl p = 0
  · rw [if_pos (by rw [(p1 p hp).1, h0]; rfl), pu_0 h0]
    exact h
  rw [if_neg (fun q => h0 ((nI_eq (a := pl p) (b := 0) (by have := (p1 p hp).2; omega) (by decide)).mp (by rw [← (p1 p hp).1, q]; rfl)))]
  have hf := yFit_none p6 hp
  refine ⟨hY.cong (fun k h8 _ => FT_n _ _ _ k (by omega)), hO.cong (FT_n _ _ _ 4 (by decide)) (FT_n _ _ _ 5 (by decide)) (FT_n _ _ _ 6 (by decide)), ⟨?_, ?_, ?_, ?_, ?_, hf⟩, hR.cong (fun j h9 _ => FT_0 _ _ _ j (by omega) (by omega)) (FT_n _ _ _ 7 (by decide))⟩
  · intro q hq
    rw [FT_1]
    by_cases e : q = p
    · subst e
      rw [if_pos rfl, pu_s]
      exact ⟨rfl, by omega⟩
    · rw [if_neg e, pu_n _ _ e]
      exact p1 q hq
  · intro c hc
    rw [FT_2]
    have hu := usd_none (cf := yCf Y) (pl := pl) (q := c) hp rfl
    have g := p6.2 c hc
    unfold yUsd
    by_cases e : c = yCf Y p
    · subst e
      rw [if_pos rfl] at hu
      rw [if_pos rfl, p2 _ hc2, (p1 p hp).1, nI_add]
      congr 1
      unfold yUsd
      omega
    · rw [if_neg (fun q => e q.symm)] at hu
      rw [if_neg e, p2 c hc]
      congr 1
      unfold yUsd
      omega
  · intro k hk
    rw [FT_3 _ _ _ k hk, p3 k hk, hY.2.2.2.2.2.2.2.2 p k hp hk, (p1 p hp).1]
    unfold yMad
    rw [mad_none (sk := ySk Y) (gv := yGv Y) (pl := pl) hp rfl, Int32.add_sub_cancel]
  · have ht := tot_none (mn := yMn Y) (ch := yCh Y) (pl := pl) hp rfl
    have g := p6.1
    rw [if_neg h0] at ht
    rw [FT_04, p4, (p1 p hp).1, (hY.2.2.2.2.2.2.1 p hp).1, hY.2.2.1.1, nI_mul, nI_add, nI_add]
    congr 1
    unfold yTot
    omega
  · rw [FT_05, p5, hY.2.2.2.2.1 _ hc2, (p1 p hp).1]
    unfold yCst
    rw [cst_none (ct := yCt Y) (cf := yCf Y) (pl := pl) hp rfl, Int32.add_sub_cancel]
/-- the gain -/
theorem ES_fills {Y : YT} {pl : Nat → Nat} {a : RS} {sg : Nat → Nat → Int32} (h : ES Y pl a sg) : fillsP sg ↔ FilW (ySk Y) (yLs Y) (yGv Y) pl := by
  obtain ⟨hY, hO, hP, hR⟩ := h
  unfold fillsP FilW
  constructor
  · intro q k hk
    have := q k hk
    rwa [hP.2.2.1 k hk, (hO k hk).1] at this
  · intro q k hk
    rw [hP.2.2.1 k hk, (hO k hk).1]
    exact q k hk
theorem mn_sw (a b : Int32) : (if a < b then a else b) = mnW b a := by
  unfold mnW
  by_cases h1 : a < b
  · rw [if_pos h1, if_neg (fun h2 => absurd (Int32.lt_iff_toInt_lt.mp h1) (by have := Int32.lt_iff_toInt_lt.mp h2; omega))]
  · rw [if_neg h1]
    by_cases h2 : b < a
    · rw [if_pos h2]
    · rw [if_neg h2]
      have e1 := i_nlt.mp h1
      have e2 := i_nlt.mp h2
      exact Int32.toInt_inj.mp (by have := Int32.le_iff_toInt_le.mp e1; have := Int32.le_iff_toInt_le.mp e2; omega)
theorem gP_eq (sg : Nat → Nat → Int32) : ∀ i : Nat, gP sg i = sW (fun k => sg 6 k * mnW (sg 3 k) (sg 5 k)) i - sg 0 5
  | 0 => by
    show - sg 0 5 = nI 0 - sg 0 5
    rw [nI_0, Int32.zero_sub]
  | i + 1 => by
    show gP sg i + sg 6 i * (if sg 5 i < sg 3 i then sg 5 i else sg 3 i) = sW (fun k => sg 6 k * mnW (sg 3 k) (sg 5 k)) i + sg 6 i * mnW (sg 3 i) (sg 5 i) - sg 0 5
    rw [gP_eq sg i, mn_sw, Int32.sub_eq_add_neg, Int32.sub_eq_add_neg, Int32.add_assoc, Int32.add_comm (- sg 0 5), ← Int32.add_assoc]
def yGai (Y : YT) (pl : Nat → Nat) : Int32 := gaiW (yCf Y) (yCt Y) (ySk Y) (yMs Y) (yWo Y) (yGv Y) pl
theorem ES_gain {Y : YT} {pl : Nat → Nat} {a : RS} {sg : Nat → Nat → Int32} (h : ES Y pl a sg) : gP sg 4 = yGai Y pl := by
  obtain ⟨hY, hO, hP, hR⟩ := h
  rw [gP_eq, hP.2.2.2.2.1]
  unfold yGai gaiW yCst
  congr 1
  refine sW_congr 4 (fun k hk => ?_)
  rw [hP.2.2.1 k hk, (hO k hk).2.1, (hO k hk).2.2]
  rfl
theorem FK_n (b : Nat → Nat → Int32) (k : Nat) (h0 : k ≠ 0) (h7 : k ≠ 7) : FK b k = b k := by simp [FK, gw_u, h0, h7]
theorem FK_0 (b : Nat → Nat → Int32) (j : Nat) (h4 : j ≠ 12) (h5 : j ≠ 13) : FK b 0 j = b 0 j := by simp [FK, gw_u, upd, h4, h5]
theorem FK_012 (b : Nat → Nat → Int32) : FK b 0 12 = nI 1 := by simp [FK, gw_u, upd]
theorem FK_013 (b : Nat → Nat → Int32) : FK b 0 13 = gP b 4 := by simp [FK, gw_u, upd]
theorem FK_7 (b : Nat → Nat → Int32) (q : Nat) (hq : q < 6) : FK b 7 q = b 1 q := by simp [FK, gw_u, va_cpy, hq]
/-- a plan looked at -/
theorem ES_look {Y : YT} {pl : Nat → Nat} {a : RS} {sg : Nat → Nat → Int32} (h : ES Y pl a sg) : ES Y pl (yLook Y pl a) (lkF sg) := by
  have hfl := ES_fills h
  have hg := ES_gain h
  obtain ⟨hY, hO, hP, hR⟩ := id h
  obtain ⟨r1, r2, r3, r4, r5, r6⟩ := hR
  have hi : (sg 0 12 = 0 ∨ sg 0 13 < gP sg 4) ↔ (a.2.2.1 = false ∨ a.2.2.2.1 < yGai Y pl) := by rw [r4, r5, hg, b2_0]
  unfold yLook lookP
  by_cases q1 : FilW (ySk Y) (yLs Y) (yGv Y) pl
  · rw [if_pos q1]
    by_cases q2 : a.2.2.1 = false ∨ a.2.2.2.1 < yGai Y pl
    · rw [if_pos (show a.2.2.1 = false ∨ a.2.2.2.1 < gaiW (yCf Y) (yCt Y) (ySk Y) (yMs Y) (yWo Y) (yGv Y) pl from q2), lkF_t (hfl.mpr q1) (hi.mpr q2)]
      refine ⟨hY.cong (fun k h8 _ => FK_n _ k (by omega) (by omega)), hO.cong (FK_n _ 4 (by decide) (by decide)) (FK_n _ 5 (by decide) (by decide)) (FK_n _ 6 (by decide) (by decide)), ?_, ?_⟩
      · refine ⟨?_, ?_, ?_, ?_, ?_, hP.2.2.2.2.2⟩
        · rw [FK_n _ 1 (by decide) (by decide)]; exact hP.1
        · rw [FK_n _ 2 (by decide) (by decide)]; exact hP.2.1
        · rw [FK_n _ 3 (by decide) (by decide)]; exact hP.2.2.1
        · rw [FK_0 _ 4 (by decide) (by decide)]; exact hP.2.2.2.1
        · rw [FK_0 _ 5 (by decide) (by decide)]; exact hP.2.2.2.2.1
      · refine ⟨?_, ?_, ?_, ?_, ?_, ?_⟩
        · rw [FK_0 _ 9 (by decide) (by decide)]; exact r1
        · rw [FK_0 _ 10 (by decide) (by decide)]; exact r2
        · rw [FK_0 _ 11 (by decide) (by decide)]; exact r3
        · exact FK_012 _
        · rw [FK_013]; exact hg
        · intro q hq
          rw [FK_7 _ q hq]
          exact (hP.1 q hq).1
    · rw [if_neg (show ¬ (a.2.2.1 = false ∨ a.2.2.2.1 < gaiW (yCf Y) (yCt Y) (ySk Y) (yMs Y) (yWo Y) (yGv Y) pl) from q2), lkF_f (fun q => q2 (hi.mp q.2))]
      exact h
  · rw [if_neg q1, lkF_f (fun q => q1 (hfl.mp q.1))]
    exact h

/-- the state of a search, and the cells from 8 on as in z -/
def EZ (z : Nat → Nat → Int32) (Y : YT) (pl : Nat → Nat) (a : RS) (sg : Nat → Nat → Int32) : Prop := ES Y pl a sg ∧ ∀ k : Nat, 8 ≤ k → sg k = z k
theorem EZ_more {z : Nat → Nat → Int32} {Y : YT} {pl : Nat → Nat} {a : RS} {sg : Nat → Nat → Int32} (h : EZ z Y pl a sg) {p : Nat} (hp : p < 6) (h12 : pl p < 12) (hf : yFit Y (pu pl p (pl p + 1))) : EZ z Y (pu pl p (pl p + 1)) a (FL sg p (yCf Y p)) := ⟨ES_more h.1 hp h12 hf, fun k hk => (FL_n _ _ _ k (by omega)).trans (h.2 k hk)⟩
theorem EZ_none {z : Nat → Nat → Int32} {Y : YT} {pl : Nat → Nat} {a : RS} {sg : Nat → Nat → Int32} (h : EZ z Y pl a sg) {p : Nat} (hp : p < 6) : EZ z Y (pu pl p 0) a (if sg 1 p = 0 then sg else FT sg p (yCf Y p)) := by
  refine ⟨ES_none h.1 hp, fun k hk => ?_⟩
  split
  · exact h.2 k hk
  · exact (FT_n _ _ _ k (by omega)).trans (h.2 k hk)
theorem EZ_look {z : Nat → Nat → Int32} {Y : YT} {pl : Nat → Nat} {a : RS} {sg : Nat → Nat → Int32} (h : EZ z Y pl a sg) : EZ z Y pl (yLook Y pl a) (lkF sg) := by
  refine ⟨ES_look h.1, fun k hk => ?_⟩
  unfold lkF
  split
  · exact (FK_n _ k (by omega) (by omega)).trans (h.2 k hk)
  · exact h.2 k hk
/-- a field of the search's object from 9 to 12 written -/
theorem w0_n (sg : Nat → Nat → Int32) (j : Nat) (x : Int32) (k : Nat) (h : k ≠ 0) : gw_u sg 0 (upd (sg 0) j x) k = sg k := by simp [gw_u, h]
theorem EZ_f {z : Nat → Nat → Int32} {Y : YT} {pl : Nat → Nat} {a a2 : RS} {sg sg2 : Nat → Nat → Int32} (h : EZ z Y pl a sg) (h1 : ∀ k : Nat, k ≠ 0 → sg2 k = sg k) (h4 : sg2 0 4 = sg 0 4) (h5 : sg2 0 5 = sg 0 5) (hr : ER Y a2 sg2) : EZ z Y pl a2 sg2 := by
  obtain ⟨⟨hY, hO, hP, hR⟩, hz⟩ := h
  refine ⟨⟨hY.cong (fun k h8 _ => h1 k (by omega)), hO.cong (h1 4 (by decide)) (h1 5 (by decide)) (h1 6 (by decide)), ?_, hr⟩, fun k hk => (h1 k (by omega)).trans (hz k hk)⟩
  refine ⟨?_, ?_, ?_, h4.trans hP.2.2.2.1, h5.trans hP.2.2.2.2.1, hP.2.2.2.2.2⟩
  · rw [h1 1 (by decide)]; exact hP.1
  · rw [h1 2 (by decide)]; exact hP.2.1
  · rw [h1 3 (by decide)]; exact hP.2.2.1
theorem EZ_spent {z : Nat → Nat → Int32} {Y : YT} {pl : Nat → Nat} {a : RS} {sg : Nat → Nat → Int32} (h : EZ z Y pl a sg) : EZ z Y pl (a.1, true, a.2.2) (gw_u sg 0 (upd (sg 0) 11 (nI 1))) := by
  refine EZ_f h (fun k hk => w0_n _ _ _ k hk) (m_upd _ (by decide)) (m_upd _ (by decide)) ?_
  obtain ⟨⟨-, -, -, r1, r2, r3, r4, r5, r6⟩, -⟩ := h
  refine ⟨?_, ?_, m_upd_s _ _ _, ?_, ?_, ?_⟩
  · rw [m_upd _ (by decide)]; exact r1
  · rw [m_upd _ (by decide)]; exact r2
  · rw [m_upd _ (by decide)]; exact r4
  · rw [m_upd _ (by decide)]; exact r5
  · rw [w0_n _ _ _ 7 (by decide)]; exact r6
theorem EZ_step {z : Nat → Nat → Int32} {Y : YT} {pl : Nat → Nat} {a : RS} {sg : Nat → Nat → Int32} (h : EZ z Y pl a sg) (hl : a.1 < yLim Y) : EZ z Y pl (a.1 + 1, a.2) (gw_u sg 0 (upd (sg 0) 10 (nI (a.1 + 1)))) := by
  refine EZ_f h (fun k hk => w0_n _ _ _ k hk) (m_upd _ (by decide)) (m_upd _ (by decide)) ?_
  obtain ⟨⟨-, -, -, r1, r2, r3, r4, r5, r6⟩, -⟩ := h
  refine ⟨?_, ⟨m_upd_s _ _ _, hl⟩, ?_, ?_, ?_, ?_⟩
  · rw [m_upd _ (by decide)]; exact r1
  · rw [m_upd _ (by decide)]; exact r3
  · rw [m_upd _ (by decide)]; exact r4
  · rw [m_upd _ (by decide)]; exact r5
  · rw [w0_n _ _ _ 7 (by decide)]; exact r6
theorem stepP_t {lim : Nat} {f : RS → RS} {a : RS} (h : lim ≤ a.1) : stepP lim f a = (a.1, true, a.2.2) := if_pos h
theorem stepP_f {lim : Nat} {f : RS → RS} {a : RS} (h : a.1 < lim) : stepP lim f a = f (a.1 + 1, a.2) := if_neg (Nat.not_le.mpr h)
theorem yIt_stop {Y : YT} {g : (Nat → Nat) → RS → RS} {p : Nat} {pl : Nat → Nat} {a : RS} (h : ¬ (a.2.1 = false ∧ yFit Y (pu pl p (pl p + 1)))) : ∀ r : Nat, yIt Y g p r pl a = a
  | 0 => rfl
  | r + 1 => if_neg h
theorem yIt_go {Y : YT} {g : (Nat → Nat) → RS → RS} {p : Nat} {pl : Nat → Nat} {a : RS} (h1 : a.2.1 = false) (h2 : yFit Y (pu pl p (pl p + 1))) (r : Nat) : yIt Y g p (r + 1) pl a = yIt Y g p r (pu pl p (pl p + 1)) (stepP (yLim Y) (g (pu pl p (pl p + 1))) a) := if_pos ⟨h1, h2⟩
theorem ySrch_0 {Y : YT} {d : Nat} (h : d = 0) (p : Nat) (pl : Nat → Nat) (a : RS) : ySrch Y d p pl a = yLook Y pl a := by subst h; rfl
theorem ySrch_s {Y : YT} {d e : Nat} (h : d = e + 1) (p : Nat) (pl : Nat → Nat) (a : RS) : ySrch Y d p pl a = yIt Y (ySrch Y e (p + 1)) p 12 pl (stepP (yLim Y) (ySrch Y e (p + 1) pl) a) := by subst h; rfl
/-- the loop at i: R is what it comes to -/
def TLP (z : Nat → Nat → Int32) (Y : YT) (pl : Nat → Nat) (k i : Nat) (R a : RS) (sg : Nat → Nat → Int32) : Prop := EZ z Y (pu pl k (i - 1)) a sg ∧ yIt Y (ySrch Y (yN Y - (k + 1)) (k + 1)) k (13 - i) (pu pl k (i - 1)) a = R
theorem TLP_start {z : Nat → Nat → Int32} {Y : YT} {pl : Nat → Nat} {k : Nat} {a b : RS} {sg : Nat → Nat → Int32} (hz : pl k = 0) (hk : k < yN Y) (hb : b = stepP (yLim Y) (ySrch Y (yN Y - (k + 1)) (k + 1) pl) a) (h : EZ z Y pl b sg) : TLP z Y pl k 1 (ySrch Y (yN Y - k) k pl a) b sg := by
  unfold TLP
  rw [show 1 - 1 = 0 by rfl, pu_0 hz]
  exact ⟨h, by rw [ySrch_s (e := yN Y - (k + 1)) (by omega), hb]⟩
theorem TLP_out {z : Nat → Nat → Int32} {Y : YT} {pl : Nat → Nat} {k i : Nat} {R a : RS} {sg : Nat → Nat → Int32} (h : TLP z Y pl k i R a sg) (hk : k < 6) (hz : pl k = 0) (hq : 13 - i = 0 ∨ ¬ a.2.1 = false ∨ ¬ (0 < sg 2 (yCf Y k) ∧ nx sg k ≤ sg 0 4)) : EZ z Y pl R (if sg 1 k = 0 then sg else FT sg k (yCf Y k)) := by
  have h2 := EZ_none h.1 hk
  rw [pu_pu, pu_0 hz] at h2
  have e : a = R := by
    rw [← h.2]
    rcases hq with q | q | q
    · rw [q]; rfl
    · exact (yIt_stop (fun x => q x.1) _).symm
    · exact (yIt_stop (fun x => q ((ES_fits h.1.1 hk).mpr x.2)) _).symm
  rw [← e]
  exact h2
theorem TLP_more {z : Nat → Nat → Int32} {Y : YT} {pl : Nat → Nat} {k i : Nat} {R a : RS} {sg : Nat → Nat → Int32} (h : TLP z Y pl k i R a sg) (hk : k < 6) (h1 : 1 ≤ i) (h2 : i < 13) (hq : 0 < sg 2 (yCf Y k) ∧ nx sg k ≤ sg 0 4) : EZ z Y (pu pl k i) a (FL sg k (yCf Y k)) := by
  have hf := (ES_fits h.1.1 hk).mp hq
  have h3 := EZ_more h.1 hk (by rw [pu_s]; omega) hf
  rwa [pu_s, pu_pu, show i - 1 + 1 = i by omega] at h3
theorem TLP_next {z : Nat → Nat → Int32} {Y : YT} {pl : Nat → Nat} {k i : Nat} {R a b : RS} {sg sg2 : Nat → Nat → Int32} (h : TLP z Y pl k i R a sg) (hk : k < 6) (h1 : 1 ≤ i) (h2 : i < 13) (hs : a.2.1 = false) (hq : 0 < sg 2 (yCf Y k) ∧ nx sg k ≤ sg 0 4) (hb : b = stepP (yLim Y) (ySrch Y (yN Y - (k + 1)) (k + 1) (pu pl k i)) a) (h9 : EZ z Y (pu pl k i) b sg2) : TLP z Y pl k (i + 1) R b sg2 := by
  have hf := (ES_fits h.1.1 hk).mp hq
  have e := h.2
  rw [show 13 - i = (12 - i) + 1 by omega, yIt_go hs hf, pu_s, pu_pu, show i - 1 + 1 = i by omega, ← hb] at e
  unfold TLP
  rw [show i + 1 - 1 = i by omega, show 13 - (i + 1) = 12 - i by omega]
  exact ⟨h9, e⟩
/-- the empty plan -/
def z0 : Nat → Nat := fun _ => 0
theorem sN_z (f : Nat → Nat) (h : ∀ j, f j = 0) : ∀ n : Nat, sN f n = 0
  | 0 => rfl
  | n + 1 => by
    show sN f n + f n = 0
    rw [sN_z f h n, h n]
theorem sW_z (f : Nat → Int32) (h : ∀ j, f j = nI 0) : ∀ n : Nat, sW f n = nI 0
  | 0 => rfl
  | n + 1 => by
    show sW f n + f n = nI 0
    rw [sW_z f h n, h n, nI_add]
theorem tot_z0 (Y : YT) : yTot Y z0 = 0 := sN_z _ (fun j => by simp [z0]) 6
theorem usd_z0 (Y : YT) (c : Nat) : yUsd Y z0 c = 0 := sN_z _ (fun j => by simp [z0]) 6
theorem mad_z0 (Y : YT) (k : Nat) : yMad Y z0 k = ySk Y k := by
  unfold yMad madW
  rw [sW_z _ (fun j => by simp [z0, nI_0]) 6, nI_0, Int32.add_zero]
theorem cst_z0 (Y : YT) : yCst Y z0 = nI 0 := sW_z _ (fun j => by simp [z0, nI_0]) 6
theorem fit_z0 (Y : YT) : yFit Y z0 := ⟨by have := tot_z0 Y; unfold yTot at this; omega, fun c hc => by have := usd_z0 Y c; unfold yUsd at this; omega⟩
theorem FE_n (b : Nat → Nat → Int32) (k : Nat) (h0 : k ≠ 0) (h1 : k ≠ 1) (h2 : k ≠ 2) (h3 : k ≠ 3) : FE b k = b k := by simp [FE, FA, FB, FC, gw_u, h0, h1, h2, h3]
theorem FE_0 (b : Nat → Nat → Int32) (j : Nat) (h4 : j ≠ 4) (h5 : j ≠ 5) : FE b 0 j = b 0 j := by simp [FE, FA, FB, FC, gw_u, upd, h4, h5]
theorem FE_04 (b : Nat → Nat → Int32) : FE b 0 4 = b 8 10 := by simp [FE, FA, FB, FC, gw_u, upd]
theorem FE_05 (b : Nat → Nat → Int32) : FE b 0 5 = nI 0 := by simp [FE, FA, FB, FC, gw_u, upd]
theorem FE_1 (b : Nat → Nat → Int32) (q : Nat) (hq : q < 6) : FE b 1 q = nI 0 := by simp [FE, FA, FB, FC, gw_u, upd, fil, hq]
theorem FE_2 (b : Nat → Nat → Int32) (q : Nat) (hq : q < 4) : FE b 2 q = b 9 q := by simp [FE, FA, FB, FC, gw_u, upd, fil, hq]
theorem FE_3 (b : Nat → Nat → Int32) (q : Nat) (hq : q < 4) : FE b 3 q = b 17 q := by simp [FE, FA, FB, FC, gw_u, upd, fil, hq]
theorem gO_n (b : Nat → Nat → Int32) (x : Int32) (k : Nat) (h4 : k ≠ 4) (h5 : k ≠ 5) (h6 : k ≠ 6) : gO b x 4 k = b k := by simp [gO, gw_u, h4, h5, h6]
theorem gO_4 (b : Nat → Nat → Int32) (x : Int32) (k : Nat) (h : k < 4) : gO b x 4 4 k = oF b x 14 k := by simp [gO, gw_u, fil, h]
theorem gO_5 (b : Nat → Nat → Int32) (x : Int32) (k : Nat) (h : k < 4) : gO b x 4 5 k = oF b x 15 k := by simp [gO, gw_u, fil, h]
theorem gO_6 (b : Nat → Nat → Int32) (x : Int32) (k : Nat) (h : k < 4) : gO b x 4 6 k = oF b x 16 k := by simp [gO, gw_u, fil, h]
/-- the orders of a search that leaves x out -/
def EQ (Y : YT) (x : Int32) (sg : Nat → Nat → Int32) : Prop := ∀ k : Nat, k < 4 → oF sg x 14 k = yLs Y k ∧ oF sg x 15 k = yMs Y k ∧ oF sg x 16 k = yWo Y k
theorem EZ_start {Y : YT} {x : Int32} {sg s2 : Nat → Nat → Int32} (hY : EY Y sg) (hl : yLim Y ≤ 20000) (hQ : EQ Y x sg) (hn : ∀ k : Nat, k ≠ 0 → s2 k = gO (FE sg) x 4 k) (h0 : ∀ j : Nat, j < 9 → s2 0 j = FE sg 0 j) (h9 : s2 0 9 = nI (yLim Y)) (h10 : s2 0 10 = nI 0) (h11 : s2 0 11 = nI 0) (h12 : s2 0 12 = nI 0) (h13 : s2 0 13 = sg 0 13) : EZ sg Y z0 (0, false, false, sg 0 13, sg 7) s2 := by
  have hi : ∀ k : Nat, 8 ≤ k → s2 k = sg k := fun k hk => by rw [hn k (by omega), gO_n _ _ _ (by omega) (by omega) (by omega), FE_n _ _ (by omega) (by omega) (by omega) (by omega)]
  have ho : ∀ c k : Nat, 8 ≤ c → oF (FE sg) x c k = oF sg x c k := fun c k hc => by
    unfold oF
    rw [FE_n _ c (by omega) (by omega) (by omega) (by omega)]
  refine ⟨⟨hY.cong (fun k h8 _ => hi k h8), fun k hk => ?_, ⟨?_, ?_, ?_, ?_, ?_, fit_z0 Y⟩, ⟨⟨h9, hl⟩, ⟨h10, Nat.zero_le _⟩, h11, h12, h13, ?_⟩⟩, hi⟩
  · rw [hn 4 (by decide), hn 5 (by decide), hn 6 (by decide), gO_4 _ _ k hk, gO_5 _ _ k hk, gO_6 _ _ k hk, ho 14 k (by decide), ho 15 k (by decide), ho 16 k (by decide)]
    exact hQ k hk
  · intro q hq
    rw [hn 1 (by decide), gO_n _ _ 1 (by decide) (by decide) (by decide), FE_1 _ q hq]
    exact ⟨rfl, by simp [z0]⟩
  · intro c hc
    rw [hn 2 (by decide), gO_n _ _ 2 (by decide) (by decide) (by decide), FE_2 _ c hc, (hY.2.2.2.1 c hc).1, usd_z0]
    rfl
  · intro k hk
    rw [hn 3 (by decide), gO_n _ _ 3 (by decide) (by decide) (by decide), FE_3 _ k hk, mad_z0]
    exact hY.2.2.2.2.2.2.2.1 k hk
  · rw [h0 4 (by decide), FE_04, hY.2.1.1, tot_z0]
    rfl
  · rw [h0 5 (by decide), FE_05, cst_z0]
  · intro q hq
    rw [hn 7 (by decide), gO_n _ _ 7 (by decide) (by decide) (by decide), FE_n _ 7 (by decide) (by decide) (by decide) (by decide)]
theorem IvG.cong9 {y kp c : Nat} {a b : Nat → Nat → Int32} (h : IvG y kp c a) (e1 : b y = a y) (e2 : b c = a c) : IvG y kp c b := by
  refine ⟨?_, ?_⟩
  · rw [e1]; exact h.1
  · rw [e2]; exact h.2
