/-! WHAT WAS TOLD AND DONE, as a value: data, found, gain, plan, days, earned. -/
abbrev TS : Type := YT × Bool × Int32 × (Nat → Nat) × Int32 × Int32
def nt (x : Int32) : Nat := x.toInt.toNat
theorem nt_nI {n : Nat} (h : n < 2 ^ 31) : nt (nI n) = n := by
  unfold nt
  rw [nI_toInt h]
  rfl
def sLg (T : TS) (j b : Nat) : TS := ((yN T.1, yLim T.1, yCh T.1, yHr T.1, yMn T.1, yCf T.1, pu (yLg T.1) j b, yCt T.1, ySk T.1, yLs T.1, yMs T.1, yWo T.1, yGv T.1), T.2)
def sCt (T : TS) (j : Nat) (x : Int32) : TS := ((yN T.1, yLim T.1, yCh T.1, yHr T.1, yMn T.1, yCf T.1, yLg T.1, upd (yCt T.1) j x, ySk T.1, yLs T.1, yMs T.1, yWo T.1, yGv T.1), T.2)
def sCf (T : TS) (j b : Nat) : TS := ((yN T.1, yLim T.1, yCh T.1, yHr T.1, yMn T.1, pu (yCf T.1) j b, yLg T.1, yCt T.1, ySk T.1, yLs T.1, yMs T.1, yWo T.1, yGv T.1), T.2)
def sMn (T : TS) (j b : Nat) : TS := ((yN T.1, yLim T.1, yCh T.1, yHr T.1, pu (yMn T.1) j b, yCf T.1, yLg T.1, yCt T.1, ySk T.1, yLs T.1, yMs T.1, yWo T.1, yGv T.1), T.2)
def sNn (T : TS) (n : Nat) : TS := ((n, yLim T.1, yCh T.1, yHr T.1, yMn T.1, yCf T.1, yLg T.1, yCt T.1, ySk T.1, yLs T.1, yMs T.1, yWo T.1, yGv T.1), T.2)
def sHr (T : TS) (n : Nat) : TS := ((yN T.1, yLim T.1, yCh T.1, n, yMn T.1, yCf T.1, yLg T.1, yCt T.1, ySk T.1, yLs T.1, yMs T.1, yWo T.1, yGv T.1), T.2)
def sCh (T : TS) (n : Nat) : TS := ((yN T.1, yLim T.1, n, yHr T.1, yMn T.1, yCf T.1, yLg T.1, yCt T.1, ySk T.1, yLs T.1, yMs T.1, yWo T.1, yGv T.1), T.2)
def sLim (T : TS) (n : Nat) : TS := ((yN T.1, n, yCh T.1, yHr T.1, yMn T.1, yCf T.1, yLg T.1, yCt T.1, ySk T.1, yLs T.1, yMs T.1, yWo T.1, yGv T.1), T.2)
def sGv (T : TS) (j k : Nat) (x : Int32) : TS := ((yN T.1, yLim T.1, yCh T.1, yHr T.1, yMn T.1, yCf T.1, yLg T.1, yCt T.1, ySk T.1, yLs T.1, yMs T.1, yWo T.1, fun p => if p = j then upd (yGv T.1 p) k x else yGv T.1 p), T.2)
def sLs (T : TS) (j : Nat) (x : Int32) : TS := ((yN T.1, yLim T.1, yCh T.1, yHr T.1, yMn T.1, yCf T.1, yLg T.1, yCt T.1, ySk T.1, upd (yLs T.1) j x, yMs T.1, yWo T.1, yGv T.1), T.2)
def sMs (T : TS) (j : Nat) (x : Int32) : TS := ((yN T.1, yLim T.1, yCh T.1, yHr T.1, yMn T.1, yCf T.1, yLg T.1, yCt T.1, ySk T.1, yLs T.1, upd (yMs T.1) j x, yWo T.1, yGv T.1), T.2)
def sWo (T : TS) (j : Nat) (x : Int32) : TS := ((yN T.1, yLim T.1, yCh T.1, yHr T.1, yMn T.1, yCf T.1, yLg T.1, yCt T.1, ySk T.1, yLs T.1, yMs T.1, upd (yWo T.1) j x, yGv T.1), T.2)
def sSk (T : TS) (j : Nat) (x : Int32) : TS := ((yN T.1, yLim T.1, yCh T.1, yHr T.1, yMn T.1, yCf T.1, yLg T.1, yCt T.1, upd (ySk T.1) j x, yLs T.1, yMs T.1, yWo T.1, yGv T.1), T.2)
def sFo (T : TS) (b : Bool) : TS := (T.1, b, T.2.2)
def sDy (T : TS) (x : Int32) : TS := (T.1, T.2.1, T.2.2.1, T.2.2.2.1, x, T.2.2.2.2.2)
def sEr (T : TS) (x : Int32) : TS := (T.1, T.2.1, T.2.2.1, T.2.2.2.1, T.2.2.2.2.1, x)
def ECy (Y : YT) (sg : Nat → Nat → Int32) : Prop := (yN Y ≤ 6 ∧ sg 1 9 = nI (yN Y)) ∧ (sg 1 10 = nI (yHr Y) ∧ yHr Y ≤ 1440) ∧ (sg 1 11 = nI (yCh Y) ∧ yCh Y ≤ 1440) ∧ (∀ c : Nat, c < 4 → sg 4 c = nI (yLg Y c) ∧ yLg Y c ≤ 1000) ∧ (∀ c : Nat, c < 4 → sg 5 c = yCt Y c) ∧ (∀ p : Nat, p < 6 → sg 6 p = nI (yCf Y p) ∧ yCf Y p < 4) ∧ (∀ p : Nat, p < 6 → sg 7 p = nI (yMn Y p) ∧ yMn Y p ≤ 480) ∧ (∀ k : Nat, k < 4 → sg 12 k = ySk Y k) ∧ (∀ p k : Nat, p < 6 → k < 4 → sg (13 + p) k = yGv Y p k) ∧ ∀ k : Nat, k < 4 → sg 9 k = yLs Y k ∧ sg 10 k = yMs Y k ∧ sg 11 k = yWo Y k
def EC (T : TS) (sg : Nat → Nat → Int32) : Prop := ECy T.1 sg ∧ sg 2 12 = b2 T.2.1 ∧ (T.2.1 = true → sg 2 13 = T.2.2.1 ∧ ∀ q : Nat, q < 6 → sg 25 q = nI (T.2.2.2.1 q)) ∧ sg 0 4 = T.2.2.2.2.1 ∧ sg 0 5 = T.2.2.2.2.2
def EM (T : TS) (sg : Nat → Nat → Int32) : Prop := MY T.1 sg ∧ sg 0 16 = b2 T.2.1 ∧ (T.2.1 = true → sg 0 20 = T.2.2.1 ∧ ∀ q : Nat, q < 6 → sg 10 q = nI (T.2.2.2.1 q)) ∧ sg 0 13 = T.2.2.2.2.1 ∧ sg 0 14 = T.2.2.2.2.2
def TOk (T : TS) : Prop := T.2.1 = true → (∀ q : Nat, T.2.2.2.1 q ≤ 12) ∧ yFit T.1 T.2.2.2.1 ∧ ∀ q : Nat, yN T.1 ≤ q → T.2.2.2.1 q = 0
theorem ECy.cong {Y : YT} {a b : Nat → Nat → Int32} (h : ECy Y a) (e : ∀ k : Nat, k = 1 ∨ (4 ≤ k ∧ k < 19) → b k = a k) : ECy Y b := by
  obtain ⟨h1, h2, h3, h4, h5, h6, h7, h8, h9, h10⟩ := h
  refine ⟨?_, ?_, ?_, ?_, ?_, ?_, ?_, ?_, fun p k hp hk => ?_, ?_⟩
  · rw [e 1 (by decide)]; exact h1
  · rw [e 1 (by decide)]; exact h2
  · rw [e 1 (by decide)]; exact h3
  · rw [e 4 (by decide)]; exact h4
  · rw [e 5 (by decide)]; exact h5
  · rw [e 6 (by decide)]; exact h6
  · rw [e 7 (by decide)]; exact h7
  · rw [e 12 (by decide)]; exact h8
  · rw [e (13 + p) (by omega)]; exact h9 p k hp hk
  · rw [e 9 (by decide), e 10 (by decide), e 11 (by decide)]; exact h10
theorem EC.cong {T : TS} {a b : Nat → Nat → Int32} (h : EC T a) (e : ∀ k : Nat, k < 33 → b k = a k) : EC T b := by
  obtain ⟨h0, h1, h2, h3, h4⟩ := h
  refine ⟨h0.cong (fun k hk => e k (by omega)), ?_, ?_, ?_, ?_⟩
  · rw [e 2 (by decide)]; exact h1
  · rw [e 2 (by decide), e 25 (by decide)]; exact h2
  · rw [e 0 (by decide)]; exact h3
  · rw [e 0 (by decide)]; exact h4
theorem EM.cong {T : TS} {a b : Nat → Nat → Int32} (h : EM T a) (e : ∀ k : Nat, k < 13 → b k = a k) : EM T b := by
  obtain ⟨h0, h1, h2, h3, h4⟩ := h
  refine ⟨h0.cong (fun k _ hk => e k (by omega)) (by rw [e 0 (by decide)]) (by rw [e 0 (by decide)]) (by rw [e 0 (by decide)]), ?_, ?_, ?_, ?_⟩
  · rw [e 0 (by decide)]; exact h1
  · rw [e 0 (by decide), e 10 (by decide)]; exact h2
  · rw [e 0 (by decide)]; exact h3
  · rw [e 0 (by decide)]; exact h4
theorem cw_Lg {T : TS} {sg : Nat → Nat → Int32} (h : EC T sg) {j b : Nat} (hb : b ≤ 1000) : EC (sLg T j b) (gw_u sg 4 (upd (sg 4) j (nI b))) := by
  obtain ⟨⟨h1, h2, h3, h4, h5, h6, h7, h8, h9, h10⟩, f1, f2, f3, f4⟩ := h
  refine ⟨⟨?_, ?_, ?_, ?_, ?_, ?_, ?_, ?_, ?_, ?_⟩, ?_, ?_, ?_, ?_⟩
  · exact h1
  · exact h2
  · exact h3
  · intro c hc
    show upd (sg 4) j (nI b) c = nI (pu (yLg T.1) j b c) ∧ pu (yLg T.1) j b c ≤ 1000
    unfold upd pu
    by_cases e : c = j
    · rw [if_pos e, if_pos e]; exact ⟨rfl, hb⟩
    · rw [if_neg e, if_neg e]; exact h4 c hc
  · exact h5
  · exact h6
  · exact h7
  · exact h8
  · intro p k hp hk; rw [gw_u_n _ _ (by omega)]; exact h9 p k hp hk
  · exact h10
  · exact f1
  · exact f2
  · exact f3
  · exact f4
theorem cw_Cf {T : TS} {sg : Nat → Nat → Int32} (h : EC T sg) {j b : Nat} (hb : b < 4) : EC (sCf T j b) (gw_u sg 6 (upd (sg 6) j (nI b))) := by
  obtain ⟨⟨h1, h2, h3, h4, h5, h6, h7, h8, h9, h10⟩, f1, f2, f3, f4⟩ := h
  refine ⟨⟨?_, ?_, ?_, ?_, ?_, ?_, ?_, ?_, ?_, ?_⟩, ?_, ?_, ?_, ?_⟩
  · exact h1
  · exact h2
  · exact h3
  · exact h4
  · exact h5
  · intro c hc
    show upd (sg 6) j (nI b) c = nI (pu (yCf T.1) j b c) ∧ pu (yCf T.1) j b c < 4
    unfold upd pu
    by_cases e : c = j
    · rw [if_pos e, if_pos e]; exact ⟨rfl, hb⟩
    · rw [if_neg e, if_neg e]; exact h6 c hc
  · exact h7
  · exact h8
  · intro p k hp hk; rw [gw_u_n _ _ (by omega)]; exact h9 p k hp hk
  · exact h10
  · exact f1
  · exact f2
  · exact f3
  · exact f4
theorem cw_Mn {T : TS} {sg : Nat → Nat → Int32} (h : EC T sg) {j b : Nat} (hb : b ≤ 480) : EC (sMn T j b) (gw_u sg 7 (upd (sg 7) j (nI b))) := by
  obtain ⟨⟨h1, h2, h3, h4, h5, h6, h7, h8, h9, h10⟩, f1, f2, f3, f4⟩ := h
  refine ⟨⟨?_, ?_, ?_, ?_, ?_, ?_, ?_, ?_, ?_, ?_⟩, ?_, ?_, ?_, ?_⟩
  · exact h1
  · exact h2
  · exact h3
  · exact h4
  · exact h5
  · exact h6
  · intro c hc
    show upd (sg 7) j (nI b) c = nI (pu (yMn T.1) j b c) ∧ pu (yMn T.1) j b c ≤ 480
    unfold upd pu
    by_cases e : c = j
    · rw [if_pos e, if_pos e]; exact ⟨rfl, hb⟩
    · rw [if_neg e, if_neg e]; exact h7 c hc
  · exact h8
  · intro p k hp hk; rw [gw_u_n _ _ (by omega)]; exact h9 p k hp hk
  · exact h10
  · exact f1
  · exact f2
  · exact f3
  · exact f4
theorem cw_Ct {T : TS} {sg : Nat → Nat → Int32} (h : EC T sg) {j : Nat} {x : Int32} : EC (sCt T j x) (gw_u sg 5 (upd (sg 5) j (x))) := by
  obtain ⟨⟨h1, h2, h3, h4, h5, h6, h7, h8, h9, h10⟩, f1, f2, f3, f4⟩ := h
  refine ⟨⟨?_, ?_, ?_, ?_, ?_, ?_, ?_, ?_, ?_, ?_⟩, ?_, ?_, ?_, ?_⟩
  · exact h1
  · exact h2
  · exact h3
  · exact h4
  · intro c hc
    show upd (sg 5) j x c = upd (yCt T.1) j x c
    unfold upd
    by_cases e : c = j
    · rw [if_pos e, if_pos e]
    · rw [if_neg e, if_neg e]; exact h5 c hc
  · exact h6
  · exact h7
  · exact h8
  · intro p k hp hk; rw [gw_u_n _ _ (by omega)]; exact h9 p k hp hk
  · exact h10
  · exact f1
  · exact f2
  · exact f3
  · exact f4
theorem cw_Sk {T : TS} {sg : Nat → Nat → Int32} (h : EC T sg) {j : Nat} {x : Int32} : EC (sSk T j x) (gw_u sg 12 (upd (sg 12) j (x))) := by
  obtain ⟨⟨h1, h2, h3, h4, h5, h6, h7, h8, h9, h10⟩, f1, f2, f3, f4⟩ := h
  refine ⟨⟨?_, ?_, ?_, ?_, ?_, ?_, ?_, ?_, ?_, ?_⟩, ?_, ?_, ?_, ?_⟩
  · exact h1
  · exact h2
  · exact h3
  · exact h4
  · exact h5
  · exact h6
  · exact h7
  · intro c hc
    show upd (sg 12) j x c = upd (ySk T.1) j x c
    unfold upd
    by_cases e : c = j
    · rw [if_pos e, if_pos e]
    · rw [if_neg e, if_neg e]; exact h8 c hc
  · intro p k hp hk; rw [gw_u_n _ _ (by omega)]; exact h9 p k hp hk
  · exact h10
  · exact f1
  · exact f2
  · exact f3
  · exact f4
theorem cw_Ls {T : TS} {sg : Nat → Nat → Int32} (h : EC T sg) {j : Nat} {x : Int32} : EC (sLs T j x) (gw_u sg 9 (upd (sg 9) j (x))) := by
  obtain ⟨⟨h1, h2, h3, h4, h5, h6, h7, h8, h9, h10⟩, f1, f2, f3, f4⟩ := h
  refine ⟨⟨?_, ?_, ?_, ?_, ?_, ?_, ?_, ?_, ?_, ?_⟩, ?_, ?_, ?_, ?_⟩
  · exact h1
  · exact h2
  · exact h3
  · exact h4
  · exact h5
  · exact h6
  · exact h7
  · exact h8
  · intro p k hp hk; rw [gw_u_n _ _ (by omega)]; exact h9 p k hp hk
  · intro k hk
    show upd (sg 9) j x k = upd (yLs T.1) j x k ∧ sg 10 k = yMs T.1 k ∧ sg 11 k = yWo T.1 k
    obtain ⟨q1, q2, q3⟩ := h10 k hk
    unfold upd
    by_cases e : k = j
    · rw [if_pos e, if_pos e]; exact ⟨rfl, q2, q3⟩
    · rw [if_neg e, if_neg e]; exact ⟨q1, q2, q3⟩
  · exact f1
  · exact f2
  · exact f3
  · exact f4
theorem cw_Ms {T : TS} {sg : Nat → Nat → Int32} (h : EC T sg) {j : Nat} {x : Int32} : EC (sMs T j x) (gw_u sg 10 (upd (sg 10) j (x))) := by
  obtain ⟨⟨h1, h2, h3, h4, h5, h6, h7, h8, h9, h10⟩, f1, f2, f3, f4⟩ := h
  refine ⟨⟨?_, ?_, ?_, ?_, ?_, ?_, ?_, ?_, ?_, ?_⟩, ?_, ?_, ?_, ?_⟩
  · exact h1
  · exact h2
  · exact h3
  · exact h4
  · exact h5
  · exact h6
  · exact h7
  · exact h8
  · intro p k hp hk; rw [gw_u_n _ _ (by omega)]; exact h9 p k hp hk
  · intro k hk
    show sg 9 k = yLs T.1 k ∧ upd (sg 10) j x k = upd (yMs T.1) j x k ∧ sg 11 k = yWo T.1 k
    obtain ⟨q1, q2, q3⟩ := h10 k hk
    unfold upd
    by_cases e : k = j
    · rw [if_pos e, if_pos e]; exact ⟨q1, rfl, q3⟩
    · rw [if_neg e, if_neg e]; exact ⟨q1, q2, q3⟩
  · exact f1
  · exact f2
  · exact f3
  · exact f4
theorem cw_Wo {T : TS} {sg : Nat → Nat → Int32} (h : EC T sg) {j : Nat} {x : Int32} : EC (sWo T j x) (gw_u sg 11 (upd (sg 11) j (x))) := by
  obtain ⟨⟨h1, h2, h3, h4, h5, h6, h7, h8, h9, h10⟩, f1, f2, f3, f4⟩ := h
  refine ⟨⟨?_, ?_, ?_, ?_, ?_, ?_, ?_, ?_, ?_, ?_⟩, ?_, ?_, ?_, ?_⟩
  · exact h1
  · exact h2
  · exact h3
  · exact h4
  · exact h5
  · exact h6
  · exact h7
  · exact h8
  · intro p k hp hk; rw [gw_u_n _ _ (by omega)]; exact h9 p k hp hk
  · intro k hk
    show sg 9 k = yLs T.1 k ∧ sg 10 k = yMs T.1 k ∧ upd (sg 11) j x k = upd (yWo T.1) j x k
    obtain ⟨q1, q2, q3⟩ := h10 k hk
    unfold upd
    by_cases e : k = j
    · rw [if_pos e, if_pos e]; exact ⟨q1, q2, rfl⟩
    · rw [if_neg e, if_neg e]; exact ⟨q1, q2, q3⟩
  · exact f1
  · exact f2
  · exact f3
  · exact f4
theorem cw_N {T : TS} {sg : Nat → Nat → Int32} (h : EC T sg) {n : Nat} (hb : n ≤ 6) : EC (sNn T n) (gw_u sg 1 (upd (sg 1) 9 (nI n))) := by
  obtain ⟨⟨h1, h2, h3, h4, h5, h6, h7, h8, h9, h10⟩, f1, f2, f3, f4⟩ := h
  refine ⟨⟨?_, ?_, ?_, ?_, ?_, ?_, ?_, ?_, ?_, ?_⟩, ?_, ?_, ?_, ?_⟩
  · exact ⟨hb, rfl⟩
  · exact h2
  · exact h3
  · exact h4
  · exact h5
  · exact h6
  · exact h7
  · exact h8
  · intro p k hp hk; rw [gw_u_n _ _ (by omega)]; exact h9 p k hp hk
  · exact h10
  · exact f1
  · exact f2
  · exact f3
  · exact f4
theorem cw_Hr {T : TS} {sg : Nat → Nat → Int32} (h : EC T sg) {n : Nat} (hb : n ≤ 1440) : EC (sHr T n) (gw_u sg 1 (upd (sg 1) 10 (nI n))) := by
  obtain ⟨⟨h1, h2, h3, h4, h5, h6, h7, h8, h9, h10⟩, f1, f2, f3, f4⟩ := h
  refine ⟨⟨?_, ?_, ?_, ?_, ?_, ?_, ?_, ?_, ?_, ?_⟩, ?_, ?_, ?_, ?_⟩
  · exact h1
  · exact ⟨rfl, hb⟩
  · exact h3
  · exact h4
  · exact h5
  · exact h6
  · exact h7
  · exact h8
  · intro p k hp hk; rw [gw_u_n _ _ (by omega)]; exact h9 p k hp hk
  · exact h10
  · exact f1
  · exact f2
  · exact f3
  · exact f4
theorem cw_Ch {T : TS} {sg : Nat → Nat → Int32} (h : EC T sg) {n : Nat} (hb : n ≤ 1440) : EC (sCh T n) (gw_u sg 1 (upd (sg 1) 11 (nI n))) := by
  obtain ⟨⟨h1, h2, h3, h4, h5, h6, h7, h8, h9, h10⟩, f1, f2, f3, f4⟩ := h
  refine ⟨⟨?_, ?_, ?_, ?_, ?_, ?_, ?_, ?_, ?_, ?_⟩, ?_, ?_, ?_, ?_⟩
  · exact h1
  · exact h2
  · exact ⟨rfl, hb⟩
  · exact h4
  · exact h5
  · exact h6
  · exact h7
  · exact h8
  · intro p k hp hk; rw [gw_u_n _ _ (by omega)]; exact h9 p k hp hk
  · exact h10
  · exact f1
  · exact f2
  · exact f3
  · exact f4
theorem cw_Gv {T : TS} {sg : Nat → Nat → Int32} (h : EC T sg) {j k : Nat} {x : Int32} (hj : j < 6) : EC (sGv T j k x) (gw_u sg (13 + j) (upd (sg (13 + j)) k x)) := by
  have e : ∀ i : Nat, i < 13 ∨ i = 25 → gw_u sg (13 + j) (upd (sg (13 + j)) k x) i = sg i := fun i hi => gw_u_n _ _ (by omega)
  obtain ⟨⟨h1, h2, h3, h4, h5, h6, h7, h8, h9, h10⟩, f1, f2, f3, f4⟩ := h
  refine ⟨⟨?_, ?_, ?_, ?_, ?_, ?_, ?_, ?_, ?_, ?_⟩, ?_, ?_, ?_, ?_⟩
  · rw [e 1 (by decide)]; exact h1
  · rw [e 1 (by decide)]; exact h2
  · rw [e 1 (by decide)]; exact h3
  · rw [e 4 (by decide)]; exact h4
  · rw [e 5 (by decide)]; exact h5
  · rw [e 6 (by decide)]; exact h6
  · rw [e 7 (by decide)]; exact h7
  · rw [e 12 (by decide)]; exact h8
  · intro p q hp hq
    show gw_u sg (13 + j) (upd (sg (13 + j)) k x) (13 + p) q = (if p = j then upd (yGv T.1 p) k x else yGv T.1 p) q
    by_cases e2 : p = j
    · subst e2
      rw [gw_u_s, if_pos rfl]
      unfold upd
      by_cases e3 : q = k
      · rw [if_pos e3, if_pos e3]
      · rw [if_neg e3, if_neg e3]; exact h9 p q hp hq
    · rw [gw_u_n _ _ (by omega), if_neg e2]; exact h9 p q hp hq
  · rw [e 9 (by decide), e 10 (by decide), e 11 (by decide)]; exact h10
  · rw [e 2 (by decide)]; exact f1
  · rw [e 2 (by decide), e 25 (by decide)]; exact f2
  · rw [e 0 (by decide)]; exact f3
  · rw [e 0 (by decide)]; exact f4
theorem cw_dy {T : TS} {sg : Nat → Nat → Int32} (h : EC T sg) {x : Int32} : EC (sDy T x) (gw_u sg 0 (upd (sg 0) 4 (x))) := by
  obtain ⟨⟨h1, h2, h3, h4, h5, h6, h7, h8, h9, h10⟩, f1, f2, f3, f4⟩ := h
  refine ⟨⟨?_, ?_, ?_, ?_, ?_, ?_, ?_, ?_, ?_, ?_⟩, ?_, ?_, ?_, ?_⟩
  · exact h1
  · exact h2
  · exact h3
  · exact h4
  · exact h5
  · exact h6
  · exact h7
  · exact h8
  · intro p k hp hk; rw [gw_u_n _ _ (by omega)]; exact h9 p k hp hk
  · exact h10
  · exact f1
  · exact f2
  · exact rfl
  · exact f4
theorem cw_er {T : TS} {sg : Nat → Nat → Int32} (h : EC T sg) {x : Int32} : EC (sEr T x) (gw_u sg 0 (upd (sg 0) 5 (x))) := by
  obtain ⟨⟨h1, h2, h3, h4, h5, h6, h7, h8, h9, h10⟩, f1, f2, f3, f4⟩ := h
  refine ⟨⟨?_, ?_, ?_, ?_, ?_, ?_, ?_, ?_, ?_, ?_⟩, ?_, ?_, ?_, ?_⟩
  · exact h1
  · exact h2
  · exact h3
  · exact h4
  · exact h5
  · exact h6
  · exact h7
  · exact h8
  · intro p k hp hk; rw [gw_u_n _ _ (by omega)]; exact h9 p k hp hk
  · exact h10
  · exact f1
  · exact f2
  · exact f3
  · exact rfl
theorem cw_fo {T : TS} {sg : Nat → Nat → Int32} (h : EC T sg) : EC (sFo T false) (gw_u sg 2 (upd (sg 2) 12 (nI 0))) := by
  obtain ⟨⟨h1, h2, h3, h4, h5, h6, h7, h8, h9, h10⟩, f1, f2, f3, f4⟩ := h
  refine ⟨⟨?_, ?_, ?_, ?_, ?_, ?_, ?_, ?_, ?_, ?_⟩, ?_, ?_, ?_, ?_⟩
  · exact h1
  · exact h2
  · exact h3
  · exact h4
  · exact h5
  · exact h6
  · exact h7
  · exact h8
  · intro p k hp hk; rw [gw_u_n _ _ (by omega)]; exact h9 p k hp hk
  · exact h10
  · exact rfl
  · exact fun q => Bool.noConfusion q
  · exact f3
  · exact f4
theorem mw_Lg {T : TS} {sg : Nat → Nat → Int32} (h : EM T sg) {j b : Nat} (hb : b ≤ 1000) : EM (sLg T j b) (gw_u sg 1 (upd (sg 1) j (nI b))) := by
  obtain ⟨⟨h1, h2, h3, h4, h5, h6, h7, h8, h9, h10⟩, f1, f2, f3, f4⟩ := h
  refine ⟨⟨?_, ?_, ?_, ?_, ?_, ?_, ?_, ?_, ?_, ?_⟩, ?_, ?_, ?_, ?_⟩
  · exact h1
  · exact h2
  · exact h3
  · intro c hc
    show upd (sg 1) j (nI b) c = nI (pu (yLg T.1) j b c) ∧ pu (yLg T.1) j b c ≤ 1000
    unfold upd pu
    by_cases e : c = j
    · rw [if_pos e, if_pos e]; exact ⟨rfl, hb⟩
    · rw [if_neg e, if_neg e]; exact h4 c hc
  · exact h5
  · exact h6
  · exact h7
  · exact h8
  · exact h9
  · exact h10
  · exact f1
  · exact f2
  · exact f3
  · exact f4
theorem mw_Cf {T : TS} {sg : Nat → Nat → Int32} (h : EM T sg) {j b : Nat} (hb : b < 4) : EM (sCf T j b) (gw_u sg 3 (upd (sg 3) j (nI b))) := by
  obtain ⟨⟨h1, h2, h3, h4, h5, h6, h7, h8, h9, h10⟩, f1, f2, f3, f4⟩ := h
  refine ⟨⟨?_, ?_, ?_, ?_, ?_, ?_, ?_, ?_, ?_, ?_⟩, ?_, ?_, ?_, ?_⟩
  · exact h1
  · exact h2
  · exact h3
  · exact h4
  · exact h5
  · intro c hc
    show upd (sg 3) j (nI b) c = nI (pu (yCf T.1) j b c) ∧ pu (yCf T.1) j b c < 4
    unfold upd pu
    by_cases e : c = j
    · rw [if_pos e, if_pos e]; exact ⟨rfl, hb⟩
    · rw [if_neg e, if_neg e]; exact h6 c hc
  · exact h7
  · exact h8
  · exact h9
  · exact h10
  · exact f1
  · exact f2
  · exact f3
  · exact f4
theorem mw_Mn {T : TS} {sg : Nat → Nat → Int32} (h : EM T sg) {j b : Nat} (hb : b ≤ 480) : EM (sMn T j b) (gw_u sg 4 (upd (sg 4) j (nI b))) := by
  obtain ⟨⟨h1, h2, h3, h4, h5, h6, h7, h8, h9, h10⟩, f1, f2, f3, f4⟩ := h
  refine ⟨⟨?_, ?_, ?_, ?_, ?_, ?_, ?_, ?_, ?_, ?_⟩, ?_, ?_, ?_, ?_⟩
  · exact h1
  · exact h2
  · exact h3
  · exact h4
  · exact h5
  · exact h6
  · intro c hc
    show upd (sg 4) j (nI b) c = nI (pu (yMn T.1) j b c) ∧ pu (yMn T.1) j b c ≤ 480
    unfold upd pu
    by_cases e : c = j
    · rw [if_pos e, if_pos e]; exact ⟨rfl, hb⟩
    · rw [if_neg e, if_neg e]; exact h7 c hc
  · exact h8
  · exact h9
  · exact h10
  · exact f1
  · exact f2
  · exact f3
  · exact f4
theorem mw_Ct {T : TS} {sg : Nat → Nat → Int32} (h : EM T sg) {j : Nat} {x : Int32} : EM (sCt T j x) (gw_u sg 2 (upd (sg 2) j (x))) := by
  obtain ⟨⟨h1, h2, h3, h4, h5, h6, h7, h8, h9, h10⟩, f1, f2, f3, f4⟩ := h
  refine ⟨⟨?_, ?_, ?_, ?_, ?_, ?_, ?_, ?_, ?_, ?_⟩, ?_, ?_, ?_, ?_⟩
  · exact h1
  · exact h2
  · exact h3
  · exact h4
  · intro c hc
    show upd (sg 2) j x c = upd (yCt T.1) j x c
    unfold upd
    by_cases e : c = j
    · rw [if_pos e, if_pos e]
    · rw [if_neg e, if_neg e]; exact h5 c hc
  · exact h6
  · exact h7
  · exact h8
  · exact h9
  · exact h10
  · exact f1
  · exact f2
  · exact f3
  · exact f4
theorem mw_Sk {T : TS} {sg : Nat → Nat → Int32} (h : EM T sg) {j : Nat} {x : Int32} : EM (sSk T j x) (gw_u sg 9 (upd (sg 9) j (x))) := by
  obtain ⟨⟨h1, h2, h3, h4, h5, h6, h7, h8, h9, h10⟩, f1, f2, f3, f4⟩ := h
  refine ⟨⟨?_, ?_, ?_, ?_, ?_, ?_, ?_, ?_, ?_, ?_⟩, ?_, ?_, ?_, ?_⟩
  · exact h1
  · exact h2
  · exact h3
  · exact h4
  · exact h5
  · exact h6
  · exact h7
  · intro c hc
    show upd (sg 9) j x c = upd (ySk T.1) j x c
    unfold upd
    by_cases e : c = j
    · rw [if_pos e, if_pos e]
    · rw [if_neg e, if_neg e]; exact h8 c hc
  · exact h9
  · exact h10
  · exact f1
  · exact f2
  · exact f3
  · exact f4
theorem mw_Ls {T : TS} {sg : Nat → Nat → Int32} (h : EM T sg) {j : Nat} {x : Int32} : EM (sLs T j x) (gw_u sg 6 (upd (sg 6) j (x))) := by
  obtain ⟨⟨h1, h2, h3, h4, h5, h6, h7, h8, h9, h10⟩, f1, f2, f3, f4⟩ := h
  refine ⟨⟨?_, ?_, ?_, ?_, ?_, ?_, ?_, ?_, ?_, ?_⟩, ?_, ?_, ?_, ?_⟩
  · exact h1
  · exact h2
  · exact h3
  · exact h4
  · exact h5
  · exact h6
  · exact h7
  · exact h8
  · exact h9
  · intro k hk
    show upd (sg 6) j x k = upd (yLs T.1) j x k ∧ sg 7 k = yMs T.1 k ∧ sg 8 k = yWo T.1 k
    obtain ⟨q1, q2, q3⟩ := h10 k hk
    unfold upd
    by_cases e : k = j
    · rw [if_pos e, if_pos e]; exact ⟨rfl, q2, q3⟩
    · rw [if_neg e, if_neg e]; exact ⟨q1, q2, q3⟩
  · exact f1
  · exact f2
  · exact f3
  · exact f4
theorem mw_Ms {T : TS} {sg : Nat → Nat → Int32} (h : EM T sg) {j : Nat} {x : Int32} : EM (sMs T j x) (gw_u sg 7 (upd (sg 7) j (x))) := by
  obtain ⟨⟨h1, h2, h3, h4, h5, h6, h7, h8, h9, h10⟩, f1, f2, f3, f4⟩ := h
  refine ⟨⟨?_, ?_, ?_, ?_, ?_, ?_, ?_, ?_, ?_, ?_⟩, ?_, ?_, ?_, ?_⟩
  · exact h1
  · exact h2
  · exact h3
  · exact h4
  · exact h5
  · exact h6
  · exact h7
  · exact h8
  · exact h9
  · intro k hk
    show sg 6 k = yLs T.1 k ∧ upd (sg 7) j x k = upd (yMs T.1) j x k ∧ sg 8 k = yWo T.1 k
    obtain ⟨q1, q2, q3⟩ := h10 k hk
    unfold upd
    by_cases e : k = j
    · rw [if_pos e, if_pos e]; exact ⟨q1, rfl, q3⟩
    · rw [if_neg e, if_neg e]; exact ⟨q1, q2, q3⟩
  · exact f1
  · exact f2
  · exact f3
  · exact f4
theorem mw_Wo {T : TS} {sg : Nat → Nat → Int32} (h : EM T sg) {j : Nat} {x : Int32} : EM (sWo T j x) (gw_u sg 8 (upd (sg 8) j (x))) := by
  obtain ⟨⟨h1, h2, h3, h4, h5, h6, h7, h8, h9, h10⟩, f1, f2, f3, f4⟩ := h
  refine ⟨⟨?_, ?_, ?_, ?_, ?_, ?_, ?_, ?_, ?_, ?_⟩, ?_, ?_, ?_, ?_⟩
  · exact h1
  · exact h2
  · exact h3
  · exact h4
  · exact h5
  · exact h6
  · exact h7
  · exact h8
  · exact h9
  · intro k hk
    show sg 6 k = yLs T.1 k ∧ sg 7 k = yMs T.1 k ∧ upd (sg 8) j x k = upd (yWo T.1) j x k
    obtain ⟨q1, q2, q3⟩ := h10 k hk
    unfold upd
    by_cases e : k = j
    · rw [if_pos e, if_pos e]; exact ⟨q1, q2, rfl⟩
    · rw [if_neg e, if_neg e]; exact ⟨q1, q2, q3⟩
  · exact f1
  · exact f2
  · exact f3
  · exact f4
theorem mw_N {T : TS} {sg : Nat → Nat → Int32} (h : EM T sg) {n : Nat} (hb : n ≤ 6) : EM (sNn T n) (gw_u sg 0 (upd (sg 0) 3 (nI n))) := by
  obtain ⟨⟨h1, h2, h3, h4, h5, h6, h7, h8, h9, h10⟩, f1, f2, f3, f4⟩ := h
  refine ⟨⟨?_, ?_, ?_, ?_, ?_, ?_, ?_, ?_, ?_, ?_⟩, ?_, ?_, ?_, ?_⟩
  · exact ⟨hb, rfl⟩
  · exact h2
  · exact h3
  · exact h4
  · exact h5
  · exact h6
  · exact h7
  · exact h8
  · exact h9
  · exact h10
  · exact f1
  · exact f2
  · exact f3
  · exact f4
theorem mw_Hr {T : TS} {sg : Nat → Nat → Int32} (h : EM T sg) {n : Nat} (hb : n ≤ 1440) : EM (sHr T n) (gw_u sg 0 (upd (sg 0) 11 (nI n))) := by
  obtain ⟨⟨h1, h2, h3, h4, h5, h6, h7, h8, h9, h10⟩, f1, f2, f3, f4⟩ := h
  refine ⟨⟨?_, ?_, ?_, ?_, ?_, ?_, ?_, ?_, ?_, ?_⟩, ?_, ?_, ?_, ?_⟩
  · exact h1
  · exact ⟨rfl, hb⟩
  · exact h3
  · exact h4
  · exact h5
  · exact h6
  · exact h7
  · exact h8
  · exact h9
  · exact h10
  · exact f1
  · exact f2
  · exact f3
  · exact f4
theorem mw_Ch {T : TS} {sg : Nat → Nat → Int32} (h : EM T sg) {n : Nat} (hb : n ≤ 1440) : EM (sCh T n) (gw_u sg 0 (upd (sg 0) 12 (nI n))) := by
  obtain ⟨⟨h1, h2, h3, h4, h5, h6, h7, h8, h9, h10⟩, f1, f2, f3, f4⟩ := h
  refine ⟨⟨?_, ?_, ?_, ?_, ?_, ?_, ?_, ?_, ?_, ?_⟩, ?_, ?_, ?_, ?_⟩
  · exact h1
  · exact h2
  · exact ⟨rfl, hb⟩
  · exact h4
  · exact h5
  · exact h6
  · exact h7
  · exact h8
  · exact h9
  · exact h10
  · exact f1
  · exact f2
  · exact f3
  · exact f4
theorem mw_Gv {T : TS} {sg : Nat → Nat → Int32} (h : EM T sg) {j k : Nat} {x : Int32} (hk4 : k < 4) : EM (sGv T j k x) (gw_u sg 5 (upd (sg 5) (4 * j + k) x)) := by
  obtain ⟨⟨h1, h2, h3, h4, h5, h6, h7, h8, h9, h10⟩, f1, f2, f3, f4⟩ := h
  refine ⟨⟨?_, ?_, ?_, ?_, ?_, ?_, ?_, ?_, ?_, ?_⟩, ?_, ?_, ?_, ?_⟩
  · exact h1
  · exact h2
  · exact h3
  · exact h4
  · exact h5
  · exact h6
  · exact h7
  · exact h8
  · intro p q hp hq
    show upd (sg 5) (4 * j + k) x (4 * p + q) = (if p = j then upd (yGv T.1 p) k x else yGv T.1 p) q
    unfold upd
    by_cases e2 : p = j
    · subst e2
      rw [if_pos rfl]
      by_cases e3 : q = k
      · rw [if_pos (by omega), if_pos e3]
      · rw [if_neg (by omega), if_neg e3]; exact h9 p q hp hq
    · rw [if_neg (by omega), if_neg e2]; exact h9 p q hp hq
  · exact h10
  · exact f1
  · exact f2
  · exact f3
  · exact f4
theorem mw_dy {T : TS} {sg : Nat → Nat → Int32} (h : EM T sg) {x : Int32} : EM (sDy T x) (gw_u sg 0 (upd (sg 0) 13 (x))) := by
  obtain ⟨⟨h1, h2, h3, h4, h5, h6, h7, h8, h9, h10⟩, f1, f2, f3, f4⟩ := h
  refine ⟨⟨?_, ?_, ?_, ?_, ?_, ?_, ?_, ?_, ?_, ?_⟩, ?_, ?_, ?_, ?_⟩
  · exact h1
  · exact h2
  · exact h3
  · exact h4
  · exact h5
  · exact h6
  · exact h7
  · exact h8
  · exact h9
  · exact h10
  · exact f1
  · exact f2
  · exact rfl
  · exact f4
theorem mw_er {T : TS} {sg : Nat → Nat → Int32} (h : EM T sg) {x : Int32} : EM (sEr T x) (gw_u sg 0 (upd (sg 0) 14 (x))) := by
  obtain ⟨⟨h1, h2, h3, h4, h5, h6, h7, h8, h9, h10⟩, f1, f2, f3, f4⟩ := h
  refine ⟨⟨?_, ?_, ?_, ?_, ?_, ?_, ?_, ?_, ?_, ?_⟩, ?_, ?_, ?_, ?_⟩
  · exact h1
  · exact h2
  · exact h3
  · exact h4
  · exact h5
  · exact h6
  · exact h7
  · exact h8
  · exact h9
  · exact h10
  · exact f1
  · exact f2
  · exact f3
  · exact rfl
theorem mw_fo {T : TS} {sg : Nat → Nat → Int32} (h : EM T sg) : EM (sFo T false) (gw_u sg 0 (upd (sg 0) 16 (nI 0))) := by
  obtain ⟨⟨h1, h2, h3, h4, h5, h6, h7, h8, h9, h10⟩, f1, f2, f3, f4⟩ := h
  refine ⟨⟨?_, ?_, ?_, ?_, ?_, ?_, ?_, ?_, ?_, ?_⟩, ?_, ?_, ?_, ?_⟩
  · exact h1
  · exact h2
  · exact h3
  · exact h4
  · exact h5
  · exact h6
  · exact h7
  · exact h8
  · exact h9
  · exact h10
  · exact rfl
  · exact fun q => Bool.noConfusion q
  · exact f3
  · exact f4
theorem cw_told {T : TS} {sg : Nat → Nat → Int32} (h : EC T sg) {x : Int32} : EC (T) (gw_u sg 0 (upd (sg 0) 3 x)) := by
  obtain ⟨⟨h1, h2, h3, h4, h5, h6, h7, h8, h9, h10⟩, f1, f2, f3, f4⟩ := h
  refine ⟨⟨?_, ?_, ?_, ?_, ?_, ?_, ?_, ?_, ?_, ?_⟩, ?_, ?_, ?_, ?_⟩
  · exact h1
  · exact h2
  · exact h3
  · exact h4
  · exact h5
  · exact h6
  · exact h7
  · exact h8
  · intro p k hp hk; rw [gw_u_n _ _ (by omega)]; exact h9 p k hp hk
  · exact h10
  · exact f1
  · exact f2
  · exact f3
  · exact f4
theorem mw_code {T : TS} {sg : Nat → Nat → Int32} (h : EM T sg) {x : Int32} : EM (T) (gw_u sg 0 (upd (sg 0) 0 x)) := by
  obtain ⟨⟨h1, h2, h3, h4, h5, h6, h7, h8, h9, h10⟩, f1, f2, f3, f4⟩ := h
  refine ⟨⟨?_, ?_, ?_, ?_, ?_, ?_, ?_, ?_, ?_, ?_⟩, ?_, ?_, ?_, ?_⟩
  · exact h1
  · exact h2
  · exact h3
  · exact h4
  · exact h5
  · exact h6
  · exact h7
  · exact h8
  · exact h9
  · exact h10
  · exact f1
  · exact f2
  · exact f3
  · exact f4
theorem mw_sea {T : TS} {sg : Nat → Nat → Int32} (h : EM T sg) {x : Int32} : EM (T) (gw_u sg 0 (upd (sg 0) 15 x)) := by
  obtain ⟨⟨h1, h2, h3, h4, h5, h6, h7, h8, h9, h10⟩, f1, f2, f3, f4⟩ := h
  refine ⟨⟨?_, ?_, ?_, ?_, ?_, ?_, ?_, ?_, ?_, ?_⟩, ?_, ?_, ?_, ?_⟩
  · exact h1
  · exact h2
  · exact h3
  · exact h4
  · exact h5
  · exact h6
  · exact h7
  · exact h8
  · exact h9
  · exact h10
  · exact f1
  · exact f2
  · exact f3
  · exact f4
