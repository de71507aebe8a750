theorem fo_of {b : Bool} (h : ¬ b2 b = 0) : b = true := by
  cases b with
  | false => exact absurd rfl h
  | true => rfl
theorem b2_01 (b : Bool) : b2 b = nI 0 ∨ b2 b = nI 1 := by
  cases b with
  | false => exact Or.inl rfl
  | true => exact Or.inr rfl
theorem EM_mf {T : TS} {z s : Nat → Nat → Int32} (h : MF z s) (hM : EM T z) : EM T s := by
  obtain ⟨g0, g1, g2, g3, g4⟩ := hM
  refine ⟨h.my g0, ?_, ?_, ?_, ?_⟩
  · rw [h.2 16 (by decide)]; exact g1
  · rw [h.2 20 (by decide), h.1 10 (by decide) (by decide) (by decide)]; exact g2
  · rw [h.2 13 (by decide)]; exact g3
  · rw [h.2 14 (by decide)]; exact g4
/-- the reference behind its seek, its results taken over -/
def RB (T : TS) (j : Nat) (a : RS) (B : Nat → Nat → Int32) : Prop := Sim a (cR (yL T.1 j)) ∧ MY T.1 B ∧ B 0 0 = nI 0 ∧ B 0 16 = b2 a.2.2.1 ∧ B 0 17 = b2 a.2.1 ∧ B 0 20 = a.2.2.2.1 ∧ (∀ q : Nat, q < 6 → B 12 q = a.2.2.2.2 q) ∧ B 0 13 = T.2.2.2.2.1 ∧ B 0 14 = T.2.2.2.2.2
def RBs (B : Nat → Nat → Int32) (i : Nat) : Nat → Nat → Int32 := gw_u B 10 (fil (B 10) (B 12) i)
theorem RB_end {T : TS} {j : Nat} {a : RS} {B : Nat → Nat → Int32} (hj : nt (nI j) = j) (h : RB T j a B) : EM (tRun T (nI j)) (RBs B 6) := by
  obtain ⟨hS, h0, -, h1, h2, h3, h4, h5, h6⟩ := h
  refine ⟨h0.cong (fun k hk hk2 => gw_u_n _ _ (by omega)) rfl rfl rfl, ?_, ?_, h5, h6⟩
  · show B 0 16 = b2 (cR (yL T.1 (nt (nI j)))).2.2.1
    rw [hj, h1, hS.2.2.1]
  · intro hq
    have hq : (cR (yL T.1 (nt (nI j)))).2.2.1 = true := hq
    rw [hj] at hq
    have e := hS.2.2.2 hq
    refine ⟨?_, fun q hq6 => ?_⟩
    · show B 0 20 = (cR (yL T.1 (nt (nI j)))).2.2.2.1
      rw [hj, h3, e]
    · show fil (B 10) (B 12) 6 q = nI (nt ((cR (yL T.1 (nt (nI j)))).2.2.2.2 q))
      unfold fil
      rw [if_pos hq6, hj, cR_nt hq q, h4 q hq6, e]
theorem upd_back (f : Nat → Int32) (j : Nat) (x : Int32) : upd (upd f j x) j (f j) = f := by
  funext k
  unfold upd
  by_cases e : k = j
  · subst e; simp
  · simp [e]
theorem back3 (T : TS) (j : Nat) (x : Int32) : sMs (sLs (sWo (sMs (sLs (sWo T j x) j x) j x) j (yWo T.1 j)) j (yLs T.1 j)) j (yMs T.1 j) = T := by
  show ((_, _, _, _, _, _, _, _, _, upd (upd (yLs T.1) j x) j (yLs T.1 j), upd (upd (yMs T.1) j x) j (yMs T.1 j), upd (upd (yWo T.1) j x) j (yWo T.1 j), _), _) = T
  rw [upd_back, upd_back, upd_back]
  rfl
theorem mw_f {T : TS} {sg : Nat → Nat → Int32} (h : EM T sg) {j : Nat} (h1 : 17 ≤ j) (h2 : j ≠ 20) (x : Int32) : EM T (gw_u sg 0 (upd (sg 0) j x)) := by
  obtain ⟨g0, g1, g2, g3, g4⟩ := h
  refine ⟨g0.cong (fun k hk hk2 => gw_u_n _ _ (by omega)) (m_upd _ (by omega)) (m_upd _ (by omega)) (m_upd _ (by omega)), ?_, ?_, ?_, ?_⟩
  · rw [m_upd _ (by omega)]; exact g1
  · rw [m_upd _ (by omega), gw_u_n _ _ (by decide)]; exact g2
  · rw [m_upd _ (by omega)]; exact g3
  · rw [m_upd _ (by omega)]; exact g4
