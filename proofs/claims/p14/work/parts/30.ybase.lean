/-! THE YARD'S WORLD: its rows are the class's rows 1 and 4 to 18, and the best plan's counts. -/
def ym (k : Nat) : Nat := if k = 1 then 0 else k - 3
def YE (T : TS) (sg : Nat → Nat → Int32) : Prop := ECy T.1 (fun k => sg (ym k)) ∧ ∀ q : Nat, q < 6 → sg 16 q = nI (T.2.2.2.1 q)
theorem yl_k : ∀ k : Nat, k < 19 → k = 1 ∨ 4 ≤ k → gw_p [1, 4, 5, 6, 7, 8, 9, 10, 11, 12, 13, 14, 15, 16, 17, 18, 25] (ym k) = k := by decide
theorem YE_of {T : TS} {sg : Nat → Nat → Int32} (h : EC T sg) (hfo : T.2.1 = true) : YE T (fun j => sg (gw_p [1, 4, 5, 6, 7, 8, 9, 10, 11, 12, 13, 14, 15, 16, 17, 18, 25] j)) := by
  refine ⟨h.1.cong (fun k hk => ?_), fun q hq => ?_⟩
  · show sg (gw_p [1, 4, 5, 6, 7, 8, 9, 10, 11, 12, 13, 14, 15, 16, 17, 18, 25] (ym k)) = sg k
    rw [yl_k k (by omega) (by omega)]
  · exact (h.2.2.1 hfo).2 q hq
theorem YE_gv {T : TS} {sg : Nat → Nat → Int32} (h : YE T sg) {p k : Nat} (hp : p < 6) (hk : k < 4) : sg (10 + p) k = yGv T.1 p k := by
  have q := h.1.2.2.2.2.2.2.2.2.1 p k hp hk
  have e : ym (13 + p) = 10 + p := by
    unfold ym
    rw [if_neg (by omega)]
    omega
  simp only [e] at q
  exact q
theorem ym_w {sg : Nat → Nat → Int32} {i j : Nat} (f : Nat → Int32) (hj : 1 ≤ j) (e : i = j + 3) : (fun k => gw_u sg j f (ym k)) = (fun k => if k = i then f else if ym k = j then f else sg (ym k)) := by
  funext k
  unfold gw_u
  by_cases h : k = i
  · subst h
    rw [if_pos rfl, if_pos (by unfold ym; rw [if_neg (by omega)]; omega)]
  · rw [if_neg h]
theorem yw_row {T T' : TS} {sg : Nat → Nat → Int32} {i j : Nat} {f : Nat → Int32} (hj : 1 ≤ j) (e : i = j + 3) (h : ECy T'.1 (gw_u (fun k => sg (ym k)) i f)) (hp : ∀ q : Nat, q < 6 → gw_u sg j f 16 q = nI (T'.2.2.2.1 q)) : YE T' (gw_u sg j f) := by
  refine ⟨h.cong (fun k hk => ?_), hp⟩
  show gw_u sg j f (ym k) = gw_u (fun k => sg (ym k)) i f k
  unfold gw_u
  by_cases q : k = i
  · subst q
    rw [if_pos rfl, if_pos (by unfold ym; rw [if_neg (by omega)]; omega)]
  · rw [if_neg q, if_neg (by unfold ym; split <;> omega)]
theorem yw_Sk {T : TS} {sg : Nat → Nat → Int32} (h : YE T sg) {j : Nat} {x : Int32} : YE (sSk T j x) (gw_u sg 9 (upd (sg 9) j x)) := by
  refine yw_row (T := T) (i := 12) (by decide) rfl ?_ h.2
  obtain ⟨h1, h2, h3, h4, h5, h6, h7, h8, h9, h10⟩ := h.1
  refine ⟨h1, h2, h3, h4, h5, h6, h7, ?_, ?_, h10⟩
  · intro c hc
    show upd (sg 9) j x c = upd (ySk T.1) j x c
    unfold upd
    by_cases e : c = j
    · rw [if_pos e, if_pos e]
    · rw [if_neg e, if_neg e]; exact h8 c hc
  · intro p k hp hk
    rw [gw_u_n _ _ (by omega)]
    exact h9 p k hp hk
theorem yw_Lg {T : TS} {sg : Nat → Nat → Int32} (h : YE T sg) {j b : Nat} (hb : b ≤ 1000) : YE (sLg T j b) (gw_u sg 1 (upd (sg 1) j (nI b))) := by
  refine yw_row (T := T) (i := 4) (by decide) rfl ?_ h.2
  obtain ⟨h1, h2, h3, h4, h5, h6, h7, h8, h9, h10⟩ := h.1
  refine ⟨h1, h2, h3, ?_, h5, h6, h7, h8, ?_, h10⟩
  · intro c hc
    show upd (sg 1) j (nI b) c = nI (pu (yLg T.1) j b c) ∧ pu (yLg T.1) j b c ≤ 1000
    unfold upd pu
    by_cases e : c = j
    · rw [if_pos e, if_pos e]; exact ⟨rfl, hb⟩
    · rw [if_neg e, if_neg e]; exact h4 c hc
  · intro p k hp hk
    rw [gw_u_n _ _ (by omega)]
    exact h9 p k hp hk
theorem cnt_s (pl : Nat → Nat) (i : Nat) : cnt pl (i + 1) = cnt pl i + (if 0 < pl i then 1 else 0) := rfl
theorem tot_split (mn : Nat → Nat) (ch : Nat) (pl : Nat → Nat) : ∀ n : Nat, sN (fun q => pl q * mn q) n + cnt pl n * ch = totN mn ch pl n
  | 0 => by simp [sN, cnt, totN]
  | n + 1 => by
    have h := tot_split mn ch pl n
    show sN (fun q => pl q * mn q) n + pl n * mn n + (cnt pl n + (if 0 < pl n then 1 else 0)) * ch = totN mn ch pl n + (pl n * mn n + if 0 < pl n then ch else 0)
    rw [Nat.add_mul]
    split
    · rw [Nat.one_mul]; omega
    · rw [Nat.zero_mul]; omega
theorem mad_0 (sk : Nat → Int32) (gv : Nat → Nat → Int32) (pl : Nat → Nat) (k : Nat) : sk k = madW sk gv pl k 0 := by
  show sk k = sk k + nI 0
  rw [nI_0, Int32.add_zero]
theorem mad_s (sk : Nat → Int32) (gv : Nat → Nat → Int32) (pl : Nat → Nat) (k i : Nat) : madW sk gv pl k i + nI (pl i) * gv i k = madW sk gv pl k (i + 1) := by
  show sk k + sW (fun q => nI (pl q) * gv q k) i + nI (pl i) * gv i k = sk k + (sW (fun q => nI (pl q) * gv q k) i + nI (pl i) * gv i k)
  rw [Int32.add_assoc]
theorem mad_N {T : TS} (hN : yN T.1 ≤ 6) (hz : ∀ q : Nat, yN T.1 ≤ q → T.2.2.2.1 q = 0) (k : Nat) : madW (ySk T.1) (yGv T.1) T.2.2.2.1 k (yN T.1) = yMad T.1 T.2.2.2.1 k := by
  unfold yMad madW
  rw [sW_stop (f := fun q => nI (T.2.2.2.1 q) * yGv T.1 q k) (n := yN T.1) 6 (fun j hj => by simp [hz j hj, nI_0]) hN]
theorem mad_tSt (T : TS) (i : Nat) : yMad (tSt T i).1 T.2.2.2.1 i = yMad T.1 T.2.2.2.1 i := by
  show (if i < i then _ else ySk T.1 i) + _ = ySk T.1 i + _
  rw [if_neg (Nat.lt_irrefl i)]
  rfl
theorem tSt_0 (T : TS) : tSt T 0 = T := by
  show ((_, _, _, _, _, _, _, _, (fun k => if k < 0 then _ else ySk T.1 k), _, _, _, _), T.2) = T
  simp only [Nat.not_lt_zero, if_false]
theorem tSt_s (T : TS) (i : Nat) : sSk (tSt T i) i (yMad T.1 T.2.2.2.1 i - mnW (yMad T.1 T.2.2.2.1 i) (yMs T.1 i)) = tSt T (i + 1) := by
  have e : upd (ySk (tSt T i).1) i (yMad T.1 T.2.2.2.1 i - mnW (yMad T.1 T.2.2.2.1 i) (yMs T.1 i)) = ySk (tSt T (i + 1)).1 := by
    funext k
    show upd (fun k => if k < i then yMad T.1 T.2.2.2.1 k - mnW (yMad T.1 T.2.2.2.1 k) (yMs T.1 k) else ySk T.1 k) i _ k = if k < i + 1 then yMad T.1 T.2.2.2.1 k - mnW (yMad T.1 T.2.2.2.1 k) (yMs T.1 k) else ySk T.1 k
    unfold upd
    by_cases h : k = i
    · subst h
      rw [if_pos rfl, if_pos (by omega)]
    · rw [if_neg h]
      show (if k < i then yMad T.1 T.2.2.2.1 k - mnW (yMad T.1 T.2.2.2.1 k) (yMs T.1 k) else ySk T.1 k) = _
      by_cases h2 : k < i
      · rw [if_pos h2, if_pos (by omega)]
      · rw [if_neg h2, if_neg (by omega)]
  unfold sSk
  rw [e]
  rfl
theorem tLo_0 (T : TS) : tLo T 0 = T := rfl
theorem tLo_s (T : TS) (i : Nat) : sLg (tLo T i) (yCf T.1 i) (yLg T.1 (yCf T.1 i) - usdN (yCf T.1) T.2.2.2.1 (yCf T.1 i) i - T.2.2.2.1 i) = tLo T (i + 1) := by
  have e : pu (yLg (tLo T i).1) (yCf T.1 i) (yLg T.1 (yCf T.1 i) - usdN (yCf T.1) T.2.2.2.1 (yCf T.1 i) i - T.2.2.2.1 i) = yLg (tLo T (i + 1)).1 := by
    funext c
    show pu (fun c => yLg T.1 c - usdN (yCf T.1) T.2.2.2.1 c i) (yCf T.1 i) _ c = yLg T.1 c - (usdN (yCf T.1) T.2.2.2.1 c i + if yCf T.1 i = c then T.2.2.2.1 i else 0)
    unfold pu
    by_cases h : c = yCf T.1 i
    · subst h
      rw [if_pos rfl, if_pos rfl]
      omega
    · rw [if_neg h, if_neg (fun q => h q.symm)]
      rfl
  unfold sLg
  rw [e]
  rfl
theorem sN_mono {f : Nat → Nat} {n : Nat} : ∀ m : Nat, n ≤ m → sN f n ≤ sN f m
  | 0, h => by
    have : n = 0 := by omega
    rw [this]
    exact Nat.le_refl _
  | m + 1, h => by
    by_cases e : n = m + 1
    · rw [e]; exact Nat.le_refl _
    · have := sN_mono (f := f) m (show n ≤ m by omega)
      show sN f n ≤ sN f m + f m
      omega
theorem lo_le {T : TS} (hT : TOk T) (hfo : T.2.1 = true) {i : Nat} (hi : i < 6) (hc : yCf T.1 i < 4) : T.2.2.2.1 i ≤ yLg T.1 (yCf T.1 i) - usdN (yCf T.1) T.2.2.2.1 (yCf T.1 i) i := by
  have h1 := (hT hfo).2.1.2 (yCf T.1 i) hc
  have h2 : usdN (yCf T.1) T.2.2.2.1 (yCf T.1 i) (i + 1) ≤ usdN (yCf T.1) T.2.2.2.1 (yCf T.1 i) 6 := sN_mono 6 (by omega)
  have h3 : usdN (yCf T.1) T.2.2.2.1 (yCf T.1 i) (i + 1) = usdN (yCf T.1) T.2.2.2.1 (yCf T.1 i) i + T.2.2.2.1 i := by
    show sN _ i + (if yCf T.1 i = yCf T.1 i then T.2.2.2.1 i else 0) = _
    rw [if_pos rfl]
    rfl
  omega
theorem TOk_lo {T : TS} (hT : TOk T) (hfo : T.2.1 = true) : TOk (tSt T 4) := hT
/-- doPlan's back in the class's world -/
theorem do_EC {T U : TS} {old sp s2 : Nat → Nat → Int32} {n : Nat} (h : EC T old) (hU : YE U sp) (hb : U.2 = T.2) (hfo : T.2.1 = true) (h1 : ∀ j, j < n → s2 (gw_p [1, 4, 5, 6, 7, 8, 9, 10, 11, 12, 13, 14, 15, 16, 17, 18, 25] j) = sp j) (h2 : ∀ k, k ∉ [1, 4, 5, 6, 7, 8, 9, 10, 11, 12, 13, 14, 15, 16, 17, 18, 25] → s2 k = old k) (hn : n = 17) : EC U s2 := by
  subst hn
  obtain ⟨g0, g1, g2, g3, g4⟩ := h
  refine ⟨hU.1.cong (fun k hk => ?_), ?_, ?_, ?_, ?_⟩
  · have e := yl_k k (by omega) (by omega)
    have q := h1 (ym k) (by unfold ym; split <;> omega)
    rw [e] at q
    exact q
  · rw [hb, h2 2 (by decide)]; exact g1
  · intro _
    rw [hb, h2 2 (by decide)]
    refine ⟨(g2 hfo).1, fun q hq => ?_⟩
    have e : s2 25 = sp 16 := h1 16 (by decide)
    rw [e]
    have := hU.2 q hq
    rwa [hb] at this
  · rw [hb, h2 0 (by decide)]; exact g3
  · rw [hb, h2 0 (by decide)]; exact g4
theorem EC_fo {T : TS} {sg : Nat → Nat → Int32} (h : EC T sg) : sg 2 12 = 0 ↔ ¬ T.2.1 = true := by
  rw [h.2.1, b2_0]
  cases T.2.1 <;> simp
theorem in_nat1 {a : Int32} {n : Nat} (hn : n < 2 ^ 31) (h : inR a (nI 1) (nI n)) : ∃ j : Nat, j < n + 1 ∧ a = nI j := by
  refine in_nat hn ⟨fun q => h.1 ?_, h.2⟩
  rw [Int32.lt_iff_toInt_lt] at q ⊢
  have e0 : (nI 0).toInt = 0 := by decide
  have e1 : (nI 1).toInt = 1 := by decide
  omega
theorem cls_k : ∀ k : Nat, k < 33 → gw_p [0, 1, 2, 3, 4, 5, 6, 7, 8, 9, 10, 11, 12, 13, 14, 15, 16, 17, 18, 19, 20, 21, 22, 23, 24, 25, 26, 27, 28, 29, 30, 31, 32] k = k := by decide
theorem cls_in {T : TS} {sg : Nat → Nat → Int32} (h : EC T sg) : EC T (fun j => sg (gw_p [0, 1, 2, 3, 4, 5, 6, 7, 8, 9, 10, 11, 12, 13, 14, 15, 16, 17, 18, 19, 20, 21, 22, 23, 24, 25, 26, 27, 28, 29, 30, 31, 32] j)) := h.cong (fun k hk => by show sg (gw_p [0, 1, 2, 3, 4, 5, 6, 7, 8, 9, 10, 11, 12, 13, 14, 15, 16, 17, 18, 19, 20, 21, 22, 23, 24, 25, 26, 27, 28, 29, 30, 31, 32] k) = sg k; rw [cls_k k hk])
theorem cls_out {T : TS} {s1 s2 : Nat → Nat → Int32} {n : Nat} (h : EC T s1) (h1 : ∀ j, j < n → s2 (gw_p [0, 1, 2, 3, 4, 5, 6, 7, 8, 9, 10, 11, 12, 13, 14, 15, 16, 17, 18, 19, 20, 21, 22, 23, 24, 25, 26, 27, 28, 29, 30, 31, 32] j) = s1 j) (hn : n = 33) : EC T s2 := by
  subst hn
  exact h.cong (fun k hk => by have q := h1 k hk; rwa [cls_k k hk] at q)
theorem wr_k : ∀ k : Nat, k < 34 → gw_p [0, 1, 2, 3, 4, 5, 6, 7, 8, 9, 10, 11, 12, 13, 14, 15, 16, 17, 18, 19, 20, 21, 22, 23, 24, 25, 26, 27, 28, 29, 30, 31, 32, 33] k = k := by decide
theorem EC_ord {T : TS} {sg : Nat → Nat → Int32} (h : EC T sg) : ∀ k : Nat, k < 4 → sg 9 k = yLs T.1 k ∧ sg 10 k = yMs T.1 k ∧ sg 11 k = yWo T.1 k := h.1.2.2.2.2.2.2.2.2.2
