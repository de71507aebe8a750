/-! THE REFERENCE'S SEARCH AS A FUNCTION. Fields: 3 patterns, 11 hours, 12 change, 23 hasFound, 24 wasSpent, 25 taken, 26 foundGain; rows: 1 logs, 2 cents, 3 classOf, 4 minutes, 5 gives, 6 least, 7 most, 8 worth, 9 stock, 10 plan, 11 count, 12 found. -/
def mS (sg : Nat → Nat → Int32) (c : Nat) : Nat → Int32
  | 0 => nI 0
  | i + 1 => mS sg c i + (sg c i * sg 4 i + (if sg c i ≤ 0 then nI 0 else sg 0 12))
def uS (sg : Nat → Nat → Int32) (q : Nat) : Nat → Int32
  | 0 => nI 0
  | i + 1 => uS sg q i + (if sg 3 i = nI q then sg 11 i else nI 0)
def dS (sg : Nat → Nat → Int32) (c k : Nat) : Nat → Int32
  | 0 => sg 9 k
  | i + 1 => dS sg c k i + sg c i * sg 5 (4 * i + k)
def ftS (sg : Nat → Nat → Int32) (n : Nat) : Prop := ¬ sg 0 11 < mS sg 11 n ∧ ∀ c : Nat, c < 4 → ¬ sg 1 c < uS sg c n
def MY (Y : YT) (sg : Nat → Nat → Int32) : Prop := (yN Y ≤ 6 ∧ sg 0 3 = nI (yN Y)) ∧ (sg 0 11 = nI (yHr Y) ∧ yHr Y ≤ 1440) ∧ (sg 0 12 = nI (yCh Y) ∧ yCh Y ≤ 1440) ∧ (∀ c : Nat, c < 4 → sg 1 c = nI (yLg Y c) ∧ yLg Y c ≤ 1000) ∧ (∀ c : Nat, c < 4 → sg 2 c = yCt Y c) ∧ (∀ p : Nat, p < 6 → sg 3 p = nI (yCf Y p) ∧ yCf Y p < 4) ∧ (∀ p : Nat, p < 6 → sg 4 p = nI (yMn Y p) ∧ yMn Y p ≤ 480) ∧ (∀ k : Nat, k < 4 → sg 9 k = ySk Y k) ∧ (∀ p k : Nat, p < 6 → k < 4 → sg 5 (4 * p + k) = yGv Y p k) ∧ ∀ k : Nat, k < 4 → sg 6 k = yLs Y k ∧ sg 7 k = yMs Y k ∧ sg 8 k = yWo Y k
theorem MY.cong {Y : YT} {a b : Nat → Nat → Int32} (h : MY Y a) (e : ∀ k : Nat, 1 ≤ k → k < 10 → b k = a k) (e3 : b 0 3 = a 0 3) (e11 : b 0 11 = a 0 11) (e12 : b 0 12 = a 0 12) : MY Y b := by
  obtain ⟨h1, h2, h3, h4, h5, h6, h7, h8, h9, h10⟩ := h
  refine ⟨?_, ?_, ?_, ?_, ?_, ?_, ?_, ?_, ?_, ?_⟩
  · rw [e3]; exact h1
  · rw [e11]; exact h2
  · rw [e12]; exact h3
  · rw [e 1 (by decide) (by decide)]; exact h4
  · rw [e 2 (by decide) (by decide)]; exact h5
  · rw [e 3 (by decide) (by decide)]; exact h6
  · rw [e 4 (by decide) (by decide)]; exact h7
  · rw [e 9 (by decide) (by decide)]; exact h8
  · rw [e 5 (by decide) (by decide)]; exact h9
  · rw [e 6 (by decide) (by decide), e 7 (by decide) (by decide), e 8 (by decide) (by decide)]; exact h10
/-- what a search leaves as it was -/
def MF (z sg : Nat → Nat → Int32) : Prop := (∀ k : Nat, k ≠ 0 → k ≠ 11 → k ≠ 12 → sg k = z k) ∧ ∀ j : Nat, j < 23 → sg 0 j = z 0 j
theorem MF.refl (z : Nat → Nat → Int32) : MF z z := ⟨fun _ _ _ _ => rfl, fun _ _ => rfl⟩
theorem MF.trans {a b c : Nat → Nat → Int32} (h : MF a b) (h2 : MF b c) : MF a c := ⟨fun k h0 h1 h9 => (h2.1 k h0 h1 h9).trans (h.1 k h0 h1 h9), fun j hj => (h2.2 j hj).trans (h.2 j hj)⟩
theorem MF.my {Y : YT} {z sg : Nat → Nat → Int32} (h : MF z sg) (hY : MY Y z) : MY Y sg := hY.cong (fun k h1 h2 => h.1 k (by omega) (by omega) (by omega)) (h.2 3 (by decide)) (h.2 11 (by decide)) (h.2 12 (by decide))
theorem MF.w11 {z sg : Nat → Nat → Int32} (h : MF z sg) (f : Nat → Int32) : MF z (gw_u sg 11 f) := ⟨fun k h0 h1 h2 => by rw [gw_u_n _ _ h1]; exact h.1 k h0 h1 h2, fun j hj => by rw [gw_u_n _ _ (by decide)]; exact h.2 j hj⟩
theorem MF.w0 {z sg : Nat → Nat → Int32} (h : MF z sg) {j : Nat} (hj : 23 ≤ j) (x : Int32) : MF z (gw_u sg 0 (upd (sg 0) j x)) := ⟨fun k h0 h1 h2 => by rw [gw_u_n _ _ h0]; exact h.1 k h0 h1 h2, fun i hi => by rw [m_upd _ (by omega)]; exact h.2 i hi⟩
def MR (Y : YT) (a : RS) (sg : Nat → Nat → Int32) : Prop := (sg 0 25 = nI a.1 ∧ a.1 ≤ yLim Y) ∧ sg 0 24 = b2 a.2.1 ∧ sg 0 23 = b2 a.2.2.1 ∧ sg 0 26 = a.2.2.2.1 ∧ ∀ q : Nat, q < 6 → sg 12 q = a.2.2.2.2 q
def MC (c : Nat) (pl : Nat → Nat) (n : Nat) (sg : Nat → Nat → Int32) : Prop := ∀ q : Nat, q < n → sg c q = nI (pl q) ∧ pl q ≤ 12
theorem mS_eq {Y : YT} {sg : Nat → Nat → Int32} (h : MY Y sg) {c : Nat} {pl : Nat → Nat} : ∀ n : Nat, n ≤ 6 → MC c pl n sg → mS sg c n = nI (totN (yMn Y) (yCh Y) pl n)
  | 0, _, _ => rfl
  | n + 1, hn, hc => by
    show mS sg c n + (sg c n * sg 4 n + (if sg c n ≤ 0 then nI 0 else sg 0 12)) = nI (totN (yMn Y) (yCh Y) pl n + (pl n * yMn Y n + if 0 < pl n then yCh Y else 0))
    rw [mS_eq h n (by omega) (fun q hq => hc q (by omega)), (hc n (by omega)).1, (h.2.2.2.2.2.2.1 n (by omega)).1, h.2.2.1.1]
    have hb := (hc n (by omega)).2
    by_cases h0 : pl n = 0
    · rw [if_pos (by rw [h0]; decide), if_neg (by omega), nI_mul, nI_add, nI_add]
    · rw [if_neg (fun q => h0 (by rw [← nI_0] at q; have := (nI_leI (a := pl n) (b := 0) (by omega) (by decide)).mp q; omega)), if_pos (by omega), nI_mul, nI_add, nI_add]
theorem uS_eq {Y : YT} {sg : Nat → Nat → Int32} (h : MY Y sg) {q : Nat} (hq : q < 4) {pl : Nat → Nat} : ∀ n : Nat, n ≤ 6 → MC 11 pl n sg → uS sg q n = nI (usdN (yCf Y) pl q n)
  | 0, _, _ => rfl
  | n + 1, hn, hc => by
    show uS sg q n + (if sg 3 n = nI q then sg 11 n else nI 0) = nI (usdN (yCf Y) pl q n + (if yCf Y n = q then pl n else 0))
    have hcf := h.2.2.2.2.2.1 n (by omega)
    rw [uS_eq h hq n (by omega) (fun q hq => hc q (by omega)), (hc n (by omega)).1, hcf.1]
    by_cases e : yCf Y n = q
    · rw [if_pos (by rw [e]), if_pos e, nI_add]
    · rw [if_neg (fun x => e ((nI_eq (by omega) (by omega)).mp x)), if_neg e, nI_add]
theorem dS_eq {Y : YT} {sg : Nat → Nat → Int32} (h : MY Y sg) {c k : Nat} (hk : k < 4) {pl : Nat → Nat} : ∀ n : Nat, n ≤ 6 → MC c pl n sg → dS sg c k n = madW (ySk Y) (yGv Y) pl k n
  | 0, _, _ => by
    show sg 9 k = ySk Y k + nI 0
    rw [nI_0, Int32.add_zero]
    exact h.2.2.2.2.2.2.2.1 k hk
  | n + 1, hn, hc => by
    show dS sg c k n + sg c n * sg 5 (4 * n + k) = ySk Y k + (sW (fun q => nI (pl q) * yGv Y q k) n + nI (pl n) * yGv Y n k)
    rw [dS_eq h hk n (by omega) (fun q hq => hc q (by omega)), (hc n (by omega)).1, h.2.2.2.2.2.2.2.2.1 n k (by omega) hk, ← Int32.add_assoc]
    rfl
theorem tot_le {Y : YT} {sg : Nat → Nat → Int32} (h : MY Y sg) {c n : Nat} {pl : Nat → Nat} (hn : n ≤ 6) (hc : MC c pl n sg) : totN (yMn Y) (yCh Y) pl n ≤ 50000 := by
  have hch := h.2.2.1.2
  have h1 := sN_le (f := fun q => pl q * yMn Y q + if 0 < pl q then yCh Y else 0) (b := 7200) n (fun j hj => by
    have e1 := (hc j hj).2
    have e2 := (h.2.2.2.2.2.2.1 j (by omega)).2
    have e3 : pl j * yMn Y j ≤ 12 * 480 := Nat.mul_le_mul e1 e2
    show pl j * yMn Y j + (if 0 < pl j then yCh Y else 0) ≤ 7200
    split <;> omega)
  have h2 : n * 7200 ≤ 6 * 7200 := Nat.mul_le_mul_right _ hn
  unfold totN
  omega
theorem usd_le {cf : Nat → Nat} {c q n : Nat} {pl : Nat → Nat} {sg : Nat → Nat → Int32} (hn : n ≤ 6) (hc : MC c pl n sg) : usdN cf pl q n ≤ 72 := by
  have h1 := sN_le (f := fun j => if cf j = q then pl j else 0) (b := 12) n (fun j hj => by
    have e1 := (hc j hj).2
    show (if cf j = q then pl j else 0) ≤ 12
    split <;> omega)
  have h2 : n * 12 ≤ 6 * 12 := Nat.mul_le_mul_right _ hn
  unfold usdN
  omega
theorem ft_eq {Y : YT} {sg : Nat → Nat → Int32} (h : MY Y sg) {pl : Nat → Nat} {n : Nat} (hn : n ≤ 6) (hc : MC 11 pl n sg) (hz : ∀ q : Nat, n ≤ q → pl q = 0) : ftS sg n ↔ yFit Y pl := by
  have ht : totN (yMn Y) (yCh Y) pl 6 = totN (yMn Y) (yCh Y) pl n := sN_stop 6 (fun j hj => by simp [hz j hj]) hn
  have hu : ∀ q : Nat, usdN (yCf Y) pl q 6 = usdN (yCf Y) pl q n := fun q => sN_stop 6 (fun j hj => by simp [hz j hj]) hn
  have b1 := tot_le h hn hc
  have hhr := h.2.1.2
  unfold ftS yFit FitN
  rw [mS_eq h n hn hc, h.2.1.1, nI_ltI (by omega) (by omega), ht]
  constructor
  · intro ⟨q1, q2⟩
    refine ⟨by omega, fun c hc4 => ?_⟩
    have q3 := q2 c hc4
    have b2 := usd_le (cf := yCf Y) (q := c) hn hc
    have b3 := (h.2.2.2.1 c hc4).2
    rw [uS_eq h hc4 n hn hc, (h.2.2.2.1 c hc4).1, nI_ltI (by omega) (by omega)] at q3
    rw [hu]
    omega
  · intro ⟨q1, q2⟩
    refine ⟨by omega, fun c hc4 => ?_⟩
    have q3 := q2 c hc4
    have b2 := usd_le (cf := yCf Y) (q := c) hn hc
    have b3 := (h.2.2.2.1 c hc4).2
    rw [uS_eq h hc4 n hn hc, (h.2.2.2.1 c hc4).1, nI_ltI (by omega) (by omega)]
    rw [hu] at q3
    omega
/-- what is left of the search when the plan pl (told up to p) is through -/
noncomputable def contP (Y : YT) : Nat → (Nat → Nat) → RS → RS
  | 0, _, a => a
  | p + 1, pl, a => contP Y p (pu pl p 0) (yIt Y (ySrch Y (yN Y - (p + 1)) (p + 1)) p (12 - pl p) pl a)
/-- what is left when c logs of pattern p are tried next -/
noncomputable def headP (Y : YT) (p c : Nat) (pl : Nat → Nat) (a : RS) : RS := @ite RS (c ≤ 12 ∧ yFit Y (pu pl p c)) (Classical.propDecidable _) (contP Y (p + 1) (pu pl p c) (stepP (yLim Y) (ySrch Y (yN Y - (p + 1)) (p + 1) (pu pl p c)) a)) (contP Y p pl a)
theorem headP_t {Y : YT} {p c : Nat} {pl : Nat → Nat} {a : RS} (h1 : c ≤ 12) (h2 : yFit Y (pu pl p c)) : headP Y p c pl a = contP Y (p + 1) (pu pl p c) (stepP (yLim Y) (ySrch Y (yN Y - (p + 1)) (p + 1) (pu pl p c)) a) := if_pos ⟨h1, h2⟩
theorem headP_f {Y : YT} {p c : Nat} {pl : Nat → Nat} {a : RS} (h : ¬ (c ≤ 12 ∧ yFit Y (pu pl p c))) : headP Y p c pl a = contP Y p pl a := if_neg h
theorem contP_spent {Y : YT} {a : RS} (h : a.2.1 = true) : ∀ (p : Nat) (pl : Nat → Nat), contP Y p pl a = a
  | 0, _ => rfl
  | p + 1, pl => by
    show contP Y p (pu pl p 0) (yIt Y (ySrch Y (yN Y - (p + 1)) (p + 1)) p (12 - pl p) pl a) = a
    rw [yIt_stop (fun q => by rw [h] at q; exact absurd q.1 (by decide))]
    exact contP_spent h p _
theorem contP_head {Y : YT} {p : Nat} {pl : Nat → Nat} {a : RS} (h : a.2.1 = false) (h12 : pl p ≤ 12) : contP Y (p + 1) pl a = headP Y p (pl p + 1) (pu pl p 0) a := by
  show contP Y p (pu pl p 0) (yIt Y (ySrch Y (yN Y - (p + 1)) (p + 1)) p (12 - pl p) pl a) = _
  by_cases hf : pl p + 1 ≤ 12 ∧ yFit Y (pu pl p (pl p + 1))
  · rw [headP_t hf.1 (by rw [pu_pu]; exact hf.2), show 12 - pl p = (11 - pl p) + 1 by omega, yIt_go h hf.2, pu_pu]
    show _ = contP Y p (pu (pu pl p (pl p + 1)) p 0) (yIt Y (ySrch Y (yN Y - (p + 1)) (p + 1)) p (12 - pu pl p (pl p + 1) p) (pu pl p (pl p + 1)) _)
    rw [pu_pu, pu_s, show 12 - (pl p + 1) = 11 - pl p by omega]
  · rw [headP_f (by rw [pu_pu]; exact hf)]
    by_cases h9 : pl p = 12
    · rw [h9]
      rfl
    · rw [yIt_stop (fun q => hf ⟨by omega, q.2⟩)]
theorem headP_begin {Y : YT} {p : Nat} {pl : Nat → Nat} {a : RS} (hp : p < yN Y) (h0 : pl p = 0) (hf : yFit Y pl) : headP Y p 0 pl a = contP Y p pl (ySrch Y (yN Y - p) p pl a) := by
  rw [headP_t (Nat.zero_le _) (by rw [pu_0 h0]; exact hf), pu_0 h0, ySrch_s (e := yN Y - (p + 1)) (by omega)]
  show contP Y p (pu pl p 0) (yIt Y (ySrch Y (yN Y - (p + 1)) (p + 1)) p (12 - pl p) pl _) = _
  rw [pu_0 h0, h0]
def HE (z : Nat → Nat → Int32) (Y : YT) (R : RS) (p : Nat) (pl : Nat → Nat) (c tk : Nat) (a : RS) (sg : Nat → Nat → Int32) : Prop := MF z sg ∧ MR Y a sg ∧ p < yN Y ∧ a.2.1 = false ∧ a.1 = tk ∧ MC 11 pl p sg ∧ sg 11 p = nI c - nI 1 ∧ c ≤ 13 ∧ (∀ q : Nat, p ≤ q → pl q = 0) ∧ yFit Y pl ∧ headP Y p c pl a = R
def HD (z : Nat → Nat → Int32) (Y : YT) (R : RS) (told : Nat) (pl : Nat → Nat) (c tk : Nat) (a : RS) (sg : Nat → Nat → Int32) : Prop := (told = 0 ∧ MF z sg ∧ MR Y a sg ∧ a = R ∧ a.1 = tk) ∨ ∃ p : Nat, told = p + 1 ∧ HE z Y R p pl c tk a sg
theorem HD_pos {z : Nat → Nat → Int32} {Y : YT} {R : RS} {told : Nat} {pl : Nat → Nat} {c tk : Nat} {a : RS} {sg : Nat → Nat → Int32} (h : HD z Y R told pl c tk a sg) (h0 : ¬ told ≤ 0) : ∃ p : Nat, told = p + 1 ∧ HE z Y R p pl c tk a sg := h.elim (fun q => absurd q.1 (by omega)) id
theorem HD_end {z : Nat → Nat → Int32} {Y : YT} {R : RS} {told : Nat} {pl : Nat → Nat} {c tk : Nat} {a : RS} {sg : Nat → Nat → Int32} (h : HD z Y R told pl c tk a sg) (h0 : told ≤ 0) : MF z sg ∧ MR Y R sg := by
  rcases h with ⟨-, h1, h2, h3, -⟩ | ⟨p, e, -⟩
  · rw [← h3]; exact ⟨h1, h2⟩
  · omega
section HESEC
variable {z : Nat → Nat → Int32} {Y : YT} {R : RS} {p : Nat} {pl : Nat → Nat} {c tk : Nat} {a : RS} {sg s1 : Nat → Nat → Int32}
theorem MR_w11 (h : MR Y a sg) (f : Nat → Int32) : MR Y a (gw_u sg 11 f) := by
  obtain ⟨h1, h2, h3, h4, h5⟩ := h
  refine ⟨?_, ?_, ?_, ?_, ?_⟩
  · rw [gw_u_n _ _ (by decide)]; exact h1
  · rw [gw_u_n _ _ (by decide)]; exact h2
  · rw [gw_u_n _ _ (by decide)]; exact h3
  · rw [gw_u_n _ _ (by decide)]; exact h4
  · rw [gw_u_n _ _ (by decide)]; exact h5
theorem HE_mc (h : HE z Y R p pl c tk a sg) (hc : c ≤ 12) (e : s1 = gw_u sg 11 (upd (sg 11) p (nI c))) : MC 11 (pu pl p c) (p + 1) s1 := by
  intro q hq
  rw [e, gw_u_s]
  unfold upd
  by_cases e2 : q = p
  · rw [if_pos e2, e2, pu_s]
    exact ⟨rfl, hc⟩
  · rw [if_neg e2, pu_n _ _ e2]
    exact h.2.2.2.2.2.1 q (by omega)
theorem HE_zz (h : HE z Y R p pl c tk a sg) : ∀ q : Nat, p + 1 ≤ q → pu pl p c q = 0 := fun q hq => by
  rw [pu_n _ _ (by omega)]
  exact h.2.2.2.2.2.2.2.2.1 q (by omega)
theorem HE_fits (hY : MY Y z) (h : HE z Y R p pl c tk a sg) (hc : c ≤ 12) (e : s1 = gw_u sg 11 (upd (sg 11) p (nI c))) : ftS s1 (p + 1) ↔ yFit Y (pu pl p c) := by
  have hN := hY.1.1
  have := h.2.2.1
  exact ft_eq ((by rw [e]; exact h.1.w11 _ : MF z s1).my hY) (by omega) (HE_mc h hc e) (HE_zz h)
theorem HE_back (h : HE z Y R p pl c tk a sg) (e : s1 = gw_u sg 11 (upd (sg 11) p (nI c))) (hq : ¬ (c ≤ 12 ∧ yFit Y (pu pl p c))) : HD z Y R p (pu pl (p - 1) 0) (pl (p - 1) + 1) tk a s1 := by
  obtain ⟨h1, h2, h3, h4, h5, h6, h7, h8, h9, h10, h11⟩ := h
  have hF : MF z s1 := by rw [e]; exact h1.w11 _
  have hR : MR Y a s1 := by rw [e]; exact MR_w11 h2 _
  rw [headP_f hq] at h11
  cases p with
  | zero => exact Or.inl ⟨rfl, hF, hR, h11, h5⟩
  | succ p =>
    have hp := h6 p (by omega)
    refine Or.inr ⟨p, rfl, hF, hR, by omega, h4, h5, ?_, ?_, ?_, ?_, ?_, ?_⟩
    · intro q hq2
      rw [e, gw_u_s]
      unfold upd
      rw [if_neg (by omega), show p + 1 - 1 = p by omega, pu_n _ _ (by omega)]
      exact h6 q (by omega)
    · rw [e, gw_u_s]
      unfold upd
      rw [if_neg (by omega), show p + 1 - 1 = p by omega, hp.1, nI_sub1 (by omega)]
      rfl
    · rw [show p + 1 - 1 = p by omega]
      omega
    · intro q hq2
      rw [show p + 1 - 1 = p by omega]
      by_cases e2 : q = p
      · rw [e2, pu_s]
      · rw [pu_n _ _ e2]
        exact h9 q (by omega)
    · by_cases hp6 : p < 6
      · exact yFit_none h10 (by omega)
      · have hc0 : ∀ j : Nat, j < 6 → pu pl (p + 1 - 1) 0 j = pl j := fun j hj => pu_n _ _ (by omega)
        refine ⟨?_, fun c hc => ?_⟩
        · have := h10.1
          unfold totN at this ⊢
          rwa [sN_congr 6 (g := fun q => pl q * yMn Y q + if 0 < pl q then yCh Y else 0) (fun j hj => by simp only [hc0 j hj])]
        · have := h10.2 c hc
          unfold usdN at this ⊢
          rwa [sN_congr 6 (g := fun q => if yCf Y q = c then pl q else 0) (fun j hj => by simp only [hc0 j hj])]
    · rw [show p + 1 - 1 = p by omega, ← contP_head h4 hp.2]
      exact h11
theorem HE_spent (h : HE z Y R p pl c tk a sg) (e : s1 = gw_u sg 11 (upd (sg 11) p (nI c))) (hc : c ≤ 12) (hf : yFit Y (pu pl p c)) (hl : tk = yLim Y) {s2 : Nat → Nat → Int32} (e2 : s2 = gw_u s1 0 (upd (s1 0) 24 (nI 1))) : MF z s2 ∧ MR Y R s2 := by
  obtain ⟨h1, h2, h3, h4, h5, h6, h7, h8, h9, h10, h11⟩ := h
  rw [headP_t hc hf, stepP_t (by omega), contP_spent rfl] at h11
  have hF : MF z s1 := by rw [e]; exact h1.w11 _
  have hR : MR Y a s1 := by rw [e]; exact MR_w11 h2 _
  rw [e2, ← h11]
  obtain ⟨r1, r2, r3, r4, r5⟩ := hR
  refine ⟨hF.w0 (by decide) _, ?_, m_upd_s _ _ _, ?_, ?_, ?_⟩
  · rw [m_upd _ (by decide)]; exact r1
  · rw [m_upd _ (by decide)]; exact r3
  · rw [m_upd _ (by decide)]; exact r4
  · rw [gw_u_n _ _ (by decide)]; exact r5
/-- the step taken -/
theorem HE_took (h : HE z Y R p pl c tk a sg) (e : s1 = gw_u sg 11 (upd (sg 11) p (nI c))) (hl : tk < yLim Y) {s2 : Nat → Nat → Int32} (e2 : s2 = gw_u s1 0 (upd (s1 0) 25 (nI (tk + 1)))) : MF z s2 ∧ MR Y (a.1 + 1, a.2) s2 ∧ s2 11 = s1 11 := by
  obtain ⟨h1, h2, h3, h4, h5, h6, h7, h8, h9, h10, h11⟩ := h
  have hF : MF z s1 := by rw [e]; exact h1.w11 _
  have hR : MR Y a s1 := by rw [e]; exact MR_w11 h2 _
  rw [e2]
  obtain ⟨r1, r2, r3, r4, r5⟩ := hR
  refine ⟨hF.w0 (by decide) _, ⟨⟨by rw [m_upd_s, h5], by show a.1 + 1 ≤ yLim Y; omega⟩, ?_, ?_, ?_, ?_⟩, gw_u_n _ _ (by decide)⟩
  · rw [m_upd _ (by decide)]; exact r2
  · rw [m_upd _ (by decide)]; exact r3
  · rw [m_upd _ (by decide)]; exact r4
  · rw [gw_u_n _ _ (by decide)]; exact r5
theorem yLook_1 (Y : YT) (pl : Nat → Nat) (a : RS) : (yLook Y pl a).1 = a.1 := by
  unfold yLook lookP
  split
  · split <;> rfl
  · rfl
theorem yLook_2 (Y : YT) (pl : Nat → Nat) (a : RS) : (yLook Y pl a).2.1 = a.2.1 := by
  unfold yLook lookP
  split
  · split <;> rfl
  · rfl
theorem HE_look (h : HE z Y R p pl c tk a sg) (e : s1 = gw_u sg 11 (upd (sg 11) p (nI c))) (hc : c ≤ 12) (hf : yFit Y (pu pl p c)) (hl : tk < yLim Y) (hN : p + 1 = yN Y) {s3 : Nat → Nat → Int32} (hF : MF z s3) (hR : MR Y (yLook Y (pu pl p c) (a.1 + 1, a.2)) s3) (e3 : s3 11 = s1 11) : HD z Y R (p + 1) pl (c + 1) (tk + 1) (yLook Y (pu pl p c) (a.1 + 1, a.2)) s3 := by
  obtain ⟨h1, h2, h3, h4, h5, h6, h7, h8, h9, h10, h11⟩ := id h
  rw [headP_t hc hf, stepP_f (by omega), ySrch_0 (by omega)] at h11
  refine Or.inr ⟨p, rfl, hF, hR, h3, ?_, ?_, ?_, ?_, by omega, h9, h10, ?_⟩
  · rw [yLook_2]; exact h4
  · rw [yLook_1, ← h5]
  · intro q hq
    rw [e3, e, gw_u_s]
    unfold upd
    rw [if_neg (by omega)]
    exact h6 q hq
  · rw [e3, e, gw_u_s]
    unfold upd
    rw [if_pos rfl, nI_sub1 (by omega)]
    rfl
  · rw [contP_head (by rw [yLook_2]; exact h4) (by rw [pu_s]; exact hc), pu_s, pu_pu, pu_0 (h9 p (Nat.le_refl _))] at h11
    exact h11
theorem HE_down (hY : MY Y z) (h : HE z Y R p pl c tk a sg) (e : s1 = gw_u sg 11 (upd (sg 11) p (nI c))) (hc : c ≤ 12) (hf : yFit Y (pu pl p c)) (hl : tk < yLim Y) (hN : ¬ p + 1 = yN Y) {s2 s3 : Nat → Nat → Int32} (e2 : s2 = gw_u s1 0 (upd (s1 0) 25 (nI (tk + 1)))) (e3 : s3 = gw_u s2 11 (upd (s2 11) (p + 1) (-1))) : HD z Y R (p + 2) (pu pl p c) 0 (tk + 1) (a.1 + 1, a.2) s3 := by
  obtain ⟨t1, t2, t3⟩ := HE_took h e hl e2
  have hm := HE_mc h hc e
  have hz := HE_zz h
  obtain ⟨h1, h2, h3, h4, h5, h6, h7, h8, h9, h10, h11⟩ := id h
  rw [headP_t hc hf, stepP_f (by omega), ← headP_begin (by omega) (hz (p + 1) (Nat.le_refl _)) hf] at h11
  refine Or.inr ⟨p + 1, rfl, by rw [e3]; exact t1.w11 _, by rw [e3]; exact MR_w11 t2 _, by omega, h4, by show a.1 + 1 = tk + 1; omega, ?_, ?_, by omega, hz, hf, h11⟩
  · intro q hq
    rw [e3, gw_u_s]
    unfold upd
    rw [if_neg (by omega), t3]
    exact hm q hq
  · rw [e3, gw_u_s]
    unfold upd
    rw [if_pos rfl]
    rfl
theorem HD_start (hY : MY Y z) (h0 : 0 < yN Y) {s3 : Nat → Nat → Int32} (hF : MF z s3) (hR : MR Y (0, false, false, z 0 26, z 12) s3) (hc : s3 11 0 = -1) : HD z Y (ySrch Y (yN Y) 0 z0 (0, false, false, z 0 26, z 12)) 1 z0 0 0 (0, false, false, z 0 26, z 12) s3 := by
  refine Or.inr ⟨0, rfl, hF, hR, h0, rfl, rfl, fun q hq => absurd hq (by omega), ?_, by omega, fun q _ => rfl, fit_z0 Y, ?_⟩
  · rw [hc]; rfl
  · rw [headP_begin h0 rfl (fit_z0 Y)]
    rfl
end HESEC
/-- a plan that becomes the best, in the reference -/
def KB (sg : Nat → Nat → Int32) (g : Int32) : Nat → Nat → Int32 := gw_u (gw_u sg 0 (upd (sg 0) 23 (nI 1))) 0 (upd (gw_u sg 0 (upd (sg 0) 23 (nI 1)) 0) 26 g)
def KD (sg : Nat → Nat → Int32) (g : Int32) (f : Nat → Int32) (i : Nat) : Nat → Nat → Int32 := gw_u (KB sg g) 12 (fil (KB sg g 12) f i)
/-- look's frame -/
def LF (z sg : Nat → Nat → Int32) : Prop := (∀ k : Nat, k ≠ 0 → k ≠ 12 → sg k = z k) ∧ ∀ j : Nat, j ≠ 23 → j ≠ 26 → sg 0 j = z 0 j
theorem LF.refl (z : Nat → Nat → Int32) : LF z z := ⟨fun _ _ _ => rfl, fun _ _ _ => rfl⟩
theorem LF.mf {z s t : Nat → Nat → Int32} (h : LF s t) (h2 : MF z s) : MF z t := ⟨fun k h0 h1 h9 => (h.1 k h0 h9).trans (h2.1 k h0 h1 h9), fun j hj => (h.2 j (by omega) (by omega)).trans (h2.2 j hj)⟩
theorem KD_LF (sg : Nat → Nat → Int32) (g : Int32) (f : Nat → Int32) (i : Nat) : LF sg (KD sg g f i) := ⟨fun k h0 h12 => by simp [KD, KB, gw_u, h0, h12], fun j h1 h2 => by simp [KD, KB, gw_u, upd, h1, h2]⟩
def lF (Y : YT) (pl : Nat → Nat) (i : Nat) : Int32 := sW (fun k => yWo Y k * mnW (yMad Y pl k) (yMs Y k)) i
def lC (Y : YT) (pl : Nat → Nat) (i : Nat) : Int32 := lF Y pl 4 - cstW (yCt Y) (yCf Y) pl i
theorem lC_s (Y : YT) (pl : Nat → Nat) (i : Nat) : lC Y pl i - yCt Y (yCf Y i) * nI (pl i) = lC Y pl (i + 1) := by
  show lF Y pl 4 - cstW (yCt Y) (yCf Y) pl i - yCt Y (yCf Y i) * nI (pl i) = lF Y pl 4 - (cstW (yCt Y) (yCf Y) pl i + nI (pl i) * yCt Y (yCf Y i))
  rw [Int32.mul_comm, Int32.sub_eq_add_neg, Int32.sub_eq_add_neg, Int32.sub_eq_add_neg, Int32.neg_add, Int32.sub_eq_add_neg, ← Int32.add_assoc]
theorem lC_0 (Y : YT) (pl : Nat → Nat) : lC Y pl 0 = lF Y pl 4 := by
  show lF Y pl 4 - nI 0 = lF Y pl 4
  rw [nI_0, Int32.sub_zero]
theorem lC_N {Y : YT} {pl : Nat → Nat} (hN : yN Y ≤ 6) (hz : ∀ q : Nat, yN Y ≤ q → pl q = 0) : lC Y pl (yN Y) = yGai Y pl := by
  unfold lC yGai gaiW
  have e : cstW (yCt Y) (yCf Y) pl 6 = cstW (yCt Y) (yCf Y) pl (yN Y) := sW_stop 6 (fun j hj => by simp [hz j hj, nI_0]) hN
  rw [e]
  rfl
theorem dS_N {Y : YT} {sg : Nat → Nat → Int32} (h : MY Y sg) {c k : Nat} (hk : k < 4) {pl : Nat → Nat} (hc : MC c pl (yN Y) sg) (hz : ∀ q : Nat, yN Y ≤ q → pl q = 0) : dS sg c k (yN Y) = yMad Y pl k := by
  rw [dS_eq h hk (yN Y) h.1.1 hc]
  unfold yMad madW
  rw [sW_stop (f := fun q => nI (pl q) * yGv Y q k) (n := yN Y) 6 (fun j hj => by simp [hz j hj, nI_0]) h.1.1]
theorem MR_look0 {Y : YT} {pl : Nat → Nat} {a : RS} {sg : Nat → Nat → Int32} (h : MR Y a sg) (hq : ¬ (FilW (ySk Y) (yLs Y) (yGv Y) pl ∧ (sg 0 23 = 0 ∨ sg 0 26 < yGai Y pl))) : MR Y (yLook Y pl a) sg := by
  have e : yLook Y pl a = a := by
    unfold yLook lookP
    split
    · next q1 =>
      split
      · next q2 =>
        refine absurd ⟨q1, ?_⟩ hq
        rw [h.2.2.1, h.2.2.2.1, b2_0]
        exact q2
      · rfl
    · rfl
  rw [e]
  exact h
theorem MR_look1 {Y : YT} {pl : Nat → Nat} {a : RS} {sg : Nat → Nat → Int32} (h : MR Y a sg) (h1 : FilW (ySk Y) (yLs Y) (yGv Y) pl) (h2 : sg 0 23 = 0 ∨ sg 0 26 < yGai Y pl) : MR Y (yLook Y pl a) (KD sg (yGai Y pl) (fun q => nI (pl q)) 6) := by
  have e : yLook Y pl a = (a.1, a.2.1, true, yGai Y pl, fun q => nI (pl q)) := by
    unfold yLook lookP
    rw [if_pos h1]
    refine if_pos ?_
    rw [h.2.2.1, h.2.2.2.1, b2_0] at h2
    exact h2
  rw [e]
  obtain ⟨r1, r2, r3, r4, r5⟩ := h
  refine ⟨?_, ?_, ?_, ?_, ?_⟩
  · show KD sg _ _ 6 0 25 = nI a.1 ∧ _
    rw [(KD_LF _ _ _ _).2 25 (by decide) (by decide)]; exact r1
  · rw [(KD_LF _ _ _ _).2 24 (by decide) (by decide)]; exact r2
  · simp [KD, KB, gw_u, upd, b2]
  · simp [KD, KB, gw_u, upd]
  · intro q hq
    simp [KD, KB, gw_u, upd, fil, hq]
