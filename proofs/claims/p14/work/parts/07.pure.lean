/-! THE SEARCH AS A FUNCTION. Numbers that the fits' comparisons need are naturals, all others are Int32 as they lie. A plan is Nat → Nat, 0 from the patterns not told on. A result: steps, spent, found, gain, plan. -/
def sN (f : Nat → Nat) : Nat → Nat
  | 0 => 0
  | n + 1 => sN f n + f n
def sW (f : Nat → Int32) : Nat → Int32
  | 0 => nI 0
  | n + 1 => sW f n + f n
def pu (pl : Nat → Nat) (k v : Nat) : Nat → Nat := fun j => if j = k then v else pl j
theorem pu_s (pl : Nat → Nat) (k v : Nat) : pu pl k v k = v := by simp [pu]
theorem pu_n (pl : Nat → Nat) {k j : Nat} (v : Nat) (h : j ≠ k) : pu pl k v j = pl j := by simp [pu, h]
theorem pu_pu (pl : Nat → Nat) (k v w : Nat) : pu (pu pl k v) k w = pu pl k w := by
  funext j
  unfold pu
  split <;> rfl
theorem pu_self (pl : Nat → Nat) (k : Nat) : pu pl k (pl k) = pl := by
  funext j
  unfold pu
  split
  · next h => rw [h]
  · rfl
theorem sN_congr {f g : Nat → Nat} : ∀ n : Nat, (∀ j, j < n → f j = g j) → sN f n = sN g n
  | 0, _ => rfl
  | n + 1, h => by
    show sN f n + f n = sN g n + g n
    rw [sN_congr n (fun j hj => h j (by omega)), h n (by omega)]
theorem sW_congr {f g : Nat → Int32} : ∀ n : Nat, (∀ j, j < n → f j = g j) → sW f n = sW g n
  | 0, _ => rfl
  | n + 1, h => by
    show sW f n + f n = sW g n + g n
    rw [sW_congr n (fun j hj => h j (by omega)), h n (by omega)]
/-- one place of a sum anew -/
theorem sN_at {f g : Nat → Nat} {p : Nat} (h : ∀ j, j ≠ p → f j = g j) : ∀ n : Nat, p < n → sN f n + g p = sN g n + f p
  | 0, hp => absurd hp (Nat.not_lt_zero _)
  | n + 1, hp => by
    show sN f n + f n + g p = sN g n + g n + f p
    by_cases e : p = n
    · subst e
      rw [sN_congr p (fun j hj => h j (by omega))]
      omega
    · have := sN_at h n (by omega)
      rw [h n (fun q => e q.symm)]
      omega
theorem sW_at {f g : Nat → Int32} {p : Nat} {d : Int32} (h : ∀ j, j ≠ p → f j = g j) (hd : f p = g p + d) : ∀ n : Nat, p < n → sW f n = sW g n + d
  | 0, hp => absurd hp (Nat.not_lt_zero _)
  | n + 1, hp => by
    show sW f n + f n = sW g n + g n + d
    by_cases e : p = n
    · subst e
      rw [sW_congr p (fun j hj => h j (by omega)), hd, Int32.add_assoc]
    · rw [sW_at h hd n (by omega), h n (fun q => e q.symm), Int32.add_assoc, Int32.add_comm d, ← Int32.add_assoc]
/-- from n on nothing more -/
theorem sN_stop {f : Nat → Nat} {n : Nat} : ∀ m : Nat, (∀ j, n ≤ j → f j = 0) → n ≤ m → sN f m = sN f n
  | 0, _, h => by
    have : n = 0 := by omega
    rw [this]
  | m + 1, h0, h => by
    by_cases e : n = m + 1
    · rw [e]
    · show sN f m + f m = _
      rw [sN_stop m h0 (by omega), h0 m (by omega)]
      rfl
theorem sW_stop {f : Nat → Int32} {n : Nat} : ∀ m : Nat, (∀ j, n ≤ j → f j = nI 0) → n ≤ m → sW f m = sW f n
  | 0, _, h => by
    have : n = 0 := by omega
    rw [this]
  | m + 1, h0, h => by
    by_cases e : n = m + 1
    · rw [e]
    · show sW f m + f m = _
      rw [sW_stop m h0 (by omega), h0 m (by omega), nI_0, Int32.add_zero]
theorem sN_le {f : Nat → Nat} {b : Nat} : ∀ n : Nat, (∀ j, j < n → f j ≤ b) → sN f n ≤ n * b
  | 0, _ => by simp [sN]
  | n + 1, h => by
    have h1 := sN_le n (fun j hj => h j (by omega))
    have h2 := h n (by omega)
    show sN f n + f n ≤ (n + 1) * b
    rw [Nat.succ_mul]
    omega
/-- minutes of a plan, logs of a class in it -/
def totN (mn : Nat → Nat) (ch : Nat) (pl : Nat → Nat) : Nat → Nat := sN (fun q => pl q * mn q + if 0 < pl q then ch else 0)
def usdN (cf : Nat → Nat) (pl : Nat → Nat) (c : Nat) : Nat → Nat := sN (fun q => if cf q = c then pl q else 0)
def FitN (mn : Nat → Nat) (ch hr : Nat) (cf lg : Nat → Nat) (pl : Nat → Nat) (n : Nat) : Prop := totN mn ch pl n ≤ hr ∧ ∀ c : Nat, c < 4 → usdN cf pl c n ≤ lg c
/-- boards, cents, gain; Int32 -/
def madW (sk : Nat → Int32) (gv : Nat → Nat → Int32) (pl : Nat → Nat) (k n : Nat) : Int32 := sk k + sW (fun q => nI (pl q) * gv q k) n
def cstW (ct : Nat → Int32) (cf : Nat → Nat) (pl : Nat → Nat) (n : Nat) : Int32 := sW (fun q => nI (pl q) * ct (cf q)) n
def mnW (a b : Int32) : Int32 := if a < b then a else b
abbrev RS : Type := Nat × Bool × Bool × Int32 × (Nat → Int32)
section PURE
variable (N lim ch hr : Nat) (mn cf lg : Nat → Nat) (ct sk ls ms wo : Nat → Int32) (gv : Nat → Nat → Int32)
def gaiW (pl : Nat → Nat) : Int32 := sW (fun k => wo k * mnW (madW sk gv pl k 6) (ms k)) 4 - cstW ct cf pl 6
def FilW (pl : Nat → Nat) : Prop := ∀ k : Nat, k < 4 → ¬ madW sk gv pl k 6 < ls k
noncomputable def lookP (pl : Nat → Nat) (a : RS) : RS := @ite RS (FilW sk ls gv pl) (Classical.propDecidable _) (@ite RS (a.2.2.1 = false ∨ a.2.2.2.1 < gaiW cf ct sk ms wo gv pl) (Classical.propDecidable _) (a.1, a.2.1, true, gaiW cf ct sk ms wo gv pl, fun q => nI (pl q)) a) a
def stepP (f : RS → RS) (a : RS) : RS := if lim ≤ a.1 then (a.1, true, a.2.2) else f (a.1 + 1, a.2)
/-- more logs of pattern p: r more at the most -/
noncomputable def itP (g : (Nat → Nat) → RS → RS) (p : Nat) : Nat → (Nat → Nat) → RS → RS
  | 0, _, a => a
  | r + 1, pl, a => @ite RS (a.2.1 = false ∧ FitN mn ch hr cf lg (pu pl p (pl p + 1)) 6) (Classical.propDecidable _) (itP g p r (pu pl p (pl p + 1)) (stepP lim (g (pu pl p (pl p + 1))) a)) a
/-- the patterns from p = N - d on -/
noncomputable def srchP : Nat → Nat → (Nat → Nat) → RS → RS
  | 0, _, pl, a => lookP cf ct sk ls ms wo gv pl a
  | d + 1, p, pl, a => itP lim ch hr mn cf lg (fun pl a => srchP d (p + 1) pl a) p 12 pl (stepP lim (srchP d (p + 1) pl) a)
end PURE
section PUREB
variable {ch hr : Nat} {mn cf lg : Nat → Nat} {pl : Nat → Nat}
/-- one log more -/
theorem tot_more {p c : Nat} (hp : p < 6) (hc : pl p = c) : totN mn ch (pu pl p (c + 1)) 6 = totN mn ch pl 6 + mn p + (if c = 0 then ch else 0) := by
  have h := sN_at (f := fun q => pu pl p (c + 1) q * mn q + if 0 < pu pl p (c + 1) q then ch else 0) (g := fun q => pl q * mn q + if 0 < pl q then ch else 0) (p := p) (fun j hj => by simp only [pu_n pl _ hj]) 6 hp
  simp only [pu_s, hc] at h
  have e : (c + 1) * mn p = c * mn p + mn p := Nat.succ_mul c (mn p)
  rw [e] at h
  unfold totN
  by_cases h0 : c = 0
  · simp only [h0, Nat.zero_mul, Nat.lt_irrefl, if_false, if_true, Nat.lt_add_one, Nat.zero_add] at h ⊢
    omega
  · simp only [h0, if_false, show 0 < c + 1 by omega, show 0 < c by omega, if_true] at h ⊢
    omega
theorem usd_more {p c q : Nat} (hp : p < 6) (hc : pl p = c) : usdN cf (pu pl p (c + 1)) q 6 = usdN cf pl q 6 + (if cf p = q then 1 else 0) := by
  have h := sN_at (f := fun j => if cf j = q then pu pl p (c + 1) j else 0) (g := fun j => if cf j = q then pl j else 0) (p := p) (fun j hj => by simp only [pu_n pl _ hj]) 6 hp
  simp only [pu_s, hc] at h
  unfold usdN
  by_cases h0 : cf p = q
  · simp only [h0, if_true] at h ⊢
    omega
  · simp only [h0, if_false] at h ⊢
    omega
/-- the logs of p taken back -/
theorem tot_none {p c : Nat} (hp : p < 6) (hc : pl p = c) : totN mn ch pl 6 = totN mn ch (pu pl p 0) 6 + c * mn p + (if c = 0 then 0 else ch) := by
  have h := sN_at (f := fun q => pl q * mn q + if 0 < pl q then ch else 0) (g := fun q => pu pl p 0 q * mn q + if 0 < pu pl p 0 q then ch else 0) (p := p) (fun j hj => by simp only [pu_n pl _ hj]) 6 hp
  simp only [pu_s, hc, Nat.zero_mul, Nat.lt_irrefl, if_false] at h
  unfold totN
  by_cases h0 : c = 0
  · simp only [h0, Nat.zero_mul, Nat.lt_irrefl, if_false, if_true] at h ⊢
    omega
  · simp only [h0, if_false, show 0 < c by omega, if_true] at h ⊢
    omega
theorem usd_none {p c q : Nat} (hp : p < 6) (hc : pl p = c) : usdN cf pl q 6 = usdN cf (pu pl p 0) q 6 + (if cf p = q then c else 0) := by
  have h := sN_at (f := fun j => if cf j = q then pl j else 0) (g := fun j => if cf j = q then pu pl p 0 j else 0) (p := p) (fun j hj => by simp only [pu_n pl _ hj]) 6 hp
  simp only [pu_s, hc] at h
  unfold usdN
  by_cases h0 : cf p = q
  · simp only [h0, if_true] at h ⊢
    omega
  · simp only [h0, if_false] at h ⊢
    omega
theorem nI_smul (c : Nat) (g : Int32) : nI (c + 1) * g = nI c * g + g := by
  rw [← nI_add, Int32.add_mul]
  congr 1
  exact Int32.one_mul g
theorem mad_more {sk : Nat → Int32} {gv : Nat → Nat → Int32} {p c k : Nat} (hp : p < 6) (hc : pl p = c) : madW sk gv (pu pl p (c + 1)) k 6 = madW sk gv pl k 6 + gv p k := by
  have h := sW_at (f := fun q => nI (pu pl p (c + 1) q) * gv q k) (g := fun q => nI (pl q) * gv q k) (p := p) (d := gv p k) (fun j hj => by simp only [pu_n pl _ hj]) (by simp only [pu_s, hc]; exact nI_smul c _) 6 hp
  unfold madW
  rw [h, Int32.add_assoc]
theorem cst_more {ct : Nat → Int32} {p c : Nat} (hp : p < 6) (hc : pl p = c) : cstW ct cf (pu pl p (c + 1)) 6 = cstW ct cf pl 6 + ct (cf p) :=
  sW_at (f := fun q => nI (pu pl p (c + 1) q) * ct (cf q)) (g := fun q => nI (pl q) * ct (cf q)) (p := p) (d := ct (cf p)) (fun j hj => by simp only [pu_n pl _ hj]) (by simp only [pu_s, hc]; exact nI_smul c _) 6 hp
theorem mad_none {sk : Nat → Int32} {gv : Nat → Nat → Int32} {p c k : Nat} (hp : p < 6) (hc : pl p = c) : madW sk gv pl k 6 = madW sk gv (pu pl p 0) k 6 + nI c * gv p k := by
  have h := sW_at (f := fun q => nI (pl q) * gv q k) (g := fun q => nI (pu pl p 0 q) * gv q k) (p := p) (d := nI c * gv p k) (fun j hj => by simp only [pu_n pl _ hj]) (by simp only [pu_s, hc, nI_0, Int32.zero_mul, Int32.zero_add]) 6 hp
  unfold madW
  rw [h, Int32.add_assoc]
theorem cst_none {ct : Nat → Int32} {p c : Nat} (hp : p < 6) (hc : pl p = c) : cstW ct cf pl 6 = cstW ct cf (pu pl p 0) 6 + nI c * ct (cf p) :=
  sW_at (f := fun q => nI (pl q) * ct (cf q)) (g := fun q => nI (pu pl p 0 q) * ct (cf q)) (p := p) (d := nI c * ct (cf p)) (fun j hj => by simp only [pu_n pl _ hj]) (by simp only [pu_s, hc, nI_0, Int32.zero_mul, Int32.zero_add]) 6 hp
end PUREB
