/-! THE INVARIANT: the number of patterns is at most 6, the classes of patterns are below 4. -/
theorem nI_mul (a b : Nat) : nI a * nI b = nI (a * b) := (Int32.ofNat_mul a b).symm
def IvG (y kp c : Nat) (sg : Nat → Nat → Int32) : Prop := (∃ N : Nat, N ≤ 6 ∧ sg y kp = nI N) ∧ ∀ i : Nat, i < 6 → ∃ f : Nat, f < 4 ∧ sg c i = nI f
def KG (y kp c : Nat) (a b : Nat → Nat → Int32) : Prop := IvG y kp c b ∧ b y kp = a y kp
theorem KG.refl {y kp c : Nat} {a : Nat → Nat → Int32} (h : IvG y kp c a) : KG y kp c a a := ⟨h, rfl⟩
theorem KG.trans {y kp c : Nat} {a b d : Nat → Nat → Int32} (h : KG y kp c a b) (h2 : KG y kp c b d) : KG y kp c a d := ⟨h2.1, h2.2.trans h.2⟩
theorem KG.wa {y kp c : Nat} {a b : Nat → Nat → Int32} (h : KG y kp c a b) (k : Nat) (h1 : k ≠ y) (h2 : k ≠ c) (f : Nat → Int32) : KG y kp c a (gw_u b k f) := by
  refine ⟨⟨?_, ?_⟩, ?_⟩
  · rw [gw_u_n b f (Ne.symm h1)]; exact h.1.1
  · rw [gw_u_n b f (Ne.symm h2)]; exact h.1.2
  · rw [gw_u_n b f (Ne.symm h1)]; exact h.2
theorem KG.wf {y kp c : Nat} {a b : Nat → Nat → Int32} (h : KG y kp c a b) {j : Nat} (hj : j ≠ kp) (x : Int32) (hyc : y ≠ c := by decide) : KG y kp c a (gw_u b y (upd (b y) j x)) := by
  have e : gw_u b y (upd (b y) j x) y kp = b y kp := by
    rw [gw_u_s]
    unfold upd
    rw [if_neg (Ne.symm hj)]
  refine ⟨⟨?_, ?_⟩, ?_⟩
  · rw [e]; exact h.1.1
  · rw [gw_u_n b _ (Ne.symm hyc)]; exact h.1.2
  · rw [e]; exact h.2
theorem KG.wc {y kp c : Nat} {a b : Nat → Nat → Int32} (h : KG y kp c a b) (i : Nat) {f : Nat} (hf : f < 4) (hyc : y ≠ c := by decide) : KG y kp c a (gw_u b c (upd (b c) i (nI f))) := by
  refine ⟨⟨?_, fun k hk => ?_⟩, ?_⟩
  · rw [gw_u_n b _ hyc]; exact h.1.1
  · rw [gw_u_s]
    unfold upd
    split
    · exact ⟨f, hf, rfl⟩
    · exact h.1.2 k hk
  · rw [gw_u_n b _ hyc]; exact h.2
theorem KG.wp {y kp c : Nat} {a b : Nat → Nat → Int32} (h : KG y kp c a b) {n : Nat} (hn : n ≤ 6) (hyc : y ≠ c := by decide) : IvG y kp c (gw_u b y (upd (b y) kp (nI n))) := by
  refine ⟨⟨n, hn, ?_⟩, ?_⟩
  · rw [gw_u_s]
    unfold upd
    rw [if_pos rfl]
  · rw [gw_u_n b _ (Ne.symm hyc)]; exact h.1.2
theorem KG.back {y kp c n : Nat} {pl : List Nat} {sg sg1 sg2 : Nat → Nat → Int32} (h : KG y kp c (fun j => sg (gw_p pl j)) sg1) (h1 : ∀ j, j < n → sg2 (gw_p pl j) = sg1 j) (hy : y < n) (hc : c < n) : KG (gw_p pl y) kp (gw_p pl c) sg sg2 := by
  refine ⟨⟨?_, ?_⟩, ?_⟩
  · rw [h1 y hy]; exact h.1.1
  · rw [h1 c hc]; exact h.1.2
  · rw [h1 y hy]; exact h.2
theorem rowSS : ∀ i, i < 6 → SS[18 + i]? = some (.inr (4, none)) := fun i hi => by rcases (show i = 0 ∨ i = 1 ∨ i = 2 ∨ i = 3 ∨ i = 4 ∨ i = 5 by omega) with rfl | rfl | rfl | rfl | rfl | rfl <;> rfl
theorem rowSY : ∀ i, i < 6 → SY[10 + i]? = some (.inr (4, none)) := fun i hi => by rcases (show i = 0 ∨ i = 1 ∨ i = 2 ∨ i = 3 ∨ i = 4 ∨ i = 5 by omega) with rfl | rfl | rfl | rfl | rfl | rfl <;> rfl
theorem rowSC : ∀ i, i < 6 → SC[13 + i]? = some (.inr (4, none)) := fun i hi => by rcases (show i = 0 ∨ i = 1 ∨ i = 2 ∨ i = 3 ∨ i = 4 ∨ i = 5 by omega) with rfl | rfl | rfl | rfl | rfl | rfl <;> rfl
/-- the reference's: besides, two of its fields are 0 or 1 -/
def IvM (sg : Nat → Nat → Int32) : Prop := (∃ N : Nat, N ≤ 6 ∧ sg 0 3 = nI N) ∧ (∀ i : Nat, i < 6 → ∃ f : Nat, f < 4 ∧ sg 3 i = nI f) ∧ (sg 0 23 = nI 0 ∨ sg 0 23 = nI 1) ∧ (sg 0 24 = nI 0 ∨ sg 0 24 = nI 1)
def KM (a b : Nat → Nat → Int32) : Prop := IvM b ∧ b 0 3 = a 0 3
theorem KM.refl {a : Nat → Nat → Int32} (h : IvM a) : KM a a := ⟨h, rfl⟩
theorem KM.trans {a b d : Nat → Nat → Int32} (h : KM a b) (h2 : KM b d) : KM a d := ⟨h2.1, h2.2.trans h.2⟩
theorem KM.wa {a b : Nat → Nat → Int32} (h : KM a b) (k : Nat) (h1 : k ≠ 0) (h2 : k ≠ 3) (f : Nat → Int32) : KM a (gw_u b k f) := by
  refine ⟨⟨?_, ?_, ?_, ?_⟩, ?_⟩
  · rw [gw_u_n b f (Ne.symm h1)]; exact h.1.1
  · rw [gw_u_n b f (Ne.symm h2)]; exact h.1.2.1
  · rw [gw_u_n b f (Ne.symm h1)]; exact h.1.2.2.1
  · rw [gw_u_n b f (Ne.symm h1)]; exact h.1.2.2.2
  · rw [gw_u_n b f (Ne.symm h1)]; exact h.2
theorem m_upd {b : Nat → Nat → Int32} {j k : Nat} (x : Int32) (h : k ≠ j) : gw_u b 0 (upd (b 0) j x) 0 k = b 0 k := by
  rw [gw_u_s]
  unfold upd
  rw [if_neg h]
theorem m_upd_s (b : Nat → Nat → Int32) (j : Nat) (x : Int32) : gw_u b 0 (upd (b 0) j x) 0 j = x := by
  rw [gw_u_s]
  unfold upd
  rw [if_pos rfl]
theorem KM.wf {a b : Nat → Nat → Int32} (h : KM a b) {j : Nat} (h1 : j ≠ 3) (h2 : j ≠ 23) (h3 : j ≠ 24) (x : Int32) : KM a (gw_u b 0 (upd (b 0) j x)) := by
  refine ⟨⟨?_, ?_, ?_, ?_⟩, ?_⟩
  · rw [m_upd x (Ne.symm h1)]; exact h.1.1
  · rw [gw_u_n b _ (by decide)]; exact h.1.2.1
  · rw [m_upd x (Ne.symm h2)]; exact h.1.2.2.1
  · rw [m_upd x (Ne.symm h3)]; exact h.1.2.2.2
  · rw [m_upd x (Ne.symm h1)]; exact h.2
theorem KM.wh {a b : Nat → Nat → Int32} (h : KM a b) {x : Int32} (hx : x = nI 0 ∨ x = nI 1) : KM a (gw_u b 0 (upd (b 0) 23 x)) := by
  refine ⟨⟨?_, ?_, ?_, ?_⟩, ?_⟩
  · rw [m_upd x (by decide)]; exact h.1.1
  · rw [gw_u_n b _ (by decide)]; exact h.1.2.1
  · rw [m_upd_s]; exact hx
  · rw [m_upd x (by decide)]; exact h.1.2.2.2
  · rw [m_upd x (by decide)]; exact h.2
theorem KM.ww {a b : Nat → Nat → Int32} (h : KM a b) {x : Int32} (hx : x = nI 0 ∨ x = nI 1) : KM a (gw_u b 0 (upd (b 0) 24 x)) := by
  refine ⟨⟨?_, ?_, ?_, ?_⟩, ?_⟩
  · rw [m_upd x (by decide)]; exact h.1.1
  · rw [gw_u_n b _ (by decide)]; exact h.1.2.1
  · rw [m_upd x (by decide)]; exact h.1.2.2.1
  · rw [m_upd_s]; exact hx
  · rw [m_upd x (by decide)]; exact h.2
theorem KM.wc {a b : Nat → Nat → Int32} (h : KM a b) (i : Nat) {f : Nat} (hf : f < 4) : KM a (gw_u b 3 (upd (b 3) i (nI f))) := by
  refine ⟨⟨?_, fun k hk => ?_, ?_, ?_⟩, ?_⟩
  · rw [gw_u_n b _ (by decide)]; exact h.1.1
  · rw [gw_u_s]
    unfold upd
    split
    · exact ⟨f, hf, rfl⟩
    · exact h.1.2.1 k hk
  · rw [gw_u_n b _ (by decide)]; exact h.1.2.2.1
  · rw [gw_u_n b _ (by decide)]; exact h.1.2.2.2
  · rw [gw_u_n b _ (by decide)]; exact h.2
theorem KM.wp {a b : Nat → Nat → Int32} (h : KM a b) {n : Nat} (hn : n ≤ 6) : IvM (gw_u b 0 (upd (b 0) 3 (nI n))) := by
  refine ⟨⟨n, hn, m_upd_s _ _ _⟩, ?_, ?_, ?_⟩
  · rw [gw_u_n b _ (by decide)]; exact h.1.2.1
  · rw [m_upd _ (by decide)]; exact h.1.2.2.1
  · rw [m_upd _ (by decide)]; exact h.1.2.2.2
theorem nb {x : Int32} (h : x = nI 0 ∨ x = nI 1) : narrow .boolean (.int x) = .int x := by rcases h with rfl | rfl <;> rfl
theorem nbf {x : Int32} (h : x = nI 0 ∨ x = nI 1) : fits .boolean (.int x) = true := by rcases h with rfl | rfl <;> rfl
theorem nI_sub1 {j : Nat} (h : 1 ≤ j) : nI j - nI 1 = nI (j - 1) := by
  obtain ⟨k, rfl⟩ : ∃ k, j = k + 1 := ⟨j - 1, by omega⟩
  exact nI_pred k
theorem nI_m1 {j : Nat} (h : 1 ≤ j) : nI j + Int32.ofInt (-1) = nI (j - 1) := by
  rw [← nI_sub1 h, Int32.sub_eq_add_neg]
  rfl
theorem inof20000 {a : Int32} (h : inR a (nI 0) (nI 20000)) : ∃ j : Nat, j < 20001 ∧ a = nI j := in_nat (by decide) h
theorem IvG.back {y kp c n : Nat} {pl : List Nat} {sg1 sg2 : Nat → Nat → Int32} (h : IvG y kp c sg1) (h1 : ∀ j, j < n → sg2 (gw_p pl j) = sg1 j) (hy : y < n) (hc : c < n) : IvG (gw_p pl y) kp (gw_p pl c) sg2 := by
  refine ⟨?_, ?_⟩
  · rw [h1 y hy]; exact h.1
  · rw [h1 c hc]; exact h.2
