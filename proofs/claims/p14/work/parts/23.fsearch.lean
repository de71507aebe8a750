/-- a row filled up to i -/
def fil (g f : Nat → Int32) (i : Nat) : Nat → Int32 := fun j => if j < i then f j else g j
theorem fil_0 (b : Nat → Nat → Int32) (k : Nat) (f : Nat → Int32) : gw_u b k (fil (b k) f 0) = b := by
  funext k9 j9
  unfold gw_u
  split
  · next h => subst h; simp [fil]
  · rfl
theorem fil_s (b : Nat → Nat → Int32) (k : Nat) (f : Nat → Int32) (i : Nat) (x : Int32) (hx : x = f i) : gw_u (gw_u b k (fil (b k) f i)) k (upd (gw_u b k (fil (b k) f i) k) i x) = gw_u b k (fil (b k) f (i + 1)) := by
  subst hx
  funext k9 j9
  unfold gw_u
  split
  · unfold upd fil
    simp only [if_true]
    split
    · next h => subst h; simp
    · next h =>
      by_cases h2 : j9 < i
      · simp [h2, show j9 < i + 1 by omega]
      · simp [h2, show ¬ j9 < i + 1 by omega]
  · rfl
def FA (sg : Nat → Nat → Int32) : Nat → Nat → Int32 := gw_u sg 1 (fil (sg 1) (fun _ => nI 0) 6)
def FB (sg : Nat → Nat → Int32) : Nat → Nat → Int32 := gw_u sg 2 (fil (sg 2) (sg 9) 4)
def FC (sg : Nat → Nat → Int32) : Nat → Nat → Int32 := gw_u sg 3 (fil (sg 3) (sg 17) 4)
def FE (sg0 : Nat → Nat → Int32) : Nat → Nat → Int32 := gw_u (gw_u (FC (FB (FA sg0))) 0 (upd (FC (FB (FA sg0)) 0) 4 (FC (FB (FA sg0)) 8 10))) 0 (upd (gw_u (FC (FB (FA sg0))) 0 (upd (FC (FB (FA sg0)) 0) 4 (FC (FB (FA sg0)) 8 10)) 0) 5 (nI 0))
/-- the orders of a search, up to product i -/
def oF (b : Nat → Nat → Int32) (x : Int32) (c : Nat) : Nat → Int32 := fun k => if nI k = x then nI 0 else b c k
def gO (b : Nat → Nat → Int32) (x : Int32) (i : Nat) : Nat → Nat → Int32 := gw_u (gw_u (gw_u b 4 (fil (b 4) (oF b x 14) i)) 5 (fil (b 5) (oF b x 15) i)) 6 (fil (b 6) (oF b x 16) i)
theorem gO_0 (b : Nat → Nat → Int32) (x : Int32) : gO b x 0 = b := by
  funext k j
  by_cases h6 : k = 6
  · subst h6; simp [gO, gw_u, fil]
  · by_cases h5 : k = 5
    · subst h5; simp [gO, gw_u, fil]
    · by_cases h4 : k = 4
      · subst h4; simp [gO, gw_u, fil]
      · simp [gO, gw_u, h4, h5, h6]
theorem gO_s (b : Nat → Nat → Int32) (x : Int32) (i : Nat) (v4 v5 v6 : Int32) (h4 : v4 = oF b x 14 i) (h5 : v5 = oF b x 15 i) (h6 : v6 = oF b x 16 i) :
    gw_u (gw_u (gw_u (gO b x i) 4 (upd (gO b x i 4) i v4)) 5 (upd (gw_u (gO b x i) 4 (upd (gO b x i 4) i v4) 5) i v5)) 6 (upd (gw_u (gw_u (gO b x i) 4 (upd (gO b x i 4) i v4)) 5 (upd (gw_u (gO b x i) 4 (upd (gO b x i 4) i v4) 5) i v5) 6) i v6) = gO b x (i + 1) := by
  subst h4; subst h5; subst h6
  funext k j
  have key : ∀ (g f : Nat → Int32), upd (fil g f i) i (f i) j = fil g f (i + 1) j := by
    intro g f
    unfold upd fil
    by_cases e : j = i
    · subst e; simp
    · by_cases h : j < i
      · simp [e, h, show j < i + 1 by omega]
      · simp [e, h, show ¬ j < i + 1 by omega]
  by_cases h6 : k = 6
  · subst h6; simpa [gO, gw_u] using key (b 6) (oF b x 16)
  · by_cases h5 : k = 5
    · subst h5; simpa [gO, gw_u] using key (b 5) (oF b x 15)
    · by_cases h4 : k = 4
      · subst h4; simpa [gO, gw_u] using key (b 4) (oF b x 14)
      · simp [gO, gw_u, h4, h5, h6]
/-- the next log's minutes -/
def nx (sg : Nat → Nat → Int32) (p : Nat) : Int32 := if sg 1 p = 0 then sg 12 p + sg 8 11 else sg 12 p
/-- one log more of pattern p of class c: minutes, logs, cents, counts; then boards -/
def FL1 (b : Nat → Nat → Int32) (p : Nat) : Nat → Nat → Int32 := gw_u b 0 (upd (b 0) 4 (b 0 4 - nx b p))
def FL2 (b : Nat → Nat → Int32) (p c : Nat) : Nat → Nat → Int32 := gw_u (FL1 b p) 2 (upd (FL1 b p 2) c (FL1 b p 2 c - nI 1))
def FL3 (b : Nat → Nat → Int32) (p c : Nat) : Nat → Nat → Int32 := gw_u (FL2 b p c) 0 (upd (FL2 b p c 0) 5 (FL2 b p c 0 5 + FL2 b p c 10 c))
def FL4 (b : Nat → Nat → Int32) (p c : Nat) : Nat → Nat → Int32 := gw_u (FL3 b p c) 1 (upd (FL3 b p c 1) p (FL3 b p c 1 p + nI 1))
def FL (b : Nat → Nat → Int32) (p c : Nat) : Nat → Nat → Int32 := gw_u (FL4 b p c) 3 (fil (FL4 b p c 3) (fun k => FL4 b p c 3 k + FL4 b p c (18 + p) k) 4)
/-- the logs of pattern p taken back -/
def FT1 (b : Nat → Nat → Int32) (p : Nat) : Nat → Nat → Int32 := gw_u b 0 (upd (b 0) 4 (b 0 4 + (b 1 p * b 12 p + b 8 11)))
def FT2 (b : Nat → Nat → Int32) (p c : Nat) : Nat → Nat → Int32 := gw_u (FT1 b p) 2 (upd (FT1 b p 2) c (FT1 b p 2 c + b 1 p))
def FT3 (b : Nat → Nat → Int32) (p c : Nat) : Nat → Nat → Int32 := gw_u (FT2 b p c) 0 (upd (FT2 b p c 0) 5 (FT2 b p c 0 5 - b 1 p * FT2 b p c 10 c))
def FT4 (b : Nat → Nat → Int32) (p c : Nat) : Nat → Nat → Int32 := gw_u (FT3 b p c) 1 (upd (FT3 b p c 1) p (nI 0))
def FT (b : Nat → Nat → Int32) (p c : Nat) : Nat → Nat → Int32 := gw_u (FT4 b p c) 3 (fil (FT4 b p c 3) (fun k => FT4 b p c 3 k - b 1 p * FT4 b p c (18 + p) k) 4)
/-- the gain, up to product i -/
def gP (sg : Nat → Nat → Int32) : Nat → Int32
  | 0 => - sg 0 5
  | i + 1 => gP sg i + sg 6 i * (if sg 5 i < sg 3 i then sg 5 i else sg 3 i)
def fillsP (sg : Nat → Nat → Int32) : Prop := ∀ k : Nat, k < 4 → ¬ sg 3 k < sg 4 k
/-- a plan looked at: it becomes the best -/
def FK (b : Nat → Nat → Int32) : Nat → Nat → Int32 := gw_u (gw_u (gw_u b 0 (upd (b 0) 12 (nI 1))) 0 (upd (gw_u b 0 (upd (b 0) 12 (nI 1)) 0) 13 (gP b 4))) 7 (va_cpy (gw_u (gw_u b 0 (upd (b 0) 12 (nI 1))) 0 (upd (gw_u b 0 (upd (b 0) 12 (nI 1)) 0) 13 (gP b 4)) 1) (gw_u (gw_u b 0 (upd (b 0) 12 (nI 1))) 0 (upd (gw_u b 0 (upd (b 0) 12 (nI 1)) 0) 13 (gP b 4)) 7) 0 0 6)
noncomputable def lkF (b : Nat → Nat → Int32) : Nat → Nat → Int32 := @ite (Nat → Nat → Int32) (fillsP b ∧ (b 0 12 = 0 ∨ b 0 13 < gP b 4)) (Classical.propDecidable _) (FK b) b
theorem lkF_t {b : Nat → Nat → Int32} (h1 : fillsP b) (h2 : b 0 12 = 0 ∨ b 0 13 < gP b 4) : lkF b = FK b := if_pos ⟨h1, h2⟩
theorem lkF_f {b : Nat → Nat → Int32} (h : ¬ (fillsP b ∧ (b 0 12 = 0 ∨ b 0 13 < gP b 4))) : lkF b = b := if_neg h

abbrev rmf_X0_startWithEmptyPlan : Room := { frames := 0, cells := 0, slots := 0, locals := 0 }
set_option maxRecDepth 100000 in
set_option maxHeartbeats 4000000 in
theorem m_f_X0_startWithEmptyPlan (l : Launch) (hl9 : l.stackTraces = false) (D : va_G) (cI : ClassId) (cJ : ClassId × ClassId) (ad : Nat → Nat) (sg0 : Nat → Nat → Int32) (sz : Nat) (hI : IvG 8 9 11 sg0) : gc_M l yX0_startWithEmptyPlan wsX0_startWithEmptyPlan rmf_X0_startWithEmptyPlan D vwCl (tyS cI cJ) cI cJ gxT gxN SS [.ref (ad 0)] ad sg0 sz 0 0 (fun v sg2 => v = none ∧ sg2 = FE sg0) := by
  refine gc_Mv_of (cc := cX0_startWithEmptyPlan) (maxL := 2) (by decide) rfl (Nat.le_of_ble_eq_true rfl) ?_
  intro p e s m below meth c A ls Q hin hE hret
  obtain ⟨⟨hx, hb, hml, hown, hts⟩, -, hlocks, -, hA, hP, hK, hD, hS, hl⟩ := hin
  have hts : ∀ w ∈ wsAll, w.before ([.ref (ad 0)] : List Value).toArray s = true := fun w h => hts w (List.mem_cons_of_mem _ h)
  have hl : lv_has ls 2 [(0, .ref (ad 0))] := hl
  have c51 : ∀ (n9 : Nat) (i : Nat) (sg : Nat → Nat → Int32) (H : Heap) (locs : List Loc) (ls : Array Slot), 4 - i = n9 → i ≤ 4 → (sg = gw_u (FB (FA sg0)) 3 (fil ((FB (FA sg0)) 3) ((FB (FA sg0)) 17) i)) → va_P D vwCl (gw cI cJ ad sg SS) H → va_D A (gw cI cJ ad sg SS) → va_S A s.heap H locs → lv_has ls 2 [(1, .int (nI i)), (0, .ref (ad 0))] → W p l e rmf_X0_startWithEmptyPlan s m ([.ref (ad 0)] : List Value).toArray below meth c H locs 0 0 Q (F0 m 51 ls []) := by
    intro n9
    induction n9 using Nat.strongRecOn with
    | ind n9 ih =>
    intro i sg H locs ls hn h1 hk hP hD hS hl
    subst hn
    refine lv_iload_n hx hb dX0_startWithEmptyPlan_51 rfl (lv_at hl 0 rfl) ?_
    refine lv_iconst (v := (nI 4)) hx hb dX0_startWithEmptyPlan_52 (by decide) ?_
    refine lv_icmp_ge (tgt := 77) hx hb dX0_startWithEmptyPlan_53 (by decide) (fun hc1 => ?_) (fun hc1 => ?_)
    · have hc1 : 4 ≤ i := (nI_leI (a := 4) (b := i) (by omega) (by omega)).mp hc1
      refine lv_aload_n hx hb dX0_startWithEmptyPlan_77 rfl (lv_at hl 1 rfl) ?_
      refine lv_aload_n hx hb dX0_startWithEmptyPlan_78 rfl (lv_at hl 1 rfl) ?_
      refine gw_getr (C := RX0) (T := TX0) (N := 15) hx hb hts inwX0 hown hK hP 0 0 8 rfl rfl rfl (by decide) (hts _ a6) (fun _ h9 => h9) dX0_startWithEmptyPlan_79 ?_
      refine gw_getiN (C := RX1) (T := TX1) (N := 12) hx hb hts inwX1 hown hK hP 8 10 rfl rfl rfl (by decide) (hE.nest _ (.fieldLinkNest RX0 69 RX1 "minutesADay" "I" RX2) (by decide +kernel) rfl) (fun _ h9 => h9) dX0_startWithEmptyPlan_82 ?_
      refine gw_put (C := RX0) (T := TX0) (N := 15) (ty := .int) hx hb hts inwX0 tyX0 tyX0_ok nmX0 hown hK hP hD hS 0 4 rfl rfl rfl (by decide) (hts _ a7) (fun _ h9 => h9) rfl (by decide +kernel) rfl rfl dX0_startWithEmptyPlan_85 (fun H locs hP hD hS => ?_)
      obtain ⟨sg2, esg2⟩ : ∃ z : Nat → Nat → Int32, z = gw_u sg 0 (upd (sg 0) 4 (sg 8 10)) := ⟨_, rfl⟩
      rw [← esg2] at hP hD
      refine lv_aload_n hx hb dX0_startWithEmptyPlan_88 rfl (lv_at hl 1 rfl) ?_
      refine lv_iconst (v := (nI 0)) hx hb dX0_startWithEmptyPlan_89 (by decide) ?_
      refine gw_put (C := RX0) (T := TX0) (N := 15) (ty := .int) hx hb hts inwX0 tyX0 tyX0_ok nmX0 hown hK hP hD hS 0 5 rfl rfl rfl (by decide) (hts _ a8) (fun _ h9 => h9) rfl (by decide +kernel) rfl rfl dX0_startWithEmptyPlan_90 (fun H locs hP hD hS => ?_)
      obtain ⟨sg3, esg3⟩ : ∃ z : Nat → Nat → Int32, z = gw_u sg2 0 (upd (sg2 0) 5 (nI 0)) := ⟨_, rfl⟩
      rw [← esg3] at hP hD
      exact hret _ _ _ _ _ hP hS dX0_startWithEmptyPlan_93 (⟨rfl, by rw [esg3, esg2, hk, show i = 4 by omega]; rfl⟩)
    · have hc1 : ¬ (4 ≤ i) := fun q => hc1 ((nI_leI (a := 4) (b := i) (by omega) (by omega)).mpr q)
      refine lv_aload_n hx hb dX0_startWithEmptyPlan_56 rfl (lv_at hl 1 rfl) ?_
      refine gw_getr (C := RX0) (T := TX0) (N := 15) hx hb hts inwX0 hown hK hP 0 3 3 rfl rfl rfl (by decide) (hts _ a9) (fun _ h9 => h9) dX0_startWithEmptyPlan_57 ?_
      refine lv_iload_n hx hb dX0_startWithEmptyPlan_60 rfl (lv_at hl 0 rfl) ?_
      refine lv_aload_n hx hb dX0_startWithEmptyPlan_61 rfl (lv_at hl 1 rfl) ?_
      refine gw_getr (C := RX0) (T := TX0) (N := 15) hx hb hts inwX0 hown hK hP 0 0 8 rfl rfl rfl (by decide) (hts _ a6) (fun _ h9 => h9) dX0_startWithEmptyPlan_62 ?_
      refine gw_getrN (C := RX1) (T := TX1) (N := 12) hx hb hts inwX1 hown hK hP 8 8 17 rfl rfl rfl (by decide) (hE.nest _ (.fieldLinkNest RX0 66 RX1 "stock" "[I" RX2) (by decide +kernel) rfl) (fun _ h9 => h9) dX0_startWithEmptyPlan_65 ?_
      refine lv_iload_n hx hb dX0_startWithEmptyPlan_68 rfl (lv_at hl 0 rfl) ?_
      refine gw_ald hx hb hK hP 17 0 (n := 4) rfl rfl (i := i) (by omega) (by decide) dX0_startWithEmptyPlan_69 ?_
      refine gw_ast hx hb hK hP hD hS 3 0 (n := 4) rfl rfl (i := i) (by omega) (by decide) dX0_startWithEmptyPlan_70 (fun H locs hP hD hS => ?_)
      obtain ⟨sg4, esg4⟩ : ∃ z : Nat → Nat → Int32, z = gw_u sg 3 (upd (sg 3) i (sg 17 i)) := ⟨_, rfl⟩
      rw [← esg4] at hP hD
      refine lv_iinc (k := 0) (v := (nI (i + 1))) (lv' := [(1, .int (nI (i + 1))), (0, .ref (ad 0))]) hx hb dX0_startWithEmptyPlan_71 hl rfl (nI_1 _) (by decide) rfl (fun ls hl => ?_)
      refine lv_goto (tgt := 51) hx hb dX0_startWithEmptyPlan_74 (by decide) ?_
      exact ih _ (by omega) (i + 1) _ _ _ _ rfl (by omega) (by rw [esg4, hk]; exact fil_s _ _ _ _ _ (by simp [gw_u])) hP hD hS (lv_sub hl [0, 1] rfl)
  have c23 : ∀ (n9 : Nat) (i : Nat) (sg : Nat → Nat → Int32) (H : Heap) (locs : List Loc) (ls : Array Slot), 4 - i = n9 → i ≤ 4 → (sg = gw_u (FA sg0) 2 (fil ((FA sg0) 2) ((FA sg0) 9) i)) → va_P D vwCl (gw cI cJ ad sg SS) H → va_D A (gw cI cJ ad sg SS) → va_S A s.heap H locs → lv_has ls 2 [(1, .int (nI i)), (0, .ref (ad 0))] → W p l e rmf_X0_startWithEmptyPlan s m ([.ref (ad 0)] : List Value).toArray below meth c H locs 0 0 Q (F0 m 23 ls []) := by
    intro n9
    induction n9 using Nat.strongRecOn with
    | ind n9 ih =>
    intro i sg H locs ls hn h1 hk hP hD hS hl
    subst hn
    refine lv_iload_n hx hb dX0_startWithEmptyPlan_23 rfl (lv_at hl 0 rfl) ?_
    refine lv_iconst (v := (nI 4)) hx hb dX0_startWithEmptyPlan_24 (by decide) ?_
    refine lv_icmp_ge (tgt := 49) hx hb dX0_startWithEmptyPlan_25 (by decide) (fun hc5 => ?_) (fun hc5 => ?_)
    · have hc5 : 4 ≤ i := (nI_leI (a := 4) (b := i) (by omega) (by omega)).mp hc5
      refine lv_iconst (v := (nI 0)) hx hb dX0_startWithEmptyPlan_49 (by decide) ?_
      refine lv_istore_n (lv' := [(1, .int (nI 0)), (0, .ref (ad 0))]) hx hb dX0_startWithEmptyPlan_50 rfl hl (by decide) rfl (fun ls hl => ?_)
      exact c51 _ 0 _ _ _ _ rfl (by omega) (by rw [hk, show i = 4 by omega]; exact (fil_0 _ _ _).symm) hP hD hS (lv_sub hl [0, 1] rfl)
    · have hc5 : ¬ (4 ≤ i) := fun q => hc5 ((nI_leI (a := 4) (b := i) (by omega) (by omega)).mpr q)
      refine lv_aload_n hx hb dX0_startWithEmptyPlan_28 rfl (lv_at hl 1 rfl) ?_
      refine gw_getr (C := RX0) (T := TX0) (N := 15) hx hb hts inwX0 hown hK hP 0 2 2 rfl rfl rfl (by decide) (hts _ a10) (fun _ h9 => h9) dX0_startWithEmptyPlan_29 ?_
      refine lv_iload_n hx hb dX0_startWithEmptyPlan_32 rfl (lv_at hl 0 rfl) ?_
      refine lv_aload_n hx hb dX0_startWithEmptyPlan_33 rfl (lv_at hl 1 rfl) ?_
      refine gw_getr (C := RX0) (T := TX0) (N := 15) hx hb hts inwX0 hown hK hP 0 0 8 rfl rfl rfl (by decide) (hts _ a6) (fun _ h9 => h9) dX0_startWithEmptyPlan_34 ?_
      refine gw_getrN (C := RX1) (T := TX1) (N := 12) hx hb hts inwX1 hown hK hP 8 0 9 rfl rfl rfl (by decide) (hE.nest _ (.fieldLinkNest RX0 61 RX1 "logsLeft" "[I" RX2) (by decide +kernel) rfl) (fun _ h9 => h9) dX0_startWithEmptyPlan_37 ?_
      refine lv_iload_n hx hb dX0_startWithEmptyPlan_40 rfl (lv_at hl 0 rfl) ?_
      refine gw_ald hx hb hK hP 9 0 (n := 4) rfl rfl (i := i) (by omega) (by decide) dX0_startWithEmptyPlan_41 ?_
      refine gw_ast hx hb hK hP hD hS 2 0 (n := 4) rfl rfl (i := i) (by omega) (by decide) dX0_startWithEmptyPlan_42 (fun H locs hP hD hS => ?_)
      obtain ⟨sg6, esg6⟩ : ∃ z : Nat → Nat → Int32, z = gw_u sg 2 (upd (sg 2) i (sg 9 i)) := ⟨_, rfl⟩
      rw [← esg6] at hP hD
      refine lv_iinc (k := 0) (v := (nI (i + 1))) (lv' := [(1, .int (nI (i + 1))), (0, .ref (ad 0))]) hx hb dX0_startWithEmptyPlan_43 hl rfl (nI_1 _) (by decide) rfl (fun ls hl => ?_)
      refine lv_goto (tgt := 23) hx hb dX0_startWithEmptyPlan_46 (by decide) ?_
      exact ih _ (by omega) (i + 1) _ _ _ _ rfl (by omega) (by rw [esg6, hk]; exact fil_s _ _ _ _ _ (by simp [gw_u])) hP hD hS (lv_sub hl [0, 1] rfl)
  have c2 : ∀ (n9 : Nat) (i : Nat) (sg : Nat → Nat → Int32) (H : Heap) (locs : List Loc) (ls : Array Slot), 6 - i = n9 → i ≤ 6 → (sg = gw_u sg0 1 (fil (sg0 1) (fun _ => nI 0) i)) → va_P D vwCl (gw cI cJ ad sg SS) H → va_D A (gw cI cJ ad sg SS) → va_S A s.heap H locs → lv_has ls 2 [(1, .int (nI i)), (0, .ref (ad 0))] → W p l e rmf_X0_startWithEmptyPlan s m ([.ref (ad 0)] : List Value).toArray below meth c H locs 0 0 Q (F0 m 2 ls []) := by
    intro n9
    induction n9 using Nat.strongRecOn with
    | ind n9 ih =>
    intro i sg H locs ls hn h1 hk hP hD hS hl
    subst hn
    refine lv_iload_n hx hb dX0_startWithEmptyPlan_2 rfl (lv_at hl 0 rfl) ?_
    refine lv_bipush (v := (nI 6)) hx hb dX0_startWithEmptyPlan_3 (by decide) ?_
    refine lv_icmp_ge (tgt := 21) hx hb dX0_startWithEmptyPlan_5 (by decide) (fun hc7 => ?_) (fun hc7 => ?_)
    · have hc7 : 6 ≤ i := (nI_leI (a := 6) (b := i) (by omega) (by omega)).mp hc7
      refine lv_iconst (v := (nI 0)) hx hb dX0_startWithEmptyPlan_21 (by decide) ?_
      refine lv_istore_n (lv' := [(1, .int (nI 0)), (0, .ref (ad 0))]) hx hb dX0_startWithEmptyPlan_22 rfl hl (by decide) rfl (fun ls hl => ?_)
      exact c23 _ 0 _ _ _ _ rfl (by omega) (by rw [hk, show i = 6 by omega]; exact (fil_0 _ _ _).symm) hP hD hS (lv_sub hl [0, 1] rfl)
    · have hc7 : ¬ (6 ≤ i) := fun q => hc7 ((nI_leI (a := 6) (b := i) (by omega) (by omega)).mpr q)
      refine lv_aload_n hx hb dX0_startWithEmptyPlan_8 rfl (lv_at hl 1 rfl) ?_
      refine gw_getr (C := RX0) (T := TX0) (N := 15) hx hb hts inwX0 hown hK hP 0 1 1 rfl rfl rfl (by decide) (hts _ a11) (fun _ h9 => h9) dX0_startWithEmptyPlan_9 ?_
      refine lv_iload_n hx hb dX0_startWithEmptyPlan_12 rfl (lv_at hl 0 rfl) ?_
      refine lv_iconst (v := (nI 0)) hx hb dX0_startWithEmptyPlan_13 (by decide) ?_
      refine gw_ast hx hb hK hP hD hS 1 0 (n := 6) rfl rfl (i := i) (by omega) (by decide) dX0_startWithEmptyPlan_14 (fun H locs hP hD hS => ?_)
      obtain ⟨sg8, esg8⟩ : ∃ z : Nat → Nat → Int32, z = gw_u sg 1 (upd (sg 1) i (nI 0)) := ⟨_, rfl⟩
      rw [← esg8] at hP hD
      refine lv_iinc (k := 0) (v := (nI (i + 1))) (lv' := [(1, .int (nI (i + 1))), (0, .ref (ad 0))]) hx hb dX0_startWithEmptyPlan_15 hl rfl (nI_1 _) (by decide) rfl (fun ls hl => ?_)
      refine lv_goto (tgt := 2) hx hb dX0_startWithEmptyPlan_18 (by decide) ?_
      exact ih _ (by omega) (i + 1) _ _ _ _ rfl (by omega) (by rw [esg8, hk]; exact fil_s _ _ _ _ _ (by simp [gw_u])) hP hD hS (lv_sub hl [0, 1] rfl)
  refine lv_iconst (v := (nI 0)) hx hb dX0_startWithEmptyPlan_0 (by decide) ?_
  refine lv_istore_n (lv' := [(1, .int (nI 0)), (0, .ref (ad 0))]) hx hb dX0_startWithEmptyPlan_1 rfl hl (by decide) rfl (fun ls hl => ?_)
  exact c2 _ 0 _ _ _ _ rfl (by omega) ((fil_0 _ _ _).symm) hP hD hS (lv_sub hl [0, 1] rfl)
abbrev rmf_X0_takeOrders : Room := { frames := 0, cells := 0, slots := 0, locals := 0 }
set_option maxRecDepth 100000 in
set_option maxHeartbeats 4000000 in
theorem m_f_X0_takeOrders (l : Launch) (hl9 : l.stackTraces = false) (D : va_G) (cI : ClassId) (cJ : ClassId × ClassId) (ad : Nat → Nat) (sg0 : Nat → Nat → Int32) (sz : Nat) (x1 : Int32) (hI : IvG 8 9 11 sg0) : gc_M l yX0_takeOrders wsX0_takeOrders rmf_X0_takeOrders D vwCl (tyS cI cJ) cI cJ gxT gxN SS [.ref (ad 0), .int x1] ad sg0 sz 0 0 (fun v sg2 => v = none ∧ sg2 = gO sg0 x1 4) := by
  refine gc_Mv_of (cc := cX0_takeOrders) (maxL := 4) (by decide) rfl (Nat.le_of_ble_eq_true rfl) ?_
  intro p e s m below meth c A ls Q hin hE hret
  obtain ⟨⟨hx, hb, hml, hown, hts⟩, -, hlocks, -, hA, hP, hK, hD, hS, hl⟩ := hin
  have hts : ∀ w ∈ wsAll, w.before ([.ref (ad 0), .int x1] : List Value).toArray s = true := fun w h => hts w (List.mem_cons_of_mem _ h)
  have hl : lv_has ls 4 [(0, .ref (ad 0)), (1, .int x1)] := hl
  have c2 : ∀ (n9 : Nat) (i : Nat) (sg : Nat → Nat → Int32) (H : Heap) (locs : List Loc) (ls : Array Slot), 4 - i = n9 → i ≤ 4 → (sg = gO sg0 x1 i) → va_P D vwCl (gw cI cJ ad sg SS) H → va_D A (gw cI cJ ad sg SS) → va_S A s.heap H locs → lv_has ls 4 [(2, .int (nI i)), (0, .ref (ad 0)), (1, .int x1)] → W p l e rmf_X0_takeOrders s m ([.ref (ad 0), .int x1] : List Value).toArray below meth c H locs 0 0 Q (F0 m 2 ls []) := by
    intro n9
    induction n9 using Nat.strongRecOn with
    | ind n9 ih =>
    intro i sg H locs ls hn h1 hk hP hD hS hl
    subst hn
    refine lv_iload_n hx hb dX0_takeOrders_2 rfl (lv_at hl 0 rfl) ?_
    refine lv_iconst (v := (nI 4)) hx hb dX0_takeOrders_3 (by decide) ?_
    refine lv_icmp_ge (tgt := 93) hx hb dX0_takeOrders_4 (by decide) (fun hc1 => ?_) (fun hc1 => ?_)
    · have hc1 : 4 ≤ i := (nI_leI (a := 4) (b := i) (by omega) (by omega)).mp hc1
      exact hret _ _ _ _ _ hP hS dX0_takeOrders_93 (⟨rfl, by rw [hk, show i = 4 by omega]⟩)
    · have hc1 : ¬ (4 ≤ i) := fun q => hc1 ((nI_leI (a := 4) (b := i) (by omega) (by omega)).mpr q)
      refine lv_iload_n hx hb dX0_takeOrders_7 rfl (lv_at hl 0 rfl) ?_
      refine lv_iload_n hx hb dX0_takeOrders_8 rfl (lv_at hl 2 rfl) ?_
      refine lv_icmp_eq (tgt := 16) hx hb dX0_takeOrders_9 (by decide) (fun hc9 => ?_) (fun hc9 => ?_)
      · refine lv_iconst (v := (nI 0)) hx hb dX0_takeOrders_16 (by decide) ?_
        refine lv_istore_n (lv' := [(3, .int (nI 0)), (2, .int (nI i)), (0, .ref (ad 0)), (1, .int x1)]) hx hb dX0_takeOrders_17 rfl hl (by decide) rfl (fun ls hl => ?_)
        refine lv_aload_n hx hb dX0_takeOrders_18 rfl (lv_at hl 2 rfl) ?_
        refine gw_getr (C := RX0) (T := TX0) (N := 15) hx hb hts inwX0 hown hK hP 0 6 4 rfl rfl rfl (by decide) (hts _ a12) (fun _ h9 => h9) dX0_takeOrders_19 ?_
        refine lv_iload_n hx hb dX0_takeOrders_22 rfl (lv_at hl 1 rfl) ?_
        refine lv_iload_n hx hb dX0_takeOrders_23 rfl (lv_at hl 0 rfl) ?_
        refine lv_if_eq (tgt := 39) hx hb dX0_takeOrders_24 (by decide) (fun hc2 => ?_) (fun hc2 => ?_)
        · refine lv_iconst (v := (nI 0)) hx hb dX0_takeOrders_39 (by decide) ?_
          refine gw_ast hx hb hK hP hD hS 4 0 (n := 4) rfl rfl (i := i) (by omega) (by decide) dX0_takeOrders_40 (fun H locs hP hD hS => ?_)
          obtain ⟨sg3, esg3⟩ : ∃ z : Nat → Nat → Int32, z = gw_u sg 4 (upd (sg 4) i (nI 0)) := ⟨_, rfl⟩
          rw [← esg3] at hP hD
          refine lv_aload_n hx hb dX0_takeOrders_41 rfl (lv_at hl 2 rfl) ?_
          refine gw_getr (C := RX0) (T := TX0) (N := 15) hx hb hts inwX0 hown hK hP 0 7 5 rfl rfl rfl (by decide) (hts _ a13) (fun _ h9 => h9) dX0_takeOrders_42 ?_
          refine lv_iload_n hx hb dX0_takeOrders_45 rfl (lv_at hl 1 rfl) ?_
          refine lv_iload_n hx hb dX0_takeOrders_46 rfl (lv_at hl 0 rfl) ?_
          refine lv_if_eq (tgt := 62) hx hb dX0_takeOrders_47 (by decide) (fun hc4 => ?_) (fun hc4 => ?_)
          · refine lv_iconst (v := (nI 0)) hx hb dX0_takeOrders_62 (by decide) ?_
            refine gw_ast hx hb hK hP hD hS 5 0 (n := 4) rfl rfl (i := i) (by omega) (by decide) dX0_takeOrders_63 (fun H locs hP hD hS => ?_)
            obtain ⟨sg5, esg5⟩ : ∃ z : Nat → Nat → Int32, z = gw_u sg3 5 (upd (sg3 5) i (nI 0)) := ⟨_, rfl⟩
            rw [← esg5] at hP hD
            refine lv_aload_n hx hb dX0_takeOrders_64 rfl (lv_at hl 2 rfl) ?_
            refine gw_getr (C := RX0) (T := TX0) (N := 15) hx hb hts inwX0 hown hK hP 0 8 6 rfl rfl rfl (by decide) (hts _ a14) (fun _ h9 => h9) dX0_takeOrders_65 ?_
            refine lv_iload_n hx hb dX0_takeOrders_68 rfl (lv_at hl 1 rfl) ?_
            refine lv_iload_n hx hb dX0_takeOrders_69 rfl (lv_at hl 0 rfl) ?_
            refine lv_if_eq (tgt := 85) hx hb dX0_takeOrders_70 (by decide) (fun hc6 => ?_) (fun hc6 => ?_)
            · refine lv_iconst (v := (nI 0)) hx hb dX0_takeOrders_85 (by decide) ?_
              refine gw_ast hx hb hK hP hD hS 6 0 (n := 4) rfl rfl (i := i) (by omega) (by decide) dX0_takeOrders_86 (fun H locs hP hD hS => ?_)
              obtain ⟨sg7, esg7⟩ : ∃ z : Nat → Nat → Int32, z = gw_u sg5 6 (upd (sg5 6) i (nI 0)) := ⟨_, rfl⟩
              rw [← esg7] at hP hD
              refine lv_iinc (k := 1) (v := (nI (i + 1))) (lv' := [(2, .int (nI (i + 1))), (3, .int (nI 0)), (0, .ref (ad 0)), (1, .int x1)]) hx hb dX0_takeOrders_87 hl rfl (nI_1 _) (by decide) rfl (fun ls hl => ?_)
              refine lv_goto (tgt := 2) hx hb dX0_takeOrders_90 (by decide) ?_
              exact ih _ (by omega) (i + 1) _ _ _ _ rfl (by omega) (by rw [esg7, esg5, esg3, hk]; exact gO_s _ _ _ _ _ _ (by simp [oF, gO, gw_u, hc9, esg3, esg5, esg7, hk]) (by simp [oF, gO, gw_u, hc9, esg3, esg5, esg7, hk]) (by simp [oF, gO, gw_u, hc9, esg3, esg5, esg7, hk])) hP hD hS (lv_sub hl [0, 2, 3] rfl)
            · exact absurd hc6 (by decide)
          · exact absurd hc4 (by decide)
        · exact absurd hc2 (by decide)
      · refine lv_iconst (v := (nI 1)) hx hb dX0_takeOrders_12 (by decide) ?_
        refine lv_goto (tgt := 17) hx hb dX0_takeOrders_13 (by decide) ?_
        refine lv_istore_n (lv' := [(3, .int (nI 1)), (2, .int (nI i)), (0, .ref (ad 0)), (1, .int x1)]) hx hb dX0_takeOrders_17 rfl hl (by decide) rfl (fun ls hl => ?_)
        refine lv_aload_n hx hb dX0_takeOrders_18 rfl (lv_at hl 2 rfl) ?_
        refine gw_getr (C := RX0) (T := TX0) (N := 15) hx hb hts inwX0 hown hK hP 0 6 4 rfl rfl rfl (by decide) (hts _ a12) (fun _ h9 => h9) dX0_takeOrders_19 ?_
        refine lv_iload_n hx hb dX0_takeOrders_22 rfl (lv_at hl 1 rfl) ?_
        refine lv_iload_n hx hb dX0_takeOrders_23 rfl (lv_at hl 0 rfl) ?_
        refine lv_if_eq (tgt := 39) hx hb dX0_takeOrders_24 (by decide) (fun hc8 => ?_) (fun hc8 => ?_)
        · exact absurd hc8 (by decide)
        · refine lv_aload_n hx hb dX0_takeOrders_27 rfl (lv_at hl 2 rfl) ?_
          refine gw_getr (C := RX0) (T := TX0) (N := 15) hx hb hts inwX0 hown hK hP 0 0 8 rfl rfl rfl (by decide) (hts _ a6) (fun _ h9 => h9) dX0_takeOrders_28 ?_
          refine gw_getrN (C := RX1) (T := TX1) (N := 12) hx hb hts inwX1 hown hK hP 8 5 14 rfl rfl rfl (by decide) (hE.nest _ (.fieldLinkNest RX0 78 RX1 "least" "[I" RX2) (by decide +kernel) rfl) (fun _ h9 => h9) dX0_takeOrders_31 ?_
          refine lv_iload_n hx hb dX0_takeOrders_34 rfl (lv_at hl 1 rfl) ?_
          refine gw_ald hx hb hK hP 14 0 (n := 4) rfl rfl (i := i) (by omega) (by decide) dX0_takeOrders_35 ?_
          refine lv_goto (tgt := 40) hx hb dX0_takeOrders_36 (by decide) ?_
          refine gw_ast hx hb hK hP hD hS 4 0 (n := 4) rfl rfl (i := i) (by omega) (by decide) dX0_takeOrders_40 (fun H locs hP hD hS => ?_)
          obtain ⟨sg9, esg9⟩ : ∃ z : Nat → Nat → Int32, z = gw_u sg 4 (upd (sg 4) i (sg 14 i)) := ⟨_, rfl⟩
          rw [← esg9] at hP hD
          refine lv_aload_n hx hb dX0_takeOrders_41 rfl (lv_at hl 2 rfl) ?_
          refine gw_getr (C := RX0) (T := TX0) (N := 15) hx hb hts inwX0 hown hK hP 0 7 5 rfl rfl rfl (by decide) (hts _ a13) (fun _ h9 => h9) dX0_takeOrders_42 ?_
          refine lv_iload_n hx hb dX0_takeOrders_45 rfl (lv_at hl 1 rfl) ?_
          refine lv_iload_n hx hb dX0_takeOrders_46 rfl (lv_at hl 0 rfl) ?_
          refine lv_if_eq (tgt := 62) hx hb dX0_takeOrders_47 (by decide) (fun hc10 => ?_) (fun hc10 => ?_)
          · exact absurd hc10 (by decide)
          · refine lv_aload_n hx hb dX0_takeOrders_50 rfl (lv_at hl 2 rfl) ?_
            refine gw_getr (C := RX0) (T := TX0) (N := 15) hx hb hts inwX0 hown hK hP 0 0 8 rfl rfl rfl (by decide) (hts _ a6) (fun _ h9 => h9) dX0_takeOrders_51 ?_
            refine gw_getrN (C := RX1) (T := TX1) (N := 12) hx hb hts inwX1 hown hK hP 8 6 15 rfl rfl rfl (by decide) (hE.nest _ (.fieldLinkNest RX0 79 RX1 "most" "[I" RX2) (by decide +kernel) rfl) (fun _ h9 => h9) dX0_takeOrders_54 ?_
            refine lv_iload_n hx hb dX0_takeOrders_57 rfl (lv_at hl 1 rfl) ?_
            refine gw_ald hx hb hK hP 15 0 (n := 4) rfl rfl (i := i) (by omega) (by decide) dX0_takeOrders_58 ?_
            refine lv_goto (tgt := 63) hx hb dX0_takeOrders_59 (by decide) ?_
            refine gw_ast hx hb hK hP hD hS 5 0 (n := 4) rfl rfl (i := i) (by omega) (by decide) dX0_takeOrders_63 (fun H locs hP hD hS => ?_)
            obtain ⟨sg11, esg11⟩ : ∃ z : Nat → Nat → Int32, z = gw_u sg9 5 (upd (sg9 5) i (sg9 15 i)) := ⟨_, rfl⟩
            rw [← esg11] at hP hD
            refine lv_aload_n hx hb dX0_takeOrders_64 rfl (lv_at hl 2 rfl) ?_
            refine gw_getr (C := RX0) (T := TX0) (N := 15) hx hb hts inwX0 hown hK hP 0 8 6 rfl rfl rfl (by decide) (hts _ a14) (fun _ h9 => h9) dX0_takeOrders_65 ?_
            refine lv_iload_n hx hb dX0_takeOrders_68 rfl (lv_at hl 1 rfl) ?_
            refine lv_iload_n hx hb dX0_takeOrders_69 rfl (lv_at hl 0 rfl) ?_
            refine lv_if_eq (tgt := 85) hx hb dX0_takeOrders_70 (by decide) (fun hc12 => ?_) (fun hc12 => ?_)
            · exact absurd hc12 (by decide)
            · refine lv_aload_n hx hb dX0_takeOrders_73 rfl (lv_at hl 2 rfl) ?_
              refine gw_getr (C := RX0) (T := TX0) (N := 15) hx hb hts inwX0 hown hK hP 0 0 8 rfl rfl rfl (by decide) (hts _ a6) (fun _ h9 => h9) dX0_takeOrders_74 ?_
              refine gw_getrN (C := RX1) (T := TX1) (N := 12) hx hb hts inwX1 hown hK hP 8 7 16 rfl rfl rfl (by decide) (hE.nest _ (.fieldLinkNest RX0 80 RX1 "worth" "[I" RX2) (by decide +kernel) rfl) (fun _ h9 => h9) dX0_takeOrders_77 ?_
              refine lv_iload_n hx hb dX0_takeOrders_80 rfl (lv_at hl 1 rfl) ?_
              refine gw_ald hx hb hK hP 16 0 (n := 4) rfl rfl (i := i) (by omega) (by decide) dX0_takeOrders_81 ?_
              refine lv_goto (tgt := 86) hx hb dX0_takeOrders_82 (by decide) ?_
              refine gw_ast hx hb hK hP hD hS 6 0 (n := 4) rfl rfl (i := i) (by omega) (by decide) dX0_takeOrders_86 (fun H locs hP hD hS => ?_)
              obtain ⟨sg13, esg13⟩ : ∃ z : Nat → Nat → Int32, z = gw_u sg11 6 (upd (sg11 6) i (sg11 16 i)) := ⟨_, rfl⟩
              rw [← esg13] at hP hD
              refine lv_iinc (k := 1) (v := (nI (i + 1))) (lv' := [(2, .int (nI (i + 1))), (3, .int (nI 1)), (0, .ref (ad 0)), (1, .int x1)]) hx hb dX0_takeOrders_87 hl rfl (nI_1 _) (by decide) rfl (fun ls hl => ?_)
              refine lv_goto (tgt := 2) hx hb dX0_takeOrders_90 (by decide) ?_
              exact ih _ (by omega) (i + 1) _ _ _ _ rfl (by omega) (by rw [esg13, esg11, esg9, hk]; exact gO_s _ _ _ _ _ _ (by simp [oF, gO, gw_u, hc9, esg9, esg11, esg13, hk]) (by simp [oF, gO, gw_u, hc9, esg9, esg11, esg13, hk]) (by simp [oF, gO, gw_u, hc9, esg9, esg11, esg13, hk])) hP hD hS (lv_sub hl [0, 2, 3] rfl)
  refine lv_iconst (v := (nI 0)) hx hb dX0_takeOrders_0 (by decide) ?_
  refine lv_istore_n (lv' := [(2, .int (nI 0)), (0, .ref (ad 0)), (1, .int x1)]) hx hb dX0_takeOrders_1 rfl hl (by decide) rfl (fun ls hl => ?_)
  exact c2 _ 0 _ _ _ _ rfl (by omega) ((gO_0 _ _).symm) hP hD hS (lv_sub hl [0, 1, 2] rfl)
abbrev rmf_X0_minutesOfNextLog : Room := { frames := 0, cells := 0, slots := 0, locals := 0 }
set_option maxRecDepth 100000 in
set_option maxHeartbeats 4000000 in
theorem m_f_X0_minutesOfNextLog (l : Launch) (hl9 : l.stackTraces = false) (D : va_G) (cI : ClassId) (cJ : ClassId × ClassId) (ad : Nat → Nat) (sg0 : Nat → Nat → Int32) (sz : Nat) (pn : Nat) (hpn : pn < 6) (hI : IvG 8 9 11 sg0) : gc_M l yX0_minutesOfNextLog wsX0_minutesOfNextLog rmf_X0_minutesOfNextLog D vwCl (tyS cI cJ) cI cJ gxT gxN SS [.ref (ad 0), .int (nI pn)] ad sg0 sz 0 0 (fun v sg2 => sg2 = sg0 ∧ v = some (.int (nx sg0 pn))) := by
  refine gc_Mi_of (cc := cX0_minutesOfNextLog) (maxL := 3) (by decide) rfl (Nat.le_of_ble_eq_true rfl) ?_
  intro p e s m below meth c A ls Q hin hE hret
  obtain ⟨⟨hx, hb, hml, hown, hts⟩, -, hlocks, -, hA, hP, hK, hD, hS, hl⟩ := hin
  have hts : ∀ w ∈ wsAll, w.before ([.ref (ad 0), .int (nI pn)] : List Value).toArray s = true := fun w h => hts w (List.mem_cons_of_mem _ h)
  have hl : lv_has ls 3 [(0, .ref (ad 0)), (1, .int (nI pn))] := hl
  refine lv_aload_n hx hb dX0_minutesOfNextLog_0 rfl (lv_at hl 0 rfl) ?_
  refine gw_getr (C := RX0) (T := TX0) (N := 15) hx hb hts inwX0 hown hK hP 0 0 8 rfl rfl rfl (by decide) (hts _ a6) (fun _ h9 => h9) dX0_minutesOfNextLog_1 ?_
  refine gw_getrN (C := RX1) (T := TX1) (N := 12) hx hb hts inwX1 hown hK hP 8 3 12 rfl rfl rfl (by decide) (hE.nest _ (.fieldLinkNest RX0 107 RX1 "minutesALog" "[I" RX2) (by decide +kernel) rfl) (fun _ h9 => h9) dX0_minutesOfNextLog_4 ?_
  refine lv_iload_n hx hb dX0_minutesOfNextLog_7 rfl (lv_at hl 1 rfl) ?_
  refine gw_ald hx hb hK hP 12 0 (n := 6) rfl rfl (i := pn) (by omega) (by decide) dX0_minutesOfNextLog_8 ?_
  refine lv_istore_n (lv' := [(2, .int (sg0 12 pn)), (0, .ref (ad 0)), (1, .int (nI pn))]) hx hb dX0_minutesOfNextLog_9 rfl hl (by decide) rfl (fun ls hl => ?_)
  refine lv_aload_n hx hb dX0_minutesOfNextLog_10 rfl (lv_at hl 1 rfl) ?_
  refine gw_getr (C := RX0) (T := TX0) (N := 15) hx hb hts inwX0 hown hK hP 0 1 1 rfl rfl rfl (by decide) (hts _ a11) (fun _ h9 => h9) dX0_minutesOfNextLog_11 ?_
  refine lv_iload_n hx hb dX0_minutesOfNextLog_14 rfl (lv_at hl 2 rfl) ?_
  refine gw_ald hx hb hK hP 1 0 (n := 6) rfl rfl (i := pn) (by omega) (by decide) dX0_minutesOfNextLog_15 ?_
  refine lv_if_ne (tgt := 31) hx hb dX0_minutesOfNextLog_16 (by decide) (fun hc9 => ?_) (fun hc9 => ?_)
  · refine lv_iload_n hx hb dX0_minutesOfNextLog_31 rfl (lv_at hl 0 rfl) ?_
    exact hret _ _ _ _ _ _ hP hS dX0_minutesOfNextLog_32 (⟨rfl, by simp [nx, hc9]⟩)
  · refine lv_iload_n hx hb dX0_minutesOfNextLog_19 rfl (lv_at hl 0 rfl) ?_
    refine lv_aload_n hx hb dX0_minutesOfNextLog_20 rfl (lv_at hl 1 rfl) ?_
    refine gw_getr (C := RX0) (T := TX0) (N := 15) hx hb hts inwX0 hown hK hP 0 0 8 rfl rfl rfl (by decide) (hts _ a6) (fun _ h9 => h9) dX0_minutesOfNextLog_21 ?_
    refine gw_getiN (C := RX1) (T := TX1) (N := 12) hx hb hts inwX1 hown hK hP 8 11 rfl rfl rfl (by decide) (hE.nest _ (.fieldLinkNest RX0 110 RX1 "change" "I" RX2) (by decide +kernel) rfl) (fun _ h9 => h9) dX0_minutesOfNextLog_24 ?_
    refine lv_iadd hx hb dX0_minutesOfNextLog_27 ?_
    refine lv_goto (tgt := 32) hx hb dX0_minutesOfNextLog_28 (by decide) ?_
    exact hret _ _ _ _ _ _ hP hS dX0_minutesOfNextLog_32 (⟨rfl, by simp [nx, hc9]⟩)
abbrev rmf_X0_oneLogMoreFits : Room := { frames := 1, cells := 0, slots := 0, locals := 22 }
set_option maxRecDepth 100000 in
set_option maxHeartbeats 4000000 in
theorem m_f_X0_oneLogMoreFits (l : Launch) (hl9 : l.stackTraces = false) (D : va_G) (cI : ClassId) (cJ : ClassId × ClassId) (ad : Nat → Nat) (sg0 : Nat → Nat → Int32) (sz : Nat) (pn : Nat) (hpn : pn < 6) (hI : IvG 8 9 11 sg0) (cq : Nat) (hcq : cq < 4) (ecq : sg0 11 pn = nI cq) : gc_M l yX0_oneLogMoreFits wsX0_oneLogMoreFits rmf_X0_oneLogMoreFits D vwCl (tyS cI cJ) cI cJ gxT gxN SS [.ref (ad 0), .int (nI pn)] ad sg0 sz 0 0 (fun v sg2 => sg2 = sg0 ∧ ((v = some (.int (nI 1)) ∧ (0 < sg0 2 cq ∧ nx sg0 pn ≤ sg0 0 4)) ∨ (v = some (.int (nI 0)) ∧ ¬ (0 < sg0 2 cq ∧ nx sg0 pn ≤ sg0 0 4)))) := by
  refine gc_Mz_of (cc := cX0_oneLogMoreFits) (maxL := 2) (by decide) rfl (Nat.le_of_ble_eq_true rfl) ?_
  intro p e s m below meth c A ls Q hin hE hret
  obtain ⟨⟨hx, hb, hml, hown, hts⟩, -, hlocks, -, hA, hP, hK, hD, hS, hl⟩ := hin
  have hts : ∀ w ∈ wsAll, w.before ([.ref (ad 0), .int (nI pn)] : List Value).toArray s = true := fun w h => hts w (List.mem_cons_of_mem _ h)
  have hl : lv_has ls 2 [(0, .ref (ad 0)), (1, .int (nI pn))] := hl
  refine lv_aload_n hx hb dX0_oneLogMoreFits_0 rfl (lv_at hl 0 rfl) ?_
  refine gw_getr (C := RX0) (T := TX0) (N := 15) hx hb hts inwX0 hown hK hP 0 2 2 rfl rfl rfl (by decide) (hts _ a10) (fun _ h9 => h9) dX0_oneLogMoreFits_1 ?_
  refine lv_aload_n hx hb dX0_oneLogMoreFits_4 rfl (lv_at hl 0 rfl) ?_
  refine gw_getr (C := RX0) (T := TX0) (N := 15) hx hb hts inwX0 hown hK hP 0 0 8 rfl rfl rfl (by decide) (hts _ a6) (fun _ h9 => h9) dX0_oneLogMoreFits_5 ?_
  refine gw_getrN (C := RX1) (T := TX1) (N := 12) hx hb hts inwX1 hown hK hP 8 2 11 rfl rfl rfl (by decide) (hE.nest _ (.fieldLinkNest RX0 100 RX1 "classOf" "[I" RX2) (by decide +kernel) rfl) (fun _ h9 => h9) dX0_oneLogMoreFits_8 ?_
  refine lv_iload_n hx hb dX0_oneLogMoreFits_11 rfl (lv_at hl 1 rfl) ?_
  refine gw_ald hx hb hK hP 11 0 (n := 6) rfl rfl (i := pn) (by omega) (by decide) dX0_oneLogMoreFits_12 ?_
  refine gw_top (y := (nI cq)) (ecq) ?_
  refine gw_ald hx hb hK hP 2 0 (n := 4) rfl rfl (i := cq) (by omega) (by decide) dX0_oneLogMoreFits_13 ?_
  refine lv_if_le (tgt := 33) hx hb dX0_oneLogMoreFits_14 (by decide) (fun hc8 => ?_) (fun hc8 => ?_)
  · refine lv_iconst (v := (nI 0)) hx hb dX0_oneLogMoreFits_33 (by decide) ?_
    exact hret _ _ _ _ _ _ hP hS dX0_oneLogMoreFits_34 rfl (⟨rfl, Or.inr ⟨rfl, by first | exact fun q => absurd q.1 (i_nlt.mpr hc8) | exact fun q => absurd q.2 (i_nle.mpr hc9)⟩⟩)
  · refine lv_aload_n hx hb dX0_oneLogMoreFits_17 rfl (lv_at hl 0 rfl) ?_
    refine lv_iload_n hx hb dX0_oneLogMoreFits_18 rfl (lv_at hl 1 rfl) ?_
    refine gc_go0 (va_runV (As := [.int (nI pn)]) (rest := []) ⟨hx, hb, hml, hown, hts⟩ (m_f_X0_minutesOfNextLog l hl9 D cI cJ ad sg0 _ pn (by omega) hI) (cwV 1 hts (gwV a15 a16 a17 a18 a19) rfl rfl rfl (by decide +kernel) ⟨by decide, by decide⟩) (gc_preV0 hK hP hD hS hA hE rfl rfl rfl) rfl rfl hl.1 rfl (lv_room (Nat.le_of_ble_eq_true rfl)) dX0_oneLogMoreFits_19 ⟨by decide, by decide⟩) hD hS hA (fun v1 sg3 H locs hp4 hP hD hS => ?_)
    obtain ⟨hs9, rfl⟩ := hp4
    rw [hs9] at hP hD
    refine W.eq (g2 := F0 m 22 ls [.int (nx sg0 pn)]) rfl ?_
    refine lv_aload_n hx hb dX0_oneLogMoreFits_22 rfl (lv_at hl 0 rfl) ?_
    refine gw_geti (C := RX0) (T := TX0) (N := 15) hx hb hts inwX0 hown hK hP 0 4 rfl rfl rfl (by decide) (hts _ a7) (fun _ h9 => h9) dX0_oneLogMoreFits_23 ?_
    refine lv_icmp_gt (tgt := 33) hx hb dX0_oneLogMoreFits_26 (by decide) (fun hc9 => ?_) (fun hc9 => ?_)
    · refine lv_iconst (v := (nI 0)) hx hb dX0_oneLogMoreFits_33 (by decide) ?_
      exact hret _ _ _ _ _ _ hP hS dX0_oneLogMoreFits_34 rfl (⟨rfl, Or.inr ⟨rfl, by first | exact fun q => absurd q.1 (i_nlt.mpr hc8) | exact fun q => absurd q.2 (i_nle.mpr hc9)⟩⟩)
    · refine lv_iconst (v := (nI 1)) hx hb dX0_oneLogMoreFits_29 (by decide) ?_
      refine lv_goto (tgt := 34) hx hb dX0_oneLogMoreFits_30 (by decide) ?_
      exact hret _ _ _ _ _ _ hP hS dX0_oneLogMoreFits_34 rfl (⟨rfl, Or.inl ⟨rfl, i_nle.mp hc8, i_nlt.mp hc9⟩⟩)
abbrev rmf_X0_addLog : Room := { frames := 1, cells := 0, slots := 0, locals := 22 }
set_option maxRecDepth 100000 in
set_option maxHeartbeats 4000000 in
theorem m_f_X0_addLog (l : Launch) (hl9 : l.stackTraces = false) (D : va_G) (cI : ClassId) (cJ : ClassId × ClassId) (ad : Nat → Nat) (sg0 : Nat → Nat → Int32) (sz : Nat) (pn : Nat) (hpn : pn < 6) (hI : IvG 8 9 11 sg0) (cq : Nat) (hcq : cq < 4) (ecq : sg0 11 pn = nI cq) : gc_M l yX0_addLog wsX0_addLog rmf_X0_addLog D vwCl (tyS cI cJ) cI cJ gxT gxN SS [.ref (ad 0), .int (nI pn)] ad sg0 sz 0 0 (fun v sg2 => v = none ∧ sg2 = FL sg0 pn cq) := by
  refine gc_Mv_of (cc := cX0_addLog) (maxL := 4) (by decide) rfl (Nat.le_of_ble_eq_true rfl) ?_
  intro p e s m below meth c A ls Q hin hE hret
  obtain ⟨⟨hx, hb, hml, hown, hts⟩, -, hlocks, -, hA, hP, hK, hD, hS, hl⟩ := hin
  have hts : ∀ w ∈ wsAll, w.before ([.ref (ad 0), .int (nI pn)] : List Value).toArray s = true := fun w h => hts w (List.mem_cons_of_mem _ h)
  have hl : lv_has ls 4 [(0, .ref (ad 0)), (1, .int (nI pn))] := hl
  have c64 : ∀ (n9 : Nat) (i : Nat) (sg : Nat → Nat → Int32) (H : Heap) (locs : List Loc) (ls : Array Slot), 4 - i = n9 → i ≤ 4 → (sg = gw_u (FL4 sg0 pn cq) 3 (fil (FL4 sg0 pn cq 3) (fun k => FL4 sg0 pn cq 3 k + FL4 sg0 pn cq (18 + pn) k) i)) → va_P D vwCl (gw cI cJ ad sg SS) H → va_D A (gw cI cJ ad sg SS) → va_S A s.heap H locs → lv_has ls 4 [(3, .int (nI i)), (0, .ref (ad 0)), (1, .int (nI pn))] → W p l e rmf_X0_addLog s m ([.ref (ad 0), .int (nI pn)] : List Value).toArray below meth c H locs 0 0 Q (F0 m 64 ls []) := by
    intro n9
    induction n9 using Nat.strongRecOn with
    | ind n9 ih =>
    intro i sg H locs ls hn h1 hk hP hD hS hl
    subst hn
    refine lv_iload_n hx hb dX0_addLog_64 rfl (lv_at hl 0 rfl) ?_
    refine lv_iconst (v := (nI 4)) hx hb dX0_addLog_65 (by decide) ?_
    refine lv_icmp_ge (tgt := 95) hx hb dX0_addLog_66 (by decide) (fun hc1 => ?_) (fun hc1 => ?_)
    · have hc1 : 4 ≤ i := (nI_leI (a := 4) (b := i) (by omega) (by omega)).mp hc1
      exact hret _ _ _ _ _ hP hS dX0_addLog_95 (⟨rfl, by rw [hk, show i = 4 by omega]; rfl⟩)
    · have hc1 : ¬ (4 ≤ i) := fun q => hc1 ((nI_leI (a := 4) (b := i) (by omega) (by omega)).mpr q)
      refine lv_aload_n hx hb dX0_addLog_69 rfl (lv_at hl 1 rfl) ?_
      refine gw_getr (C := RX0) (T := TX0) (N := 15) hx hb hts inwX0 hown hK hP 0 3 3 rfl rfl rfl (by decide) (hts _ a9) (fun _ h9 => h9) dX0_addLog_70 ?_
      refine lv_iload_n hx hb dX0_addLog_73 rfl (lv_at hl 0 rfl) ?_
      refine lv_dup2_11 hx hb dX0_addLog_74 rfl rfl ?_
      refine gw_ald hx hb hK hP 3 0 (n := 4) rfl rfl (i := i) (by omega) (by decide) dX0_addLog_75 ?_
      refine lv_aload_n hx hb dX0_addLog_76 rfl (lv_at hl 1 rfl) ?_
      refine gw_getr (C := RX0) (T := TX0) (N := 15) hx hb hts inwX0 hown hK hP 0 0 8 rfl rfl rfl (by decide) (hts _ a6) (fun _ h9 => h9) dX0_addLog_77 ?_
      refine gw_getrN (C := RX1) (T := TX1) (N := 12) hx hb hts inwX1 hown hK hP 8 4 13 rfl rfl rfl (by decide) (hE.nest _ (.fieldLinkNest RX0 116 RX1 "boardsALog" "[[I" RX2) (by decide +kernel) rfl) (fun _ h9 => h9) dX0_addLog_80 ?_
      refine lv_iload_n hx hb dX0_addLog_83 rfl (lv_at hl 2 rfl) ?_
      refine gw_aald hx hb hK hP 13 1 (n := 6) (b := 18) rfl rfl rfl (i := pn) (by omega) (by decide) dX0_addLog_84 ?_
      refine lv_iload_n hx hb dX0_addLog_85 rfl (lv_at hl 0 rfl) ?_
      refine gw_ald hx hb hK hP (18 + pn) 0 (n := 4) (rowSS _ (by omega)) rfl (i := i) (by omega) (by decide) dX0_addLog_86 ?_
      refine lv_iadd hx hb dX0_addLog_87 ?_
      refine gw_ast hx hb hK hP hD hS 3 0 (n := 4) rfl rfl (i := i) (by omega) (by decide) dX0_addLog_88 (fun H locs hP hD hS => ?_)
      obtain ⟨sg2, esg2⟩ : ∃ z : Nat → Nat → Int32, z = gw_u sg 3 (upd (sg 3) i ((sg 3 i) + (sg (18 + pn) i))) := ⟨_, rfl⟩
      rw [← esg2] at hP hD
      refine lv_iinc (k := 0) (v := (nI (i + 1))) (lv' := [(3, .int (nI (i + 1))), (0, .ref (ad 0)), (1, .int (nI pn))]) hx hb dX0_addLog_89 hl rfl (nI_1 _) (by decide) rfl (fun ls hl => ?_)
      refine lv_goto (tgt := 64) hx hb dX0_addLog_92 (by decide) ?_
      exact ih _ (by omega) (i + 1) _ _ _ _ rfl (by omega) (by rw [esg2, hk]; exact fil_s _ _ _ _ _ (by simp [gw_u, fil, show ¬ (18 + pn = 3) by omega])) hP hD hS (lv_sub hl [0, 1, 2] rfl)
  refine lv_aload_n hx hb dX0_addLog_0 rfl (lv_at hl 0 rfl) ?_
  refine gw_getr (C := RX0) (T := TX0) (N := 15) hx hb hts inwX0 hown hK hP 0 0 8 rfl rfl rfl (by decide) (hts _ a6) (fun _ h9 => h9) dX0_addLog_1 ?_
  refine gw_getrN (C := RX1) (T := TX1) (N := 12) hx hb hts inwX1 hown hK hP 8 2 11 rfl rfl rfl (by decide) (hE.nest _ (.fieldLinkNest RX0 100 RX1 "classOf" "[I" RX2) (by decide +kernel) rfl) (fun _ h9 => h9) dX0_addLog_4 ?_
  refine lv_iload_n hx hb dX0_addLog_7 rfl (lv_at hl 1 rfl) ?_
  refine gw_ald hx hb hK hP 11 0 (n := 6) rfl rfl (i := pn) (by omega) (by decide) dX0_addLog_8 ?_
  refine gw_top (y := (nI cq)) (ecq) ?_
  refine lv_istore_n (lv' := [(2, .int (nI cq)), (0, .ref (ad 0)), (1, .int (nI pn))]) hx hb dX0_addLog_9 rfl hl (by decide) rfl (fun ls hl => ?_)
  refine lv_aload_n hx hb dX0_addLog_10 rfl (lv_at hl 1 rfl) ?_
  refine lv_dup hx hb dX0_addLog_11 rfl ?_
  refine gw_geti (C := RX0) (T := TX0) (N := 15) hx hb hts inwX0 hown hK hP 0 4 rfl rfl rfl (by decide) (hts _ a7) (fun _ h9 => h9) dX0_addLog_12 ?_
  refine lv_aload_n hx hb dX0_addLog_15 rfl (lv_at hl 1 rfl) ?_
  refine lv_iload_n hx hb dX0_addLog_16 rfl (lv_at hl 2 rfl) ?_
  refine gc_go0 (va_runV (As := [.int (nI pn)]) (rest := [.int (sg0 0 4), .ref (ad 0)]) ⟨hx, hb, hml, hown, hts⟩ (m_f_X0_minutesOfNextLog l hl9 D cI cJ ad sg0 _ pn (by omega) hI) (cwV 1 hts (gwV a15 a16 a17 a18 a19) rfl rfl rfl (by decide +kernel) ⟨by decide, by decide⟩) (gc_preV0 hK hP hD hS hA hE rfl rfl rfl) rfl rfl hl.1 rfl (lv_room (Nat.le_of_ble_eq_true rfl)) dX0_addLog_17 ⟨by decide, by decide⟩) hD hS hA (fun v3 sg5 H locs hp6 hP hD hS => ?_)
  obtain ⟨hs9, rfl⟩ := hp6
  rw [hs9] at hP hD
  refine W.eq (g2 := F0 m 20 ls [.int (nx sg0 pn), .int (sg0 0 4), .ref (ad 0)]) rfl ?_
  refine lv_isub hx hb dX0_addLog_20 ?_
  refine gw_put (C := RX0) (T := TX0) (N := 15) (ty := .int) hx hb hts inwX0 tyX0 tyX0_ok nmX0 hown hK hP hD hS 0 4 rfl rfl rfl (by decide) (hts _ a7) (fun _ h9 => h9) rfl (by decide +kernel) rfl rfl dX0_addLog_21 (fun H locs hP hD hS => ?_)
  obtain ⟨sg9, esg9⟩ : ∃ z : Nat → Nat → Int32, z = gw_u sg0 0 (upd (sg0 0) 4 ((sg0 0 4) - (nx sg0 pn))) := ⟨_, rfl⟩
  rw [← esg9] at hP hD
  refine lv_aload_n hx hb dX0_addLog_24 rfl (lv_at hl 1 rfl) ?_
  refine gw_getr (C := RX0) (T := TX0) (N := 15) hx hb hts inwX0 hown hK hP 0 2 2 rfl rfl rfl (by decide) (hts _ a10) (fun _ h9 => h9) dX0_addLog_25 ?_
  refine lv_iload_n hx hb dX0_addLog_28 rfl (lv_at hl 0 rfl) ?_
  refine lv_dup2_11 hx hb dX0_addLog_29 rfl rfl ?_
  refine gw_ald hx hb hK hP 2 0 (n := 4) rfl rfl (i := cq) (by omega) (by decide) dX0_addLog_30 ?_
  refine lv_iconst (v := (nI 1)) hx hb dX0_addLog_31 (by decide) ?_
  refine lv_isub hx hb dX0_addLog_32 ?_
  refine gw_ast hx hb hK hP hD hS 2 0 (n := 4) rfl rfl (i := cq) (by omega) (by decide) dX0_addLog_33 (fun H locs hP hD hS => ?_)
  obtain ⟨sg10, esg10⟩ : ∃ z : Nat → Nat → Int32, z = gw_u sg9 2 (upd (sg9 2) cq ((sg9 2 cq) - (nI 1))) := ⟨_, rfl⟩
  rw [← esg10] at hP hD
  refine lv_aload_n hx hb dX0_addLog_34 rfl (lv_at hl 1 rfl) ?_
  refine lv_dup hx hb dX0_addLog_35 rfl ?_
  refine gw_geti (C := RX0) (T := TX0) (N := 15) hx hb hts inwX0 hown hK hP 0 5 rfl rfl rfl (by decide) (hts _ a8) (fun _ h9 => h9) dX0_addLog_36 ?_
  refine lv_aload_n hx hb dX0_addLog_39 rfl (lv_at hl 1 rfl) ?_
  refine gw_getr (C := RX0) (T := TX0) (N := 15) hx hb hts inwX0 hown hK hP 0 0 8 rfl rfl rfl (by decide) (hts _ a6) (fun _ h9 => h9) dX0_addLog_40 ?_
  refine gw_getrN (C := RX1) (T := TX1) (N := 12) hx hb hts inwX1 hown hK hP 8 1 10 rfl rfl rfl (by decide) (hE.nest _ (.fieldLinkNest RX0 113 RX1 "centsALog" "[I" RX2) (by decide +kernel) rfl) (fun _ h9 => h9) dX0_addLog_43 ?_
  refine lv_iload_n hx hb dX0_addLog_46 rfl (lv_at hl 0 rfl) ?_
  refine gw_ald hx hb hK hP 10 0 (n := 4) rfl rfl (i := cq) (by omega) (by decide) dX0_addLog_47 ?_
  refine lv_iadd hx hb dX0_addLog_48 ?_
  refine gw_put (C := RX0) (T := TX0) (N := 15) (ty := .int) hx hb hts inwX0 tyX0 tyX0_ok nmX0 hown hK hP hD hS 0 5 rfl rfl rfl (by decide) (hts _ a8) (fun _ h9 => h9) rfl (by decide +kernel) rfl rfl dX0_addLog_49 (fun H locs hP hD hS => ?_)
  obtain ⟨sg11, esg11⟩ : ∃ z : Nat → Nat → Int32, z = gw_u sg10 0 (upd (sg10 0) 5 ((sg10 0 5) + (sg10 10 cq))) := ⟨_, rfl⟩
  rw [← esg11] at hP hD
  refine lv_aload_n hx hb dX0_addLog_52 rfl (lv_at hl 1 rfl) ?_
  refine gw_getr (C := RX0) (T := TX0) (N := 15) hx hb hts inwX0 hown hK hP 0 1 1 rfl rfl rfl (by decide) (hts _ a11) (fun _ h9 => h9) dX0_addLog_53 ?_
  refine lv_iload_n hx hb dX0_addLog_56 rfl (lv_at hl 2 rfl) ?_
  refine lv_dup2_11 hx hb dX0_addLog_57 rfl rfl ?_
  refine gw_ald hx hb hK hP 1 0 (n := 6) rfl rfl (i := pn) (by omega) (by decide) dX0_addLog_58 ?_
  refine lv_iconst (v := (nI 1)) hx hb dX0_addLog_59 (by decide) ?_
  refine lv_iadd hx hb dX0_addLog_60 ?_
  refine gw_ast hx hb hK hP hD hS 1 0 (n := 6) rfl rfl (i := pn) (by omega) (by decide) dX0_addLog_61 (fun H locs hP hD hS => ?_)
  obtain ⟨sg12, esg12⟩ : ∃ z : Nat → Nat → Int32, z = gw_u sg11 1 (upd (sg11 1) pn ((sg11 1 pn) + (nI 1))) := ⟨_, rfl⟩
  rw [← esg12] at hP hD
  refine lv_iconst (v := (nI 0)) hx hb dX0_addLog_62 (by decide) ?_
  refine lv_istore_n (lv' := [(3, .int (nI 0)), (2, .int (nI cq)), (0, .ref (ad 0)), (1, .int (nI pn))]) hx hb dX0_addLog_63 rfl hl (by decide) rfl (fun ls hl => ?_)
  exact c64 _ 0 _ _ _ _ rfl (by omega) (by rw [esg12, esg11, esg10, esg9]; exact (fil_0 _ _ _).symm) hP hD hS (lv_sub hl [0, 2, 3] rfl)
abbrev rmf_X0_takeLogsBack : Room := { frames := 0, cells := 0, slots := 0, locals := 0 }
set_option maxRecDepth 100000 in
set_option maxHeartbeats 4000000 in
theorem m_f_X0_takeLogsBack (l : Launch) (hl9 : l.stackTraces = false) (D : va_G) (cI : ClassId) (cJ : ClassId × ClassId) (ad : Nat → Nat) (sg0 : Nat → Nat → Int32) (sz : Nat) (pn : Nat) (hpn : pn < 6) (hI : IvG 8 9 11 sg0) (cq : Nat) (hcq : cq < 4) (ecq : sg0 11 pn = nI cq) : gc_M l yX0_takeLogsBack wsX0_takeLogsBack rmf_X0_takeLogsBack D vwCl (tyS cI cJ) cI cJ gxT gxN SS [.ref (ad 0), .int (nI pn)] ad sg0 sz 0 0 (fun v sg2 => v = none ∧ sg2 = if sg0 1 pn = 0 then sg0 else FT sg0 pn cq) := by
  refine gc_Mv_of (cc := cX0_takeLogsBack) (maxL := 5) (by decide) rfl (Nat.le_of_ble_eq_true rfl) ?_
  intro p e s m below meth c A ls Q hin hE hret
  obtain ⟨⟨hx, hb, hml, hown, hts⟩, -, hlocks, -, hA, hP, hK, hD, hS, hl⟩ := hin
  have hts : ∀ w ∈ wsAll, w.before ([.ref (ad 0), .int (nI pn)] : List Value).toArray s = true := fun w h => hts w (List.mem_cons_of_mem _ h)
  have hl : lv_has ls 5 [(0, .ref (ad 0)), (1, .int (nI pn))] := hl
  have c90 : ∀ (n9 : Nat) (i : Nat) (sg : Nat → Nat → Int32) (H : Heap) (locs : List Loc) (ls : Array Slot), 4 - i = n9 → i ≤ 4 → ¬ sg0 1 pn = 0 → (sg = gw_u (FT4 sg0 pn cq) 3 (fil (FT4 sg0 pn cq 3) (fun k => FT4 sg0 pn cq 3 k - sg0 1 pn * FT4 sg0 pn cq (18 + pn) k) i)) → va_P D vwCl (gw cI cJ ad sg SS) H → va_D A (gw cI cJ ad sg SS) → va_S A s.heap H locs → lv_has ls 5 [(4, .int (nI i)), (0, .ref (ad 0)), (1, .int (nI pn)), (2, .int (sg0 1 pn))] → W p l e rmf_X0_takeLogsBack s m ([.ref (ad 0), .int (nI pn)] : List Value).toArray below meth c H locs 0 0 Q (F0 m 90 ls []) := by
    intro n9
    induction n9 using Nat.strongRecOn with
    | ind n9 ih =>
    intro i sg H locs ls hn h1 h2 hk hP hD hS hl
    subst hn
    have hc9 := h2
    refine lv_iload hx hb dX0_takeLogsBack_90 (lv_at hl 0 rfl) ?_
    refine lv_iconst (v := (nI 4)) hx hb dX0_takeLogsBack_92 (by decide) ?_
    refine lv_icmp_ge (tgt := 126) hx hb dX0_takeLogsBack_93 (by decide) (fun hc1 => ?_) (fun hc1 => ?_)
    · have hc1 : 4 ≤ i := (nI_leI (a := 4) (b := i) (by omega) (by omega)).mp hc1
      exact hret _ _ _ _ _ hP hS dX0_takeLogsBack_126 (⟨rfl, by rw [if_neg hc9, hk, show i = 4 by omega]; rfl⟩)
    · have hc1 : ¬ (4 ≤ i) := fun q => hc1 ((nI_leI (a := 4) (b := i) (by omega) (by omega)).mpr q)
      refine lv_aload_n hx hb dX0_takeLogsBack_96 rfl (lv_at hl 1 rfl) ?_
      refine gw_getr (C := RX0) (T := TX0) (N := 15) hx hb hts inwX0 hown hK hP 0 3 3 rfl rfl rfl (by decide) (hts _ a9) (fun _ h9 => h9) dX0_takeLogsBack_97 ?_
      refine lv_iload hx hb dX0_takeLogsBack_100 (lv_at hl 0 rfl) ?_
      refine lv_dup2_11 hx hb dX0_takeLogsBack_102 rfl rfl ?_
      refine gw_ald hx hb hK hP 3 0 (n := 4) rfl rfl (i := i) (by omega) (by decide) dX0_takeLogsBack_103 ?_
      refine lv_iload_n hx hb dX0_takeLogsBack_104 rfl (lv_at hl 3 rfl) ?_
      refine lv_aload_n hx hb dX0_takeLogsBack_105 rfl (lv_at hl 1 rfl) ?_
      refine gw_getr (C := RX0) (T := TX0) (N := 15) hx hb hts inwX0 hown hK hP 0 0 8 rfl rfl rfl (by decide) (hts _ a6) (fun _ h9 => h9) dX0_takeLogsBack_106 ?_
      refine gw_getrN (C := RX1) (T := TX1) (N := 12) hx hb hts inwX1 hown hK hP 8 4 13 rfl rfl rfl (by decide) (hE.nest _ (.fieldLinkNest RX0 116 RX1 "boardsALog" "[[I" RX2) (by decide +kernel) rfl) (fun _ h9 => h9) dX0_takeLogsBack_109 ?_
      refine lv_iload_n hx hb dX0_takeLogsBack_112 rfl (lv_at hl 2 rfl) ?_
      refine gw_aald hx hb hK hP 13 1 (n := 6) (b := 18) rfl rfl rfl (i := pn) (by omega) (by decide) dX0_takeLogsBack_113 ?_
      refine lv_iload hx hb dX0_takeLogsBack_114 (lv_at hl 0 rfl) ?_
      refine gw_ald hx hb hK hP (18 + pn) 0 (n := 4) (rowSS _ (by omega)) rfl (i := i) (by omega) (by decide) dX0_takeLogsBack_116 ?_
      refine lv_imul hx hb dX0_takeLogsBack_117 ?_
      refine lv_isub hx hb dX0_takeLogsBack_118 ?_
      refine gw_ast hx hb hK hP hD hS 3 0 (n := 4) rfl rfl (i := i) (by omega) (by decide) dX0_takeLogsBack_119 (fun H locs hP hD hS => ?_)
      obtain ⟨sg2, esg2⟩ : ∃ z : Nat → Nat → Int32, z = gw_u sg 3 (upd (sg 3) i ((sg 3 i) - ((sg0 1 pn) * (sg (18 + pn) i)))) := ⟨_, rfl⟩
      rw [← esg2] at hP hD
      refine lv_iinc (k := 0) (v := (nI (i + 1))) (lv' := [(4, .int (nI (i + 1))), (0, .ref (ad 0)), (1, .int (nI pn)), (2, .int (sg0 1 pn))]) hx hb dX0_takeLogsBack_120 hl rfl (nI_1 _) (by decide) rfl (fun ls hl => ?_)
      refine lv_goto (tgt := 90) hx hb dX0_takeLogsBack_123 (by decide) ?_
      exact ih _ (by omega) (i + 1) _ _ _ _ rfl (by omega) hc9 (by rw [esg2, hk]; exact fil_s _ _ _ _ _ (by simp [gw_u, fil, show ¬ (18 + pn = 3) by omega])) hP hD hS (lv_sub hl [0, 1, 2, 3] rfl)
  refine lv_aload_n hx hb dX0_takeLogsBack_0 rfl (lv_at hl 0 rfl) ?_
  refine gw_getr (C := RX0) (T := TX0) (N := 15) hx hb hts inwX0 hown hK hP 0 1 1 rfl rfl rfl (by decide) (hts _ a11) (fun _ h9 => h9) dX0_takeLogsBack_1 ?_
  refine lv_iload_n hx hb dX0_takeLogsBack_4 rfl (lv_at hl 1 rfl) ?_
  refine gw_ald hx hb hK hP 1 0 (n := 6) rfl rfl (i := pn) (by omega) (by decide) dX0_takeLogsBack_5 ?_
  refine lv_istore_n (lv' := [(2, .int (sg0 1 pn)), (0, .ref (ad 0)), (1, .int (nI pn))]) hx hb dX0_takeLogsBack_6 rfl hl (by decide) rfl (fun ls hl => ?_)
  refine lv_iload_n hx hb dX0_takeLogsBack_7 rfl (lv_at hl 0 rfl) ?_
  refine lv_if_ne (tgt := 12) hx hb dX0_takeLogsBack_8 (by decide) (fun hc9 => ?_) (fun hc9 => ?_)
  · refine lv_aload_n hx hb dX0_takeLogsBack_12 rfl (lv_at hl 1 rfl) ?_
    refine gw_getr (C := RX0) (T := TX0) (N := 15) hx hb hts inwX0 hown hK hP 0 0 8 rfl rfl rfl (by decide) (hts _ a6) (fun _ h9 => h9) dX0_takeLogsBack_13 ?_
    refine gw_getrN (C := RX1) (T := TX1) (N := 12) hx hb hts inwX1 hown hK hP 8 2 11 rfl rfl rfl (by decide) (hE.nest _ (.fieldLinkNest RX0 100 RX1 "classOf" "[I" RX2) (by decide +kernel) rfl) (fun _ h9 => h9) dX0_takeLogsBack_16 ?_
    refine lv_iload_n hx hb dX0_takeLogsBack_19 rfl (lv_at hl 2 rfl) ?_
    refine gw_ald hx hb hK hP 11 0 (n := 6) rfl rfl (i := pn) (by omega) (by decide) dX0_takeLogsBack_20 ?_
    refine gw_top (y := (nI cq)) (ecq) ?_
    refine lv_istore_n (lv' := [(3, .int (nI cq)), (2, .int (sg0 1 pn)), (0, .ref (ad 0)), (1, .int (nI pn))]) hx hb dX0_takeLogsBack_21 rfl hl (by decide) rfl (fun ls hl => ?_)
    refine lv_aload_n hx hb dX0_takeLogsBack_22 rfl (lv_at hl 2 rfl) ?_
    refine lv_dup hx hb dX0_takeLogsBack_23 rfl ?_
    refine gw_geti (C := RX0) (T := TX0) (N := 15) hx hb hts inwX0 hown hK hP 0 4 rfl rfl rfl (by decide) (hts _ a7) (fun _ h9 => h9) dX0_takeLogsBack_24 ?_
    refine lv_iload_n hx hb dX0_takeLogsBack_27 rfl (lv_at hl 1 rfl) ?_
    refine lv_aload_n hx hb dX0_takeLogsBack_28 rfl (lv_at hl 2 rfl) ?_
    refine gw_getr (C := RX0) (T := TX0) (N := 15) hx hb hts inwX0 hown hK hP 0 0 8 rfl rfl rfl (by decide) (hts _ a6) (fun _ h9 => h9) dX0_takeLogsBack_29 ?_
    refine gw_getrN (C := RX1) (T := TX1) (N := 12) hx hb hts inwX1 hown hK hP 8 3 12 rfl rfl rfl (by decide) (hE.nest _ (.fieldLinkNest RX0 107 RX1 "minutesALog" "[I" RX2) (by decide +kernel) rfl) (fun _ h9 => h9) dX0_takeLogsBack_32 ?_
    refine lv_iload_n hx hb dX0_takeLogsBack_35 rfl (lv_at hl 3 rfl) ?_
    refine gw_ald hx hb hK hP 12 0 (n := 6) rfl rfl (i := pn) (by omega) (by decide) dX0_takeLogsBack_36 ?_
    refine lv_imul hx hb dX0_takeLogsBack_37 ?_
    refine lv_aload_n hx hb dX0_takeLogsBack_38 rfl (lv_at hl 2 rfl) ?_
    refine gw_getr (C := RX0) (T := TX0) (N := 15) hx hb hts inwX0 hown hK hP 0 0 8 rfl rfl rfl (by decide) (hts _ a6) (fun _ h9 => h9) dX0_takeLogsBack_39 ?_
    refine gw_getiN (C := RX1) (T := TX1) (N := 12) hx hb hts inwX1 hown hK hP 8 11 rfl rfl rfl (by decide) (hE.nest _ (.fieldLinkNest RX0 110 RX1 "change" "I" RX2) (by decide +kernel) rfl) (fun _ h9 => h9) dX0_takeLogsBack_42 ?_
    refine lv_iadd hx hb dX0_takeLogsBack_45 ?_
    refine lv_iadd hx hb dX0_takeLogsBack_46 ?_
    refine gw_put (C := RX0) (T := TX0) (N := 15) (ty := .int) hx hb hts inwX0 tyX0 tyX0_ok nmX0 hown hK hP hD hS 0 4 rfl rfl rfl (by decide) (hts _ a7) (fun _ h9 => h9) rfl (by decide +kernel) rfl rfl dX0_takeLogsBack_47 (fun H locs hP hD hS => ?_)
    obtain ⟨sg3, esg3⟩ : ∃ z : Nat → Nat → Int32, z = gw_u sg0 0 (upd (sg0 0) 4 ((sg0 0 4) + (((sg0 1 pn) * (sg0 12 pn)) + (sg0 8 11)))) := ⟨_, rfl⟩
    rw [← esg3] at hP hD
    refine lv_aload_n hx hb dX0_takeLogsBack_50 rfl (lv_at hl 2 rfl) ?_
    refine gw_getr (C := RX0) (T := TX0) (N := 15) hx hb hts inwX0 hown hK hP 0 2 2 rfl rfl rfl (by decide) (hts _ a10) (fun _ h9 => h9) dX0_takeLogsBack_51 ?_
    refine lv_iload_n hx hb dX0_takeLogsBack_54 rfl (lv_at hl 0 rfl) ?_
    refine lv_dup2_11 hx hb dX0_takeLogsBack_55 rfl rfl ?_
    refine gw_ald hx hb hK hP 2 0 (n := 4) rfl rfl (i := cq) (by omega) (by decide) dX0_takeLogsBack_56 ?_
    refine lv_iload_n hx hb dX0_takeLogsBack_57 rfl (lv_at hl 1 rfl) ?_
    refine lv_iadd hx hb dX0_takeLogsBack_58 ?_
    refine gw_ast hx hb hK hP hD hS 2 0 (n := 4) rfl rfl (i := cq) (by omega) (by decide) dX0_takeLogsBack_59 (fun H locs hP hD hS => ?_)
    obtain ⟨sg4, esg4⟩ : ∃ z : Nat → Nat → Int32, z = gw_u sg3 2 (upd (sg3 2) cq ((sg3 2 cq) + (sg0 1 pn))) := ⟨_, rfl⟩
    rw [← esg4] at hP hD
    refine lv_aload_n hx hb dX0_takeLogsBack_60 rfl (lv_at hl 2 rfl) ?_
    refine lv_dup hx hb dX0_takeLogsBack_61 rfl ?_
    refine gw_geti (C := RX0) (T := TX0) (N := 15) hx hb hts inwX0 hown hK hP 0 5 rfl rfl rfl (by decide) (hts _ a8) (fun _ h9 => h9) dX0_takeLogsBack_62 ?_
    refine lv_iload_n hx hb dX0_takeLogsBack_65 rfl (lv_at hl 1 rfl) ?_
    refine lv_aload_n hx hb dX0_takeLogsBack_66 rfl (lv_at hl 2 rfl) ?_
    refine gw_getr (C := RX0) (T := TX0) (N := 15) hx hb hts inwX0 hown hK hP 0 0 8 rfl rfl rfl (by decide) (hts _ a6) (fun _ h9 => h9) dX0_takeLogsBack_67 ?_
    refine gw_getrN (C := RX1) (T := TX1) (N := 12) hx hb hts inwX1 hown hK hP 8 1 10 rfl rfl rfl (by decide) (hE.nest _ (.fieldLinkNest RX0 113 RX1 "centsALog" "[I" RX2) (by decide +kernel) rfl) (fun _ h9 => h9) dX0_takeLogsBack_70 ?_
    refine lv_iload_n hx hb dX0_takeLogsBack_73 rfl (lv_at hl 0 rfl) ?_
    refine gw_ald hx hb hK hP 10 0 (n := 4) rfl rfl (i := cq) (by omega) (by decide) dX0_takeLogsBack_74 ?_
    refine lv_imul hx hb dX0_takeLogsBack_75 ?_
    refine lv_isub hx hb dX0_takeLogsBack_76 ?_
    refine gw_put (C := RX0) (T := TX0) (N := 15) (ty := .int) hx hb hts inwX0 tyX0 tyX0_ok nmX0 hown hK hP hD hS 0 5 rfl rfl rfl (by decide) (hts _ a8) (fun _ h9 => h9) rfl (by decide +kernel) rfl rfl dX0_takeLogsBack_77 (fun H locs hP hD hS => ?_)
    obtain ⟨sg5, esg5⟩ : ∃ z : Nat → Nat → Int32, z = gw_u sg4 0 (upd (sg4 0) 5 ((sg4 0 5) - ((sg0 1 pn) * (sg4 10 cq)))) := ⟨_, rfl⟩
    rw [← esg5] at hP hD
    refine lv_aload_n hx hb dX0_takeLogsBack_80 rfl (lv_at hl 2 rfl) ?_
    refine gw_getr (C := RX0) (T := TX0) (N := 15) hx hb hts inwX0 hown hK hP 0 1 1 rfl rfl rfl (by decide) (hts _ a11) (fun _ h9 => h9) dX0_takeLogsBack_81 ?_
    refine lv_iload_n hx hb dX0_takeLogsBack_84 rfl (lv_at hl 3 rfl) ?_
    refine lv_iconst (v := (nI 0)) hx hb dX0_takeLogsBack_85 (by decide) ?_
    refine gw_ast hx hb hK hP hD hS 1 0 (n := 6) rfl rfl (i := pn) (by omega) (by decide) dX0_takeLogsBack_86 (fun H locs hP hD hS => ?_)
    obtain ⟨sg6, esg6⟩ : ∃ z : Nat → Nat → Int32, z = gw_u sg5 1 (upd (sg5 1) pn (nI 0)) := ⟨_, rfl⟩
    rw [← esg6] at hP hD
    refine lv_iconst (v := (nI 0)) hx hb dX0_takeLogsBack_87 (by decide) ?_
    refine lv_istore (lv' := [(4, .int (nI 0)), (3, .int (nI cq)), (2, .int (sg0 1 pn)), (0, .ref (ad 0)), (1, .int (nI pn))]) hx hb dX0_takeLogsBack_88 hl (by decide) rfl (fun ls hl => ?_)
    exact c90 _ 0 _ _ _ _ rfl (by omega) hc9 (by rw [esg6, esg5, esg4, esg3]; exact (fil_0 _ _ _).symm) hP hD hS (lv_sub hl [0, 3, 4, 2] rfl)
  · exact hret _ _ _ _ _ hP hS dX0_takeLogsBack_11 (⟨rfl, by rw [if_pos hc9]⟩)
abbrev rmf_X0_fillsOrders : Room := { frames := 0, cells := 0, slots := 0, locals := 0 }
set_option maxRecDepth 100000 in
set_option maxHeartbeats 4000000 in
theorem m_f_X0_fillsOrders (l : Launch) (hl9 : l.stackTraces = false) (D : va_G) (cI : ClassId) (cJ : ClassId × ClassId) (ad : Nat → Nat) (sg0 : Nat → Nat → Int32) (sz : Nat) (hI : IvG 8 9 11 sg0) : gc_M l yX0_fillsOrders wsX0_fillsOrders rmf_X0_fillsOrders D vwCl (tyS cI cJ) cI cJ gxT gxN SS [.ref (ad 0)] ad sg0 sz 0 0 (fun v sg2 => sg2 = sg0 ∧ ((v = some (.int (nI 1)) ∧ fillsP sg0) ∨ (v = some (.int (nI 0)) ∧ ¬ fillsP sg0))) := by
  refine gc_Mz_of (cc := cX0_fillsOrders) (maxL := 2) (by decide) rfl (Nat.le_of_ble_eq_true rfl) ?_
  intro p e s m below meth c A ls Q hin hE hret
  obtain ⟨⟨hx, hb, hml, hown, hts⟩, -, hlocks, -, hA, hP, hK, hD, hS, hl⟩ := hin
  have hts : ∀ w ∈ wsAll, w.before ([.ref (ad 0)] : List Value).toArray s = true := fun w h => hts w (List.mem_cons_of_mem _ h)
  have hl : lv_has ls 2 [(0, .ref (ad 0))] := hl
  have c2 : ∀ (n9 : Nat) (i : Nat) (sg : Nat → Nat → Int32) (H : Heap) (locs : List Loc) (ls : Array Slot), 4 - i = n9 → i ≤ 4 → (sg = sg0 ∧ ∀ k : Nat, k < i → ¬ sg0 3 k < sg0 4 k) → va_P D vwCl (gw cI cJ ad sg SS) H → va_D A (gw cI cJ ad sg SS) → va_S A s.heap H locs → lv_has ls 2 [(1, .int (nI i)), (0, .ref (ad 0))] → W p l e rmf_X0_fillsOrders s m ([.ref (ad 0)] : List Value).toArray below meth c H locs 0 0 Q (F0 m 2 ls []) := by
    intro n9
    induction n9 using Nat.strongRecOn with
    | ind n9 ih =>
    intro i sg H locs ls hn h1 hk hP hD hS hl
    subst hn
    refine lv_iload_n hx hb dX0_fillsOrders_2 rfl (lv_at hl 0 rfl) ?_
    refine lv_iconst (v := (nI 4)) hx hb dX0_fillsOrders_3 (by decide) ?_
    refine lv_icmp_ge (tgt := 30) hx hb dX0_fillsOrders_4 (by decide) (fun hc1 => ?_) (fun hc1 => ?_)
    · have hc1 : 4 ≤ i := (nI_leI (a := 4) (b := i) (by omega) (by omega)).mp hc1
      refine lv_iconst (v := (nI 1)) hx hb dX0_fillsOrders_30 (by decide) ?_
      exact hret _ _ _ _ _ _ hP hS dX0_fillsOrders_31 rfl (⟨hk.1, Or.inl ⟨rfl, fun k9 h9 => hk.2 k9 (by omega)⟩⟩)
    · have hc1 : ¬ (4 ≤ i) := fun q => hc1 ((nI_leI (a := 4) (b := i) (by omega) (by omega)).mpr q)
      refine lv_aload_n hx hb dX0_fillsOrders_7 rfl (lv_at hl 1 rfl) ?_
      refine gw_getr (C := RX0) (T := TX0) (N := 15) hx hb hts inwX0 hown hK hP 0 3 3 rfl rfl rfl (by decide) (hts _ a9) (fun _ h9 => h9) dX0_fillsOrders_8 ?_
      refine lv_iload_n hx hb dX0_fillsOrders_11 rfl (lv_at hl 0 rfl) ?_
      refine gw_ald hx hb hK hP 3 0 (n := 4) rfl rfl (i := i) (by omega) (by decide) dX0_fillsOrders_12 ?_
      refine lv_aload_n hx hb dX0_fillsOrders_13 rfl (lv_at hl 1 rfl) ?_
      refine gw_getr (C := RX0) (T := TX0) (N := 15) hx hb hts inwX0 hown hK hP 0 6 4 rfl rfl rfl (by decide) (hts _ a12) (fun _ h9 => h9) dX0_fillsOrders_14 ?_
      refine lv_iload_n hx hb dX0_fillsOrders_17 rfl (lv_at hl 0 rfl) ?_
      refine gw_ald hx hb hK hP 4 0 (n := 4) rfl rfl (i := i) (by omega) (by decide) dX0_fillsOrders_18 ?_
      refine lv_icmp_ge (tgt := 24) hx hb dX0_fillsOrders_19 (by decide) (fun hc9 => ?_) (fun hc9 => ?_)
      · refine lv_iinc (k := 0) (v := (nI (i + 1))) (lv' := [(1, .int (nI (i + 1))), (0, .ref (ad 0))]) hx hb dX0_fillsOrders_24 hl rfl (nI_1 _) (by decide) rfl (fun ls hl => ?_)
        refine lv_goto (tgt := 2) hx hb dX0_fillsOrders_27 (by decide) ?_
        exact ih _ (by omega) (i + 1) _ _ _ _ rfl (by omega) (⟨hk.1, fun k9 h9 => if q9 : k9 = i then (by subst q9; rw [← hk.1]; exact i_nlt.mpr hc9) else hk.2 k9 (by omega)⟩) hP hD hS (lv_sub hl [0, 1] rfl)
      · refine lv_iconst (v := (nI 0)) hx hb dX0_fillsOrders_22 (by decide) ?_
        exact hret _ _ _ _ _ _ hP hS dX0_fillsOrders_23 rfl (⟨hk.1, Or.inr ⟨rfl, fun q9 => q9 i (by omega) (by rw [← hk.1]; exact i_nle.mp hc9)⟩⟩)
  refine lv_iconst (v := (nI 0)) hx hb dX0_fillsOrders_0 (by decide) ?_
  refine lv_istore_n (lv' := [(1, .int (nI 0)), (0, .ref (ad 0))]) hx hb dX0_fillsOrders_1 rfl hl (by decide) rfl (fun ls hl => ?_)
  exact c2 _ 0 _ _ _ _ rfl (by omega) (⟨rfl, fun k9 h9 => absurd h9 (by omega)⟩) hP hD hS (lv_sub hl [0, 1] rfl)
abbrev rmf_X0_gainOfPlan : Room := { frames := 1, cells := 0, slots := 0, locals := 21 }
set_option maxRecDepth 100000 in
set_option maxHeartbeats 4000000 in
theorem m_f_X0_gainOfPlan (l : Launch) (hl9 : l.stackTraces = false) (D : va_G) (cI : ClassId) (cJ : ClassId × ClassId) (ad : Nat → Nat) (sg0 : Nat → Nat → Int32) (sz : Nat) (hI : IvG 8 9 11 sg0) : gc_M l yX0_gainOfPlan wsX0_gainOfPlan rmf_X0_gainOfPlan D vwCl (tyS cI cJ) cI cJ gxT gxN SS [.ref (ad 0)] ad sg0 sz 0 0 (fun v sg2 => sg2 = sg0 ∧ v = some (.int (gP sg0 4))) := by
  refine gc_Mi_of (cc := cX0_gainOfPlan) (maxL := 3) (by decide) rfl (Nat.le_of_ble_eq_true rfl) ?_
  intro p e s m below meth c A ls Q hin hE hret
  obtain ⟨⟨hx, hb, hml, hown, hts⟩, -, hlocks, -, hA, hP, hK, hD, hS, hl⟩ := hin
  have hts : ∀ w ∈ wsAll, w.before ([.ref (ad 0)] : List Value).toArray s = true := fun w h => hts w (List.mem_cons_of_mem _ h)
  have hl : lv_has ls 3 [(0, .ref (ad 0))] := hl
  have c8 : ∀ (n9 : Nat) (i : Nat) (x1 : Int32) (sg : Nat → Nat → Int32) (H : Heap) (locs : List Loc) (ls : Array Slot), 4 - i = n9 → i ≤ 4 → (sg = sg0 ∧ x1 = gP sg0 i) → va_P D vwCl (gw cI cJ ad sg SS) H → va_D A (gw cI cJ ad sg SS) → va_S A s.heap H locs → lv_has ls 3 [(2, .int (nI i)), (1, .int x1), (0, .ref (ad 0))] → W p l e rmf_X0_gainOfPlan s m ([.ref (ad 0)] : List Value).toArray below meth c H locs 0 0 Q (F0 m 8 ls []) := by
    intro n9
    induction n9 using Nat.strongRecOn with
    | ind n9 ih =>
    intro i x1 sg H locs ls hn h1 hk hP hD hS hl
    subst hn
    refine lv_iload_n hx hb dX0_gainOfPlan_8 rfl (lv_at hl 0 rfl) ?_
    refine lv_iconst (v := (nI 4)) hx hb dX0_gainOfPlan_9 (by decide) ?_
    refine lv_icmp_ge (tgt := 44) hx hb dX0_gainOfPlan_10 (by decide) (fun hc1 => ?_) (fun hc1 => ?_)
    · have hc1 : 4 ≤ i := (nI_leI (a := 4) (b := i) (by omega) (by omega)).mp hc1
      refine lv_iload_n hx hb dX0_gainOfPlan_44 rfl (lv_at hl 1 rfl) ?_
      exact hret _ _ _ _ _ _ hP hS dX0_gainOfPlan_45 (⟨hk.1, by rw [hk.2, show i = 4 by omega]⟩)
    · have hc1 : ¬ (4 ≤ i) := fun q => hc1 ((nI_leI (a := 4) (b := i) (by omega) (by omega)).mpr q)
      refine lv_iload_n hx hb dX0_gainOfPlan_13 rfl (lv_at hl 1 rfl) ?_
      refine lv_aload_n hx hb dX0_gainOfPlan_14 rfl (lv_at hl 2 rfl) ?_
      refine gw_getr (C := RX0) (T := TX0) (N := 15) hx hb hts inwX0 hown hK hP 0 8 6 rfl rfl rfl (by decide) (hts _ a14) (fun _ h9 => h9) dX0_gainOfPlan_15 ?_
      refine lv_iload_n hx hb dX0_gainOfPlan_18 rfl (lv_at hl 0 rfl) ?_
      refine gw_ald hx hb hK hP 6 0 (n := 4) rfl rfl (i := i) (by omega) (by decide) dX0_gainOfPlan_19 ?_
      refine lv_aload_n hx hb dX0_gainOfPlan_20 rfl (lv_at hl 2 rfl) ?_
      refine gw_getr (C := RX0) (T := TX0) (N := 15) hx hb hts inwX0 hown hK hP 0 3 3 rfl rfl rfl (by decide) (hts _ a9) (fun _ h9 => h9) dX0_gainOfPlan_21 ?_
      refine lv_iload_n hx hb dX0_gainOfPlan_24 rfl (lv_at hl 0 rfl) ?_
      refine gw_ald hx hb hK hP 3 0 (n := 4) rfl rfl (i := i) (by omega) (by decide) dX0_gainOfPlan_25 ?_
      refine lv_aload_n hx hb dX0_gainOfPlan_26 rfl (lv_at hl 2 rfl) ?_
      refine gw_getr (C := RX0) (T := TX0) (N := 15) hx hb hts inwX0 hown hK hP 0 7 5 rfl rfl rfl (by decide) (hts _ a13) (fun _ h9 => h9) dX0_gainOfPlan_27 ?_
      refine lv_iload_n hx hb dX0_gainOfPlan_30 rfl (lv_at hl 0 rfl) ?_
      refine gw_ald hx hb hK hP 5 0 (n := 4) rfl rfl (i := i) (by omega) (by decide) dX0_gainOfPlan_31 ?_
      refine va_mmin hx hb (hml.trans hl.1.symm) hown (hts _ a20) (hts _ a21) (hts _ a22) (hts _ a23) (by decide) (Nat.le_of_ble_eq_true rfl) (by decide) (by decide) dX0_gainOfPlan_32 ?_
      refine lv_imul hx hb dX0_gainOfPlan_35 ?_
      refine lv_iadd hx hb dX0_gainOfPlan_36 ?_
      refine lv_istore_n (lv' := [(1, .int (x1 + ((sg 6 i) * (if (sg 5 i) < (sg 3 i) then (sg 5 i) else (sg 3 i))))), (2, .int (nI i)), (0, .ref (ad 0))]) hx hb dX0_gainOfPlan_37 rfl hl (by decide) rfl (fun ls hl => ?_)
      refine lv_iinc (k := 1) (v := (nI (i + 1))) (lv' := [(2, .int (nI (i + 1))), (1, .int (x1 + ((sg 6 i) * (if (sg 5 i) < (sg 3 i) then (sg 5 i) else (sg 3 i))))), (0, .ref (ad 0))]) hx hb dX0_gainOfPlan_38 hl rfl (nI_1 _) (by decide) rfl (fun ls hl => ?_)
      refine lv_goto (tgt := 8) hx hb dX0_gainOfPlan_41 (by decide) ?_
      exact ih _ (by omega) (i + 1) (x1 + ((sg 6 i) * (if (sg 5 i) < (sg 3 i) then (sg 5 i) else (sg 3 i)))) _ _ _ _ rfl (by omega) (⟨hk.1, by rw [hk.2, hk.1]; rfl⟩) hP hD hS (lv_sub hl [0, 1, 2] rfl)
  refine lv_aload_n hx hb dX0_gainOfPlan_0 rfl (lv_at hl 0 rfl) ?_
  refine gw_geti (C := RX0) (T := TX0) (N := 15) hx hb hts inwX0 hown hK hP 0 5 rfl rfl rfl (by decide) (hts _ a8) (fun _ h9 => h9) dX0_gainOfPlan_1 ?_
  refine lv_ineg hx hb dX0_gainOfPlan_4 ?_
  refine lv_istore_n (lv' := [(1, .int (-(sg0 0 5))), (0, .ref (ad 0))]) hx hb dX0_gainOfPlan_5 rfl hl (by decide) rfl (fun ls hl => ?_)
  refine lv_iconst (v := (nI 0)) hx hb dX0_gainOfPlan_6 (by decide) ?_
  refine lv_istore_n (lv' := [(2, .int (nI 0)), (1, .int (-(sg0 0 5))), (0, .ref (ad 0))]) hx hb dX0_gainOfPlan_7 rfl hl (by decide) rfl (fun ls hl => ?_)
  exact c8 _ 0 (-(sg0 0 5)) _ _ _ _ rfl (by omega) (⟨rfl, rfl⟩) hP hD hS (lv_sub hl [0, 1, 2] rfl)
abbrev rmf_X0_lookAtPlan : Room := { frames := 2, cells := 0, slots := 0, locals := 43 }
set_option maxRecDepth 100000 in
set_option maxHeartbeats 4000000 in
theorem m_f_X0_lookAtPlan (l : Launch) (hl9 : l.stackTraces = false) (D : va_G) (cI : ClassId) (cJ : ClassId × ClassId) (ad : Nat → Nat) (sg0 : Nat → Nat → Int32) (sz : Nat) (hI : IvG 8 9 11 sg0) : gc_M l yX0_lookAtPlan wsX0_lookAtPlan rmf_X0_lookAtPlan D vwCl (tyS cI cJ) cI cJ gxT gxN SS [.ref (ad 0)] ad sg0 sz 0 0 (fun v sg2 => v = none ∧ sg2 = lkF sg0) := by
  refine gc_Mv_of (cc := cX0_lookAtPlan) (maxL := 2) (by decide) rfl (Nat.le_of_ble_eq_true rfl) ?_
  intro p e s m below meth c A ls Q hin hE hret
  obtain ⟨⟨hx, hb, hml, hown, hts⟩, -, hlocks, -, hA, hP, hK, hD, hS, hl⟩ := hin
  have hts : ∀ w ∈ wsAll, w.before ([.ref (ad 0)] : List Value).toArray s = true := fun w h => hts w (List.mem_cons_of_mem _ h)
  have hl : lv_has ls 2 [(0, .ref (ad 0))] := hl
  refine lv_aload_n hx hb dX0_lookAtPlan_0 rfl (lv_at hl 0 rfl) ?_
  refine gc_go0 (va_runV (As := []) (rest := []) ⟨hx, hb, hml, hown, hts⟩ (m_f_X0_fillsOrders l hl9 D cI cJ ad sg0 _  hI) (cwV 0 hts (gwV a31 a32 a33 a18 a34) rfl rfl rfl (by decide +kernel) ⟨by decide, by decide⟩) (gc_preV0 hK hP hD hS hA hE rfl rfl rfl) rfl rfl hl.1 rfl (lv_room (Nat.le_of_ble_eq_true rfl)) dX0_lookAtPlan_1 ⟨by decide, by decide⟩) hD hS hA (fun v1 sg3 H locs hp4 hP hD hS => ?_)
  obtain ⟨hs9, hp9⟩ := hp4
  rw [hs9] at hP hD
  rcases hp9 with ⟨rfl, hfl⟩ | ⟨rfl, hfl⟩
  · refine W.eq (g2 := F0 m 4 ls [.int (nI 1)]) rfl ?_
    refine lv_if_ne (tgt := 8) hx hb dX0_lookAtPlan_4 (by decide) (fun hc7 => ?_) (fun hc7 => ?_)
    · refine lv_aload_n hx hb dX0_lookAtPlan_8 rfl (lv_at hl 0 rfl) ?_
      refine gc_go0 (va_runV (As := []) (rest := []) ⟨hx, hb, hml, hown, hts⟩ (m_f_X0_gainOfPlan l hl9 D cI cJ ad sg0 _  hI) (cwV 0 hts (gwV a35 a36 a37 a18 a38) rfl rfl rfl (by decide +kernel) ⟨by decide, by decide⟩) (gc_preV0 hK hP hD hS hA hE rfl rfl rfl) rfl rfl hl.1 rfl (lv_room (Nat.le_of_ble_eq_true rfl)) dX0_lookAtPlan_9 ⟨by decide, by decide⟩) hD hS hA (fun v8 sg10 H locs hp11 hP hD hS => ?_)
      obtain ⟨hs9, rfl⟩ := hp11
      rw [hs9] at hP hD
      refine W.eq (g2 := F0 m 12 ls [.int (gP sg0 4)]) rfl ?_
      refine lv_istore_n (lv' := [(1, .int (gP sg0 4)), (0, .ref (ad 0))]) hx hb dX0_lookAtPlan_12 rfl hl (by decide) rfl (fun ls hl => ?_)
      refine lv_aload_n hx hb dX0_lookAtPlan_13 rfl (lv_at hl 1 rfl) ?_
      refine gw_geti (C := RX0) (T := TX0) (N := 15) hx hb hts inwX0 hown hK hP 0 12 rfl rfl rfl (by decide) (hts _ a24) (fun _ h9 => h9) dX0_lookAtPlan_14 ?_
      refine lv_if_eq (tgt := 28) hx hb dX0_lookAtPlan_17 (by decide) (fun hc7 => ?_) (fun hc7 => ?_)
      · refine lv_aload_n hx hb dX0_lookAtPlan_28 rfl (lv_at hl 1 rfl) ?_
        refine lv_iconst (v := (nI 1)) hx hb dX0_lookAtPlan_29 (by decide) ?_
        refine gw_put (C := RX0) (T := TX0) (N := 15) (ty := .boolean) hx hb hts inwX0 tyX0 tyX0_ok nmX0 hown hK hP hD hS 0 12 rfl rfl rfl (by decide) (hts _ a24) (fun _ h9 => h9) rfl (by decide +kernel) rfl rfl dX0_lookAtPlan_30 (fun H locs hP hD hS => ?_)
        obtain ⟨sg14, esg14⟩ : ∃ z : Nat → Nat → Int32, z = gw_u sg0 0 (upd (sg0 0) 12 (nI 1)) := ⟨_, rfl⟩
        rw [← esg14] at hP hD
        refine lv_aload_n hx hb dX0_lookAtPlan_33 rfl (lv_at hl 1 rfl) ?_
        refine lv_iload_n hx hb dX0_lookAtPlan_34 rfl (lv_at hl 0 rfl) ?_
        refine gw_put (C := RX0) (T := TX0) (N := 15) (ty := .int) hx hb hts inwX0 tyX0 tyX0_ok nmX0 hown hK hP hD hS 0 13 rfl rfl rfl (by decide) (hts _ a25) (fun _ h9 => h9) rfl (by decide +kernel) rfl rfl dX0_lookAtPlan_35 (fun H locs hP hD hS => ?_)
        obtain ⟨sg15, esg15⟩ : ∃ z : Nat → Nat → Int32, z = gw_u sg14 0 (upd (sg14 0) 13 (gP sg0 4)) := ⟨_, rfl⟩
        rw [← esg15] at hP hD
        refine lv_aload_n hx hb dX0_lookAtPlan_38 rfl (lv_at hl 1 rfl) ?_
        refine gw_getr (C := RX0) (T := TX0) (N := 15) hx hb hts inwX0 hown hK hP 0 1 1 rfl rfl rfl (by decide) (hts _ a11) (fun _ h9 => h9) dX0_lookAtPlan_39 ?_
        refine lv_iconst (v := (nI 0)) hx hb dX0_lookAtPlan_42 (by decide) ?_
        refine lv_aload_n hx hb dX0_lookAtPlan_43 rfl (lv_at hl 1 rfl) ?_
        refine gw_getr (C := RX0) (T := TX0) (N := 15) hx hb hts inwX0 hown hK hP 0 14 7 rfl rfl rfl (by decide) (hts _ a26) (fun _ h9 => h9) dX0_lookAtPlan_44 ?_
        refine lv_iconst (v := (nI 0)) hx hb dX0_lookAtPlan_47 (by decide) ?_
        refine lv_bipush (v := (nI 6)) hx hb dX0_lookAtPlan_48 (by decide) ?_
        refine gw_cpy hx hb (hml.trans hl.1.symm) hown (hts _ a27) (hts _ a28) (hts _ a29) (hts _ a30) hK hP hD hS 1 7 0 rfl rfl rfl (by decide) (by decide) (by decide) (by decide) (by decide) dX0_lookAtPlan_50 (fun H locs hP hD hS => ?_)
        obtain ⟨sg16, esg16⟩ : ∃ z : Nat → Nat → Int32, z = gw_u sg15 7 (va_cpy (sg15 1) (sg15 7) 0 0 6) := ⟨_, rfl⟩
        rw [← esg16] at hP hD
        exact hret _ _ _ _ _ hP hS dX0_lookAtPlan_53 (⟨rfl, by rw [lkF_t hfl (by first | exact Or.inl hc7 | exact Or.inr (i_nle.mp hc8)), esg16, esg15, esg14]; rfl⟩)
      · refine lv_iload_n hx hb dX0_lookAtPlan_20 rfl (lv_at hl 0 rfl) ?_
        refine lv_aload_n hx hb dX0_lookAtPlan_21 rfl (lv_at hl 1 rfl) ?_
        refine gw_geti (C := RX0) (T := TX0) (N := 15) hx hb hts inwX0 hown hK hP 0 13 rfl rfl rfl (by decide) (hts _ a25) (fun _ h9 => h9) dX0_lookAtPlan_22 ?_
        refine lv_icmp_le (tgt := 53) hx hb dX0_lookAtPlan_25 (by decide) (fun hc8 => ?_) (fun hc8 => ?_)
        · exact hret _ _ _ _ _ hP hS dX0_lookAtPlan_53 (⟨rfl, (lkF_f (by first | exact fun q9 => hfl q9.1 | exact fun q9 => q9.2.elim hc7 (i_nlt.mpr hc8))).symm⟩)
        · refine lv_aload_n hx hb dX0_lookAtPlan_28 rfl (lv_at hl 1 rfl) ?_
          refine lv_iconst (v := (nI 1)) hx hb dX0_lookAtPlan_29 (by decide) ?_
          refine gw_put (C := RX0) (T := TX0) (N := 15) (ty := .boolean) hx hb hts inwX0 tyX0 tyX0_ok nmX0 hown hK hP hD hS 0 12 rfl rfl rfl (by decide) (hts _ a24) (fun _ h9 => h9) rfl (by decide +kernel) rfl rfl dX0_lookAtPlan_30 (fun H locs hP hD hS => ?_)
          obtain ⟨sg17, esg17⟩ : ∃ z : Nat → Nat → Int32, z = gw_u sg0 0 (upd (sg0 0) 12 (nI 1)) := ⟨_, rfl⟩
          rw [← esg17] at hP hD
          refine lv_aload_n hx hb dX0_lookAtPlan_33 rfl (lv_at hl 1 rfl) ?_
          refine lv_iload_n hx hb dX0_lookAtPlan_34 rfl (lv_at hl 0 rfl) ?_
          refine gw_put (C := RX0) (T := TX0) (N := 15) (ty := .int) hx hb hts inwX0 tyX0 tyX0_ok nmX0 hown hK hP hD hS 0 13 rfl rfl rfl (by decide) (hts _ a25) (fun _ h9 => h9) rfl (by decide +kernel) rfl rfl dX0_lookAtPlan_35 (fun H locs hP hD hS => ?_)
          obtain ⟨sg18, esg18⟩ : ∃ z : Nat → Nat → Int32, z = gw_u sg17 0 (upd (sg17 0) 13 (gP sg0 4)) := ⟨_, rfl⟩
          rw [← esg18] at hP hD
          refine lv_aload_n hx hb dX0_lookAtPlan_38 rfl (lv_at hl 1 rfl) ?_
          refine gw_getr (C := RX0) (T := TX0) (N := 15) hx hb hts inwX0 hown hK hP 0 1 1 rfl rfl rfl (by decide) (hts _ a11) (fun _ h9 => h9) dX0_lookAtPlan_39 ?_
          refine lv_iconst (v := (nI 0)) hx hb dX0_lookAtPlan_42 (by decide) ?_
          refine lv_aload_n hx hb dX0_lookAtPlan_43 rfl (lv_at hl 1 rfl) ?_
          refine gw_getr (C := RX0) (T := TX0) (N := 15) hx hb hts inwX0 hown hK hP 0 14 7 rfl rfl rfl (by decide) (hts _ a26) (fun _ h9 => h9) dX0_lookAtPlan_44 ?_
          refine lv_iconst (v := (nI 0)) hx hb dX0_lookAtPlan_47 (by decide) ?_
          refine lv_bipush (v := (nI 6)) hx hb dX0_lookAtPlan_48 (by decide) ?_
          refine gw_cpy hx hb (hml.trans hl.1.symm) hown (hts _ a27) (hts _ a28) (hts _ a29) (hts _ a30) hK hP hD hS 1 7 0 rfl rfl rfl (by decide) (by decide) (by decide) (by decide) (by decide) dX0_lookAtPlan_50 (fun H locs hP hD hS => ?_)
          obtain ⟨sg19, esg19⟩ : ∃ z : Nat → Nat → Int32, z = gw_u sg18 7 (va_cpy (sg18 1) (sg18 7) 0 0 6) := ⟨_, rfl⟩
          rw [← esg19] at hP hD
          exact hret _ _ _ _ _ hP hS dX0_lookAtPlan_53 (⟨rfl, by rw [lkF_t hfl (by first | exact Or.inl hc7 | exact Or.inr (i_nle.mp hc8)), esg19, esg18, esg17]; rfl⟩)
    · exact absurd hc7 (by decide)
  · refine W.eq (g2 := F0 m 4 ls [.int (nI 0)]) rfl ?_
    refine lv_if_ne (tgt := 8) hx hb dX0_lookAtPlan_4 (by decide) (fun hc20 => ?_) (fun hc20 => ?_)
    · exact absurd hc20 (by decide)
    · exact hret _ _ _ _ _ hP hS dX0_lookAtPlan_7 (⟨rfl, (lkF_f (by first | exact fun q9 => hfl q9.1 | exact fun q9 => q9.2.elim hc7 (i_nlt.mpr hc8))).symm⟩)
