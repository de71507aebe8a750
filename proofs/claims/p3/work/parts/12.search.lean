abbrev rmX0_startWithEmptyPlan : Room := { frames := 0, cells := 0, slots := 0, locals := 0 }
set_option maxRecDepth 100000 in
set_option maxHeartbeats 4000000 in
theorem m_X0_startWithEmptyPlan (l : Launch) (hl9 : l.stackTraces = false) (D : va_G) (cI : ClassId) (cJ : ClassId × ClassId) (ad : Nat → Nat) (sg0 : Nat → Nat → Int32) (sz : Nat) (hI : IvG 8 9 11 sg0) : gc_M l yX0_startWithEmptyPlan wsX0_startWithEmptyPlan rmX0_startWithEmptyPlan D vwCl (tyS cI cJ) cI cJ gxT gxN SS [.ref (ad 0)] ad sg0 sz 0 0 (fun v sg2 => KG 8 9 11 sg0 sg2 ∧ v = none) := by
  refine gc_Mv_of (cc := cX0_startWithEmptyPlan) (maxL := 2) (by decide) rfl (Nat.le_of_ble_eq_true rfl) ?_
  intro p e s m below meth c A ls Q hin hE hret
  obtain ⟨⟨hx, hb, hml, hown, hts⟩, -, hlocks, -, hA, hP, hK, hD, hS, hl⟩ := hin
  have hts : ∀ w ∈ wsAll, w.before ([.ref (ad 0)] : List Value).toArray s = true := fun w h => hts w (List.mem_cons_of_mem _ h)
  have hl : lv_has ls 2 [(0, .ref (ad 0))] := hl
  have hk := KG.refl hI
  have c51 : ∀ (n9 : Nat) (i : Nat) (sg : Nat → Nat → Int32) (H : Heap) (locs : List Loc) (ls : Array Slot), 4 - i = n9 → i ≤ 4 → (KG 8 9 11 sg0 sg) → va_P D vwCl (gw cI cJ ad sg SS) H → va_D A (gw cI cJ ad sg SS) → va_S A s.heap H locs → lv_has ls 2 [(1, .int (nI i)), (0, .ref (ad 0))] → W p l e rmX0_startWithEmptyPlan s m ([.ref (ad 0)] : List Value).toArray below meth c H locs 0 0 Q (F0 m 51 ls []) := by
    intro n9
    induction n9 using Nat.strongRecOn with
    | ind n9 ih =>
    intro i sg H locs ls hn h1 hk hP hD hS hl
    subst hn
    refine lv_iload_n hx hb dX0_startWithEmptyPlan_51 rfl (lv_at hl 0 rfl) ?_
    refine lv_iconst (v := (nI 4)) hx hb dX0_startWithEmptyPlan_52 (by decide) ?_
    refine lv_icmp_ge (tgt := 77) hx hb dX0_startWithEmptyPlan_53 (by decide) (fun hc1 => ?_) (fun hc1 => ?_)
    · have hc1 : 4 ≤ i := (nI_leI (a := 4) (b := i) (by omega) (by omega)).mp hc1
      refine lv_aload_n hx hb dX0_startWithEmptyPlan_77 rfl (lv_at hl 1 rfl) ?_
      refine lv_aload_n hx hb dX0_startWithEmptyPlan_78 rfl (lv_at hl 1 rfl) ?_
      refine gw_getr (C := RX0) (T := TX0) (N := 15) hx hb hts inwX0 hown hK hP 0 0 8 rfl rfl rfl (by decide) (hts _ a6) (fun _ h9 => h9) dX0_startWithEmptyPlan_79 ?_
      refine gw_getiN (C := RX1) (T := TX1) (N := 12) hx hb hts inwX1 hown hK hP 8 10 rfl rfl rfl (by decide) (hE.nest _ (.fieldLinkNest RX0 69 RX1 "minutesADay" "I" RX2) (by decide +kernel) rfl) (fun _ h9 => h9) dX0_startWithEmptyPlan_82 ?_
      refine lv_topi (fun v2 hv2 => ?_)
      refine gw_put (C := RX0) (T := TX0) (N := 15) (ty := .int) hx hb hts inwX0 tyX0 tyX0_ok nmX0 hown hK hP hD hS 0 4 rfl rfl rfl (by decide) (hts _ a7) (fun _ h9 => h9) rfl (by decide +kernel) rfl rfl dX0_startWithEmptyPlan_85 (fun H locs hP hD hS => ?_)
      obtain ⟨sg3, esg3⟩ : ∃ z : Nat → Nat → Int32, z = gw_u sg 0 (upd (sg 0) 4 v2) := ⟨_, rfl⟩
      rw [← esg3] at hP hD
      have hk : KG 8 9 11 sg0 sg3 := by rw [esg3]; exact hk.wa 0 (by omega) (by omega) _
      refine lv_aload_n hx hb dX0_startWithEmptyPlan_88 rfl (lv_at hl 1 rfl) ?_
      refine lv_iconst (v := (nI 0)) hx hb dX0_startWithEmptyPlan_89 (by decide) ?_
      refine gw_put (C := RX0) (T := TX0) (N := 15) (ty := .int) hx hb hts inwX0 tyX0 tyX0_ok nmX0 hown hK hP hD hS 0 5 rfl rfl rfl (by decide) (hts _ a8) (fun _ h9 => h9) rfl (by decide +kernel) rfl rfl dX0_startWithEmptyPlan_90 (fun H locs hP hD hS => ?_)
      obtain ⟨sg4, esg4⟩ : ∃ z : Nat → Nat → Int32, z = gw_u sg3 0 (upd (sg3 0) 5 (nI 0)) := ⟨_, rfl⟩
      rw [← esg4] at hP hD
      have hk : KG 8 9 11 sg0 sg4 := by rw [esg4]; exact hk.wa 0 (by omega) (by omega) _
      exact hret _ _ _ _ _ hP hS dX0_startWithEmptyPlan_93 (⟨hk, rfl⟩)
    · have hc1 : ¬ (4 ≤ i) := fun q => hc1 ((nI_leI (a := 4) (b := i) (by omega) (by omega)).mpr q)
      refine lv_aload_n hx hb dX0_startWithEmptyPlan_56 rfl (lv_at hl 1 rfl) ?_
      refine gw_getr (C := RX0) (T := TX0) (N := 15) hx hb hts inwX0 hown hK hP 0 3 3 rfl rfl rfl (by decide) (hts _ a9) (fun _ h9 => h9) dX0_startWithEmptyPlan_57 ?_
      refine lv_iload_n hx hb dX0_startWithEmptyPlan_60 rfl (lv_at hl 0 rfl) ?_
      refine lv_aload_n hx hb dX0_startWithEmptyPlan_61 rfl (lv_at hl 1 rfl) ?_
      refine gw_getr (C := RX0) (T := TX0) (N := 15) hx hb hts inwX0 hown hK hP 0 0 8 rfl rfl rfl (by decide) (hts _ a6) (fun _ h9 => h9) dX0_startWithEmptyPlan_62 ?_
      refine gw_getrN (C := RX1) (T := TX1) (N := 12) hx hb hts inwX1 hown hK hP 8 8 17 rfl rfl rfl (by decide) (hE.nest _ (.fieldLinkNest RX0 66 RX1 "stock" "[I" RX2) (by decide +kernel) rfl) (fun _ h9 => h9) dX0_startWithEmptyPlan_65 ?_
      refine lv_iload_n hx hb dX0_startWithEmptyPlan_68 rfl (lv_at hl 0 rfl) ?_
      refine gw_ald hx hb hK hP 17 0 (n := 4) rfl rfl (i := i) (by omega) (by decide) dX0_startWithEmptyPlan_69 ?_
      refine lv_topi (fun v5 hv5 => ?_)
      refine gw_ast hx hb hK hP hD hS 3 0 (n := 4) rfl rfl (i := i) (by omega) (by decide) dX0_startWithEmptyPlan_70 (fun H locs hP hD hS => ?_)
      obtain ⟨sg6, esg6⟩ : ∃ z : Nat → Nat → Int32, z = gw_u sg 3 (upd (sg 3) i v5) := ⟨_, rfl⟩
      rw [← esg6] at hP hD
      have hk : KG 8 9 11 sg0 sg6 := by rw [esg6]; exact hk.wa 3 (by omega) (by omega) _
      refine lv_iinc (k := 0) (v := (nI (i + 1))) (lv' := [(1, .int (nI (i + 1))), (0, .ref (ad 0))]) hx hb dX0_startWithEmptyPlan_71 hl rfl (nI_1 _) (by decide) rfl (fun ls hl => ?_)
      refine lv_goto (tgt := 51) hx hb dX0_startWithEmptyPlan_74 (by decide) ?_
      exact ih _ (by omega) (i + 1) _ _ _ _ rfl (by omega) hk hP hD hS (lv_sub hl [0, 1] rfl)
  have c23 : ∀ (n9 : Nat) (i : Nat) (sg : Nat → Nat → Int32) (H : Heap) (locs : List Loc) (ls : Array Slot), 4 - i = n9 → i ≤ 4 → (KG 8 9 11 sg0 sg) → va_P D vwCl (gw cI cJ ad sg SS) H → va_D A (gw cI cJ ad sg SS) → va_S A s.heap H locs → lv_has ls 2 [(1, .int (nI i)), (0, .ref (ad 0))] → W p l e rmX0_startWithEmptyPlan s m ([.ref (ad 0)] : List Value).toArray below meth c H locs 0 0 Q (F0 m 23 ls []) := by
    intro n9
    induction n9 using Nat.strongRecOn with
    | ind n9 ih =>
    intro i sg H locs ls hn h1 hk hP hD hS hl
    subst hn
    refine lv_iload_n hx hb dX0_startWithEmptyPlan_23 rfl (lv_at hl 0 rfl) ?_
    refine lv_iconst (v := (nI 4)) hx hb dX0_startWithEmptyPlan_24 (by decide) ?_
    refine lv_icmp_ge (tgt := 49) hx hb dX0_startWithEmptyPlan_25 (by decide) (fun hc7 => ?_) (fun hc7 => ?_)
    · have hc7 : 4 ≤ i := (nI_leI (a := 4) (b := i) (by omega) (by omega)).mp hc7
      refine lv_iconst (v := (nI 0)) hx hb dX0_startWithEmptyPlan_49 (by decide) ?_
      refine lv_istore_n (lv' := [(1, .int (nI 0)), (0, .ref (ad 0))]) hx hb dX0_startWithEmptyPlan_50 rfl hl (by decide) rfl (fun ls hl => ?_)
      exact c51 _ 0 _ _ _ _ rfl (by omega) hk hP hD hS (lv_sub hl [0, 1] rfl)
    · have hc7 : ¬ (4 ≤ i) := fun q => hc7 ((nI_leI (a := 4) (b := i) (by omega) (by omega)).mpr q)
      refine lv_aload_n hx hb dX0_startWithEmptyPlan_28 rfl (lv_at hl 1 rfl) ?_
      refine gw_getr (C := RX0) (T := TX0) (N := 15) hx hb hts inwX0 hown hK hP 0 2 2 rfl rfl rfl (by decide) (hts _ a10) (fun _ h9 => h9) dX0_startWithEmptyPlan_29 ?_
      refine lv_iload_n hx hb dX0_startWithEmptyPlan_32 rfl (lv_at hl 0 rfl) ?_
      refine lv_aload_n hx hb dX0_startWithEmptyPlan_33 rfl (lv_at hl 1 rfl) ?_
      refine gw_getr (C := RX0) (T := TX0) (N := 15) hx hb hts inwX0 hown hK hP 0 0 8 rfl rfl rfl (by decide) (hts _ a6) (fun _ h9 => h9) dX0_startWithEmptyPlan_34 ?_
      refine gw_getrN (C := RX1) (T := TX1) (N := 12) hx hb hts inwX1 hown hK hP 8 0 9 rfl rfl rfl (by decide) (hE.nest _ (.fieldLinkNest RX0 61 RX1 "logsLeft" "[I" RX2) (by decide +kernel) rfl) (fun _ h9 => h9) dX0_startWithEmptyPlan_37 ?_
      refine lv_iload_n hx hb dX0_startWithEmptyPlan_40 rfl (lv_at hl 0 rfl) ?_
      refine gw_ald hx hb hK hP 9 0 (n := 4) rfl rfl (i := i) (by omega) (by decide) dX0_startWithEmptyPlan_41 ?_
      refine lv_topi (fun v8 hv8 => ?_)
      refine gw_ast hx hb hK hP hD hS 2 0 (n := 4) rfl rfl (i := i) (by omega) (by decide) dX0_startWithEmptyPlan_42 (fun H locs hP hD hS => ?_)
      obtain ⟨sg9, esg9⟩ : ∃ z : Nat → Nat → Int32, z = gw_u sg 2 (upd (sg 2) i v8) := ⟨_, rfl⟩
      rw [← esg9] at hP hD
      have hk : KG 8 9 11 sg0 sg9 := by rw [esg9]; exact hk.wa 2 (by omega) (by omega) _
      refine lv_iinc (k := 0) (v := (nI (i + 1))) (lv' := [(1, .int (nI (i + 1))), (0, .ref (ad 0))]) hx hb dX0_startWithEmptyPlan_43 hl rfl (nI_1 _) (by decide) rfl (fun ls hl => ?_)
      refine lv_goto (tgt := 23) hx hb dX0_startWithEmptyPlan_46 (by decide) ?_
      exact ih _ (by omega) (i + 1) _ _ _ _ rfl (by omega) hk hP hD hS (lv_sub hl [0, 1] rfl)
  have c2 : ∀ (n9 : Nat) (i : Nat) (sg : Nat → Nat → Int32) (H : Heap) (locs : List Loc) (ls : Array Slot), 6 - i = n9 → i ≤ 6 → (KG 8 9 11 sg0 sg) → va_P D vwCl (gw cI cJ ad sg SS) H → va_D A (gw cI cJ ad sg SS) → va_S A s.heap H locs → lv_has ls 2 [(1, .int (nI i)), (0, .ref (ad 0))] → W p l e rmX0_startWithEmptyPlan s m ([.ref (ad 0)] : List Value).toArray below meth c H locs 0 0 Q (F0 m 2 ls []) := by
    intro n9
    induction n9 using Nat.strongRecOn with
    | ind n9 ih =>
    intro i sg H locs ls hn h1 hk hP hD hS hl
    subst hn
    refine lv_iload_n hx hb dX0_startWithEmptyPlan_2 rfl (lv_at hl 0 rfl) ?_
    refine lv_bipush (v := (nI 6)) hx hb dX0_startWithEmptyPlan_3 (by decide) ?_
    refine lv_icmp_ge (tgt := 21) hx hb dX0_startWithEmptyPlan_5 (by decide) (fun hc10 => ?_) (fun hc10 => ?_)
    · have hc10 : 6 ≤ i := (nI_leI (a := 6) (b := i) (by omega) (by omega)).mp hc10
      refine lv_iconst (v := (nI 0)) hx hb dX0_startWithEmptyPlan_21 (by decide) ?_
      refine lv_istore_n (lv' := [(1, .int (nI 0)), (0, .ref (ad 0))]) hx hb dX0_startWithEmptyPlan_22 rfl hl (by decide) rfl (fun ls hl => ?_)
      exact c23 _ 0 _ _ _ _ rfl (by omega) hk hP hD hS (lv_sub hl [0, 1] rfl)
    · have hc10 : ¬ (6 ≤ i) := fun q => hc10 ((nI_leI (a := 6) (b := i) (by omega) (by omega)).mpr q)
      refine lv_aload_n hx hb dX0_startWithEmptyPlan_8 rfl (lv_at hl 1 rfl) ?_
      refine gw_getr (C := RX0) (T := TX0) (N := 15) hx hb hts inwX0 hown hK hP 0 1 1 rfl rfl rfl (by decide) (hts _ a11) (fun _ h9 => h9) dX0_startWithEmptyPlan_9 ?_
      refine lv_iload_n hx hb dX0_startWithEmptyPlan_12 rfl (lv_at hl 0 rfl) ?_
      refine lv_iconst (v := (nI 0)) hx hb dX0_startWithEmptyPlan_13 (by decide) ?_
      refine gw_ast hx hb hK hP hD hS 1 0 (n := 6) rfl rfl (i := i) (by omega) (by decide) dX0_startWithEmptyPlan_14 (fun H locs hP hD hS => ?_)
      obtain ⟨sg11, esg11⟩ : ∃ z : Nat → Nat → Int32, z = gw_u sg 1 (upd (sg 1) i (nI 0)) := ⟨_, rfl⟩
      rw [← esg11] at hP hD
      have hk : KG 8 9 11 sg0 sg11 := by rw [esg11]; exact hk.wa 1 (by omega) (by omega) _
      refine lv_iinc (k := 0) (v := (nI (i + 1))) (lv' := [(1, .int (nI (i + 1))), (0, .ref (ad 0))]) hx hb dX0_startWithEmptyPlan_15 hl rfl (nI_1 _) (by decide) rfl (fun ls hl => ?_)
      refine lv_goto (tgt := 2) hx hb dX0_startWithEmptyPlan_18 (by decide) ?_
      exact ih _ (by omega) (i + 1) _ _ _ _ rfl (by omega) hk hP hD hS (lv_sub hl [0, 1] rfl)
  refine lv_iconst (v := (nI 0)) hx hb dX0_startWithEmptyPlan_0 (by decide) ?_
  refine lv_istore_n (lv' := [(1, .int (nI 0)), (0, .ref (ad 0))]) hx hb dX0_startWithEmptyPlan_1 rfl hl (by decide) rfl (fun ls hl => ?_)
  exact c2 _ 0 _ _ _ _ rfl (by omega) hk hP hD hS (lv_sub hl [0, 1] rfl)
abbrev rmX0_takeOrders : Room := { frames := 0, cells := 0, slots := 0, locals := 0 }
set_option maxRecDepth 100000 in
set_option maxHeartbeats 4000000 in
theorem m_X0_takeOrders (l : Launch) (hl9 : l.stackTraces = false) (D : va_G) (cI : ClassId) (cJ : ClassId × ClassId) (ad : Nat → Nat) (sg0 : Nat → Nat → Int32) (sz : Nat) (x1 : Int32) (hI : IvG 8 9 11 sg0) : gc_M l yX0_takeOrders wsX0_takeOrders rmX0_takeOrders D vwCl (tyS cI cJ) cI cJ gxT gxN SS [.ref (ad 0), .int x1] ad sg0 sz 0 0 (fun v sg2 => KG 8 9 11 sg0 sg2 ∧ v = none) := by
  refine gc_Mv_of (cc := cX0_takeOrders) (maxL := 4) (by decide) rfl (Nat.le_of_ble_eq_true rfl) ?_
  intro p e s m below meth c A ls Q hin hE hret
  obtain ⟨⟨hx, hb, hml, hown, hts⟩, -, hlocks, -, hA, hP, hK, hD, hS, hl⟩ := hin
  have hts : ∀ w ∈ wsAll, w.before ([.ref (ad 0), .int x1] : List Value).toArray s = true := fun w h => hts w (List.mem_cons_of_mem _ h)
  have hl : lv_has ls 4 [(0, .ref (ad 0)), (1, .int x1)] := hl
  have hk := KG.refl hI
  have c2 : ∀ (n9 : Nat) (i : Nat) (sg : Nat → Nat → Int32) (H : Heap) (locs : List Loc) (ls : Array Slot), 4 - i = n9 → i ≤ 4 → (KG 8 9 11 sg0 sg) → va_P D vwCl (gw cI cJ ad sg SS) H → va_D A (gw cI cJ ad sg SS) → va_S A s.heap H locs → lv_has ls 4 [(2, .int (nI i)), (0, .ref (ad 0)), (1, .int x1)] → W p l e rmX0_takeOrders s m ([.ref (ad 0), .int x1] : List Value).toArray below meth c H locs 0 0 Q (F0 m 2 ls []) := by
    intro n9
    induction n9 using Nat.strongRecOn with
    | ind n9 ih =>
    intro i sg H locs ls hn h1 hk hP hD hS hl
    subst hn
    refine lv_iload_n hx hb dX0_takeOrders_2 rfl (lv_at hl 0 rfl) ?_
    refine lv_iconst (v := (nI 4)) hx hb dX0_takeOrders_3 (by decide) ?_
    refine lv_icmp_ge (tgt := 93) hx hb dX0_takeOrders_4 (by decide) (fun hc1 => ?_) (fun hc1 => ?_)
    · have hc1 : 4 ≤ i := (nI_leI (a := 4) (b := i) (by omega) (by omega)).mp hc1
      exact hret _ _ _ _ _ hP hS dX0_takeOrders_93 (⟨hk, rfl⟩)
    · have hc1 : ¬ (4 ≤ i) := fun q => hc1 ((nI_leI (a := 4) (b := i) (by omega) (by omega)).mpr q)
      refine lv_iload_n hx hb dX0_takeOrders_7 rfl (lv_at hl 0 rfl) ?_
      refine lv_iload_n hx hb dX0_takeOrders_8 rfl (lv_at hl 2 rfl) ?_
      refine lv_icmp_eq (tgt := 16) hx hb dX0_takeOrders_9 (by decide) (fun hc2 => ?_) (fun hc2 => ?_)
      · refine lv_iconst (v := (nI 0)) hx hb dX0_takeOrders_16 (by decide) ?_
        refine lv_istore_n (lv' := [(3, .int (nI 0)), (2, .int (nI i)), (0, .ref (ad 0)), (1, .int x1)]) hx hb dX0_takeOrders_17 rfl hl (by decide) rfl (fun ls hl => ?_)
        refine lv_aload_n hx hb dX0_takeOrders_18 rfl (lv_at hl 2 rfl) ?_
        refine gw_getr (C := RX0) (T := TX0) (N := 15) hx hb hts inwX0 hown hK hP 0 6 4 rfl rfl rfl (by decide) (hts _ a12) (fun _ h9 => h9) dX0_takeOrders_19 ?_
        refine lv_iload_n hx hb dX0_takeOrders_22 rfl (lv_at hl 1 rfl) ?_
        refine lv_iload_n hx hb dX0_takeOrders_23 rfl (lv_at hl 0 rfl) ?_
        refine lv_if_eq (tgt := 39) hx hb dX0_takeOrders_24 (by decide) (fun hc3 => ?_) (fun hc3 => ?_)
        · refine lv_iconst (v := (nI 0)) hx hb dX0_takeOrders_39 (by decide) ?_
          refine gw_ast hx hb hK hP hD hS 4 0 (n := 4) rfl rfl (i := i) (by omega) (by decide) dX0_takeOrders_40 (fun H locs hP hD hS => ?_)
          obtain ⟨sg4, esg4⟩ : ∃ z : Nat → Nat → Int32, z = gw_u sg 4 (upd (sg 4) i (nI 0)) := ⟨_, rfl⟩
          rw [← esg4] at hP hD
          have hk : KG 8 9 11 sg0 sg4 := by rw [esg4]; exact hk.wa 4 (by omega) (by omega) _
          refine lv_aload_n hx hb dX0_takeOrders_41 rfl (lv_at hl 2 rfl) ?_
          refine gw_getr (C := RX0) (T := TX0) (N := 15) hx hb hts inwX0 hown hK hP 0 7 5 rfl rfl rfl (by decide) (hts _ a13) (fun _ h9 => h9) dX0_takeOrders_42 ?_
          refine lv_iload_n hx hb dX0_takeOrders_45 rfl (lv_at hl 1 rfl) ?_
          refine lv_iload_n hx hb dX0_takeOrders_46 rfl (lv_at hl 0 rfl) ?_
          refine lv_if_eq (tgt := 62) hx hb dX0_takeOrders_47 (by decide) (fun hc5 => ?_) (fun hc5 => ?_)
          · refine lv_iconst (v := (nI 0)) hx hb dX0_takeOrders_62 (by decide) ?_
            refine gw_ast hx hb hK hP hD hS 5 0 (n := 4) rfl rfl (i := i) (by omega) (by decide) dX0_takeOrders_63 (fun H locs hP hD hS => ?_)
            obtain ⟨sg6, esg6⟩ : ∃ z : Nat → Nat → Int32, z = gw_u sg4 5 (upd (sg4 5) i (nI 0)) := ⟨_, rfl⟩
            rw [← esg6] at hP hD
            have hk : KG 8 9 11 sg0 sg6 := by rw [esg6]; exact hk.wa 5 (by omega) (by omega) _
            refine lv_aload_n hx hb dX0_takeOrders_64 rfl (lv_at hl 2 rfl) ?_
            refine gw_getr (C := RX0) (T := TX0) (N := 15) hx hb hts inwX0 hown hK hP 0 8 6 rfl rfl rfl (by decide) (hts _ a14) (fun _ h9 => h9) dX0_takeOrders_65 ?_
            refine lv_iload_n hx hb dX0_takeOrders_68 rfl (lv_at hl 1 rfl) ?_
            refine lv_iload_n hx hb dX0_takeOrders_69 rfl (lv_at hl 0 rfl) ?_
            refine lv_if_eq (tgt := 85) hx hb dX0_takeOrders_70 (by decide) (fun hc7 => ?_) (fun hc7 => ?_)
            · refine lv_iconst (v := (nI 0)) hx hb dX0_takeOrders_85 (by decide) ?_
              refine gw_ast hx hb hK hP hD hS 6 0 (n := 4) rfl rfl (i := i) (by omega) (by decide) dX0_takeOrders_86 (fun H locs hP hD hS => ?_)
              obtain ⟨sg8, esg8⟩ : ∃ z : Nat → Nat → Int32, z = gw_u sg6 6 (upd (sg6 6) i (nI 0)) := ⟨_, rfl⟩
              rw [← esg8] at hP hD
              have hk : KG 8 9 11 sg0 sg8 := by rw [esg8]; exact hk.wa 6 (by omega) (by omega) _
              refine lv_iinc (k := 1) (v := (nI (i + 1))) (lv' := [(2, .int (nI (i + 1))), (3, .int (nI 0)), (0, .ref (ad 0)), (1, .int x1)]) hx hb dX0_takeOrders_87 hl rfl (nI_1 _) (by decide) rfl (fun ls hl => ?_)
              refine lv_goto (tgt := 2) hx hb dX0_takeOrders_90 (by decide) ?_
              exact ih _ (by omega) (i + 1) _ _ _ _ rfl (by omega) hk hP hD hS (lv_sub hl [0, 2, 3] rfl)
            · exact absurd hc7 (by decide)
          · exact absurd hc5 (by decide)
        · exact absurd hc3 (by decide)
      · refine lv_iconst (v := (nI 1)) hx hb dX0_takeOrders_12 (by decide) ?_
        refine lv_goto (tgt := 17) hx hb dX0_takeOrders_13 (by decide) ?_
        refine lv_istore_n (lv' := [(3, .int (nI 1)), (2, .int (nI i)), (0, .ref (ad 0)), (1, .int x1)]) hx hb dX0_takeOrders_17 rfl hl (by decide) rfl (fun ls hl => ?_)
        refine lv_aload_n hx hb dX0_takeOrders_18 rfl (lv_at hl 2 rfl) ?_
        refine gw_getr (C := RX0) (T := TX0) (N := 15) hx hb hts inwX0 hown hK hP 0 6 4 rfl rfl rfl (by decide) (hts _ a12) (fun _ h9 => h9) dX0_takeOrders_19 ?_
        refine lv_iload_n hx hb dX0_takeOrders_22 rfl (lv_at hl 1 rfl) ?_
        refine lv_iload_n hx hb dX0_takeOrders_23 rfl (lv_at hl 0 rfl) ?_
        refine lv_if_eq (tgt := 39) hx hb dX0_takeOrders_24 (by decide) (fun hc9 => ?_) (fun hc9 => ?_)
        · exact absurd hc9 (by decide)
        · refine lv_aload_n hx hb dX0_takeOrders_27 rfl (lv_at hl 2 rfl) ?_
          refine gw_getr (C := RX0) (T := TX0) (N := 15) hx hb hts inwX0 hown hK hP 0 0 8 rfl rfl rfl (by decide) (hts _ a6) (fun _ h9 => h9) dX0_takeOrders_28 ?_
          refine gw_getrN (C := RX1) (T := TX1) (N := 12) hx hb hts inwX1 hown hK hP 8 5 14 rfl rfl rfl (by decide) (hE.nest _ (.fieldLinkNest RX0 78 RX1 "least" "[I" RX2) (by decide +kernel) rfl) (fun _ h9 => h9) dX0_takeOrders_31 ?_
          refine lv_iload_n hx hb dX0_takeOrders_34 rfl (lv_at hl 1 rfl) ?_
          refine gw_ald hx hb hK hP 14 0 (n := 4) rfl rfl (i := i) (by omega) (by decide) dX0_takeOrders_35 ?_
          refine lv_topi (fun v10 hv10 => ?_)
          refine lv_goto (tgt := 40) hx hb dX0_takeOrders_36 (by decide) ?_
          refine gw_ast hx hb hK hP hD hS 4 0 (n := 4) rfl rfl (i := i) (by omega) (by decide) dX0_takeOrders_40 (fun H locs hP hD hS => ?_)
          obtain ⟨sg11, esg11⟩ : ∃ z : Nat → Nat → Int32, z = gw_u sg 4 (upd (sg 4) i v10) := ⟨_, rfl⟩
          rw [← esg11] at hP hD
          have hk : KG 8 9 11 sg0 sg11 := by rw [esg11]; exact hk.wa 4 (by omega) (by omega) _
          refine lv_aload_n hx hb dX0_takeOrders_41 rfl (lv_at hl 2 rfl) ?_
          refine gw_getr (C := RX0) (T := TX0) (N := 15) hx hb hts inwX0 hown hK hP 0 7 5 rfl rfl rfl (by decide) (hts _ a13) (fun _ h9 => h9) dX0_takeOrders_42 ?_
          refine lv_iload_n hx hb dX0_takeOrders_45 rfl (lv_at hl 1 rfl) ?_
          refine lv_iload_n hx hb dX0_takeOrders_46 rfl (lv_at hl 0 rfl) ?_
          refine lv_if_eq (tgt := 62) hx hb dX0_takeOrders_47 (by decide) (fun hc12 => ?_) (fun hc12 => ?_)
          · exact absurd hc12 (by decide)
          · refine lv_aload_n hx hb dX0_takeOrders_50 rfl (lv_at hl 2 rfl) ?_
            refine gw_getr (C := RX0) (T := TX0) (N := 15) hx hb hts inwX0 hown hK hP 0 0 8 rfl rfl rfl (by decide) (hts _ a6) (fun _ h9 => h9) dX0_takeOrders_51 ?_
            refine gw_getrN (C := RX1) (T := TX1) (N := 12) hx hb hts inwX1 hown hK hP 8 6 15 rfl rfl rfl (by decide) (hE.nest _ (.fieldLinkNest RX0 79 RX1 "most" "[I" RX2) (by decide +kernel) rfl) (fun _ h9 => h9) dX0_takeOrders_54 ?_
            refine lv_iload_n hx hb dX0_takeOrders_57 rfl (lv_at hl 1 rfl) ?_
            refine gw_ald hx hb hK hP 15 0 (n := 4) rfl rfl (i := i) (by omega) (by decide) dX0_takeOrders_58 ?_
            refine lv_topi (fun v13 hv13 => ?_)
            refine lv_goto (tgt := 63) hx hb dX0_takeOrders_59 (by decide) ?_
            refine gw_ast hx hb hK hP hD hS 5 0 (n := 4) rfl rfl (i := i) (by omega) (by decide) dX0_takeOrders_63 (fun H locs hP hD hS => ?_)
            obtain ⟨sg14, esg14⟩ : ∃ z : Nat → Nat → Int32, z = gw_u sg11 5 (upd (sg11 5) i v13) := ⟨_, rfl⟩
            rw [← esg14] at hP hD
            have hk : KG 8 9 11 sg0 sg14 := by rw [esg14]; exact hk.wa 5 (by omega) (by omega) _
            refine lv_aload_n hx hb dX0_takeOrders_64 rfl (lv_at hl 2 rfl) ?_
            refine gw_getr (C := RX0) (T := TX0) (N := 15) hx hb hts inwX0 hown hK hP 0 8 6 rfl rfl rfl (by decide) (hts _ a14) (fun _ h9 => h9) dX0_takeOrders_65 ?_
            refine lv_iload_n hx hb dX0_takeOrders_68 rfl (lv_at hl 1 rfl) ?_
            refine lv_iload_n hx hb dX0_takeOrders_69 rfl (lv_at hl 0 rfl) ?_
            refine lv_if_eq (tgt := 85) hx hb dX0_takeOrders_70 (by decide) (fun hc15 => ?_) (fun hc15 => ?_)
            · exact absurd hc15 (by decide)
            · refine lv_aload_n hx hb dX0_takeOrders_73 rfl (lv_at hl 2 rfl) ?_
              refine gw_getr (C := RX0) (T := TX0) (N := 15) hx hb hts inwX0 hown hK hP 0 0 8 rfl rfl rfl (by decide) (hts _ a6) (fun _ h9 => h9) dX0_takeOrders_74 ?_
              refine gw_getrN (C := RX1) (T := TX1) (N := 12) hx hb hts inwX1 hown hK hP 8 7 16 rfl rfl rfl (by decide) (hE.nest _ (.fieldLinkNest RX0 80 RX1 "worth" "[I" RX2) (by decide +kernel) rfl) (fun _ h9 => h9) dX0_takeOrders_77 ?_
              refine lv_iload_n hx hb dX0_takeOrders_80 rfl (lv_at hl 1 rfl) ?_
              refine gw_ald hx hb hK hP 16 0 (n := 4) rfl rfl (i := i) (by omega) (by decide) dX0_takeOrders_81 ?_
              refine lv_topi (fun v16 hv16 => ?_)
              refine lv_goto (tgt := 86) hx hb dX0_takeOrders_82 (by decide) ?_
              refine gw_ast hx hb hK hP hD hS 6 0 (n := 4) rfl rfl (i := i) (by omega) (by decide) dX0_takeOrders_86 (fun H locs hP hD hS => ?_)
              obtain ⟨sg17, esg17⟩ : ∃ z : Nat → Nat → Int32, z = gw_u sg14 6 (upd (sg14 6) i v16) := ⟨_, rfl⟩
              rw [← esg17] at hP hD
              have hk : KG 8 9 11 sg0 sg17 := by rw [esg17]; exact hk.wa 6 (by omega) (by omega) _
              refine lv_iinc (k := 1) (v := (nI (i + 1))) (lv' := [(2, .int (nI (i + 1))), (3, .int (nI 1)), (0, .ref (ad 0)), (1, .int x1)]) hx hb dX0_takeOrders_87 hl rfl (nI_1 _) (by decide) rfl (fun ls hl => ?_)
              refine lv_goto (tgt := 2) hx hb dX0_takeOrders_90 (by decide) ?_
              exact ih _ (by omega) (i + 1) _ _ _ _ rfl (by omega) hk hP hD hS (lv_sub hl [0, 2, 3] rfl)
  refine lv_iconst (v := (nI 0)) hx hb dX0_takeOrders_0 (by decide) ?_
  refine lv_istore_n (lv' := [(2, .int (nI 0)), (0, .ref (ad 0)), (1, .int x1)]) hx hb dX0_takeOrders_1 rfl hl (by decide) rfl (fun ls hl => ?_)
  exact c2 _ 0 _ _ _ _ rfl (by omega) hk hP hD hS (lv_sub hl [0, 1, 2] rfl)
abbrev rmX0_minutesOfNextLog : Room := { frames := 0, cells := 0, slots := 0, locals := 0 }
set_option maxRecDepth 100000 in
set_option maxHeartbeats 4000000 in
theorem m_X0_minutesOfNextLog (l : Launch) (hl9 : l.stackTraces = false) (D : va_G) (cI : ClassId) (cJ : ClassId × ClassId) (ad : Nat → Nat) (sg0 : Nat → Nat → Int32) (sz : Nat) (pn : Nat) (hpn : pn < 6) (hI : IvG 8 9 11 sg0) : gc_M l yX0_minutesOfNextLog wsX0_minutesOfNextLog rmX0_minutesOfNextLog D vwCl (tyS cI cJ) cI cJ gxT gxN SS [.ref (ad 0), .int (nI pn)] ad sg0 sz 0 0 (fun v sg2 => KG 8 9 11 sg0 sg2 ∧ ∃ r : Int32, v = some (.int r)) := by
  refine gc_Mi_of (cc := cX0_minutesOfNextLog) (maxL := 3) (by decide) rfl (Nat.le_of_ble_eq_true rfl) ?_
  intro p e s m below meth c A ls Q hin hE hret
  obtain ⟨⟨hx, hb, hml, hown, hts⟩, -, hlocks, -, hA, hP, hK, hD, hS, hl⟩ := hin
  have hts : ∀ w ∈ wsAll, w.before ([.ref (ad 0), .int (nI pn)] : List Value).toArray s = true := fun w h => hts w (List.mem_cons_of_mem _ h)
  have hl : lv_has ls 3 [(0, .ref (ad 0)), (1, .int (nI pn))] := hl
  have hk := KG.refl hI
  refine lv_aload_n hx hb dX0_minutesOfNextLog_0 rfl (lv_at hl 0 rfl) ?_
  refine gw_getr (C := RX0) (T := TX0) (N := 15) hx hb hts inwX0 hown hK hP 0 0 8 rfl rfl rfl (by decide) (hts _ a6) (fun _ h9 => h9) dX0_minutesOfNextLog_1 ?_
  refine gw_getrN (C := RX1) (T := TX1) (N := 12) hx hb hts inwX1 hown hK hP 8 3 12 rfl rfl rfl (by decide) (hE.nest _ (.fieldLinkNest RX0 107 RX1 "minutesALog" "[I" RX2) (by decide +kernel) rfl) (fun _ h9 => h9) dX0_minutesOfNextLog_4 ?_
  refine lv_iload_n hx hb dX0_minutesOfNextLog_7 rfl (lv_at hl 1 rfl) ?_
  refine gw_ald hx hb hK hP 12 0 (n := 6) rfl rfl (i := pn) (by omega) (by decide) dX0_minutesOfNextLog_8 ?_
  refine lv_topi (fun v1 hv1 => ?_)
  refine lv_istore_n (lv' := [(2, .int v1), (0, .ref (ad 0)), (1, .int (nI pn))]) hx hb dX0_minutesOfNextLog_9 rfl hl (by decide) rfl (fun ls hl => ?_)
  refine lv_aload_n hx hb dX0_minutesOfNextLog_10 rfl (lv_at hl 1 rfl) ?_
  refine gw_getr (C := RX0) (T := TX0) (N := 15) hx hb hts inwX0 hown hK hP 0 1 1 rfl rfl rfl (by decide) (hts _ a11) (fun _ h9 => h9) dX0_minutesOfNextLog_11 ?_
  refine lv_iload_n hx hb dX0_minutesOfNextLog_14 rfl (lv_at hl 2 rfl) ?_
  refine gw_ald hx hb hK hP 1 0 (n := 6) rfl rfl (i := pn) (by omega) (by decide) dX0_minutesOfNextLog_15 ?_
  refine lv_topi (fun v2 hv2 => ?_)
  refine lv_if_ne (tgt := 31) hx hb dX0_minutesOfNextLog_16 (by decide) (fun hc3 => ?_) (fun hc3 => ?_)
  · refine lv_iload_n hx hb dX0_minutesOfNextLog_31 rfl (lv_at hl 0 rfl) ?_
    exact hret _ _ _ _ _ _ hP hS dX0_minutesOfNextLog_32 (⟨hk, _, rfl⟩)
  · refine lv_iload_n hx hb dX0_minutesOfNextLog_19 rfl (lv_at hl 0 rfl) ?_
    refine lv_aload_n hx hb dX0_minutesOfNextLog_20 rfl (lv_at hl 1 rfl) ?_
    refine gw_getr (C := RX0) (T := TX0) (N := 15) hx hb hts inwX0 hown hK hP 0 0 8 rfl rfl rfl (by decide) (hts _ a6) (fun _ h9 => h9) dX0_minutesOfNextLog_21 ?_
    refine gw_getiN (C := RX1) (T := TX1) (N := 12) hx hb hts inwX1 hown hK hP 8 11 rfl rfl rfl (by decide) (hE.nest _ (.fieldLinkNest RX0 110 RX1 "change" "I" RX2) (by decide +kernel) rfl) (fun _ h9 => h9) dX0_minutesOfNextLog_24 ?_
    refine lv_topi (fun v4 hv4 => ?_)
    refine lv_iadd hx hb dX0_minutesOfNextLog_27 ?_
    refine lv_topi (fun v5 hv5 => ?_)
    refine lv_goto (tgt := 32) hx hb dX0_minutesOfNextLog_28 (by decide) ?_
    exact hret _ _ _ _ _ _ hP hS dX0_minutesOfNextLog_32 (⟨hk, _, rfl⟩)
abbrev rmX0_oneLogMoreFits : Room := { frames := 1, cells := 0, slots := 0, locals := 22 }
set_option maxRecDepth 100000 in
set_option maxHeartbeats 4000000 in
theorem m_X0_oneLogMoreFits (l : Launch) (hl9 : l.stackTraces = false) (D : va_G) (cI : ClassId) (cJ : ClassId × ClassId) (ad : Nat → Nat) (sg0 : Nat → Nat → Int32) (sz : Nat) (pn : Nat) (hpn : pn < 6) (hI : IvG 8 9 11 sg0) : gc_M l yX0_oneLogMoreFits wsX0_oneLogMoreFits rmX0_oneLogMoreFits D vwCl (tyS cI cJ) cI cJ gxT gxN SS [.ref (ad 0), .int (nI pn)] ad sg0 sz 0 0 (fun v sg2 => KG 8 9 11 sg0 sg2 ∧ ∃ r : Int32, v = some (.int r)) := by
  refine gc_Mz_of (cc := cX0_oneLogMoreFits) (maxL := 2) (by decide) rfl (Nat.le_of_ble_eq_true rfl) ?_
  intro p e s m below meth c A ls Q hin hE hret
  obtain ⟨⟨hx, hb, hml, hown, hts⟩, -, hlocks, -, hA, hP, hK, hD, hS, hl⟩ := hin
  have hts : ∀ w ∈ wsAll, w.before ([.ref (ad 0), .int (nI pn)] : List Value).toArray s = true := fun w h => hts w (List.mem_cons_of_mem _ h)
  have hl : lv_has ls 2 [(0, .ref (ad 0)), (1, .int (nI pn))] := hl
  have hk := KG.refl hI
  refine lv_aload_n hx hb dX0_oneLogMoreFits_0 rfl (lv_at hl 0 rfl) ?_
  refine gw_getr (C := RX0) (T := TX0) (N := 15) hx hb hts inwX0 hown hK hP 0 2 2 rfl rfl rfl (by decide) (hts _ a10) (fun _ h9 => h9) dX0_oneLogMoreFits_1 ?_
  refine lv_aload_n hx hb dX0_oneLogMoreFits_4 rfl (lv_at hl 0 rfl) ?_
  refine gw_getr (C := RX0) (T := TX0) (N := 15) hx hb hts inwX0 hown hK hP 0 0 8 rfl rfl rfl (by decide) (hts _ a6) (fun _ h9 => h9) dX0_oneLogMoreFits_5 ?_
  refine gw_getrN (C := RX1) (T := TX1) (N := 12) hx hb hts inwX1 hown hK hP 8 2 11 rfl rfl rfl (by decide) (hE.nest _ (.fieldLinkNest RX0 100 RX1 "classOf" "[I" RX2) (by decide +kernel) rfl) (fun _ h9 => h9) dX0_oneLogMoreFits_8 ?_
  refine lv_iload_n hx hb dX0_oneLogMoreFits_11 rfl (lv_at hl 1 rfl) ?_
  refine gw_ald hx hb hK hP 11 0 (n := 6) rfl rfl (i := pn) (by omega) (by decide) dX0_oneLogMoreFits_12 ?_
  obtain ⟨cf1, hcf1, ecf1⟩ := hk.1.2 pn (by omega)
  refine gw_top (y := (nI cf1)) (ecf1) ?_
  refine gw_ald hx hb hK hP 2 0 (n := 4) rfl rfl (i := cf1) (by omega) (by decide) dX0_oneLogMoreFits_13 ?_
  refine lv_topi (fun v2 hv2 => ?_)
  refine lv_if_le (tgt := 33) hx hb dX0_oneLogMoreFits_14 (by decide) (fun hc3 => ?_) (fun hc3 => ?_)
  · refine lv_iconst (v := (nI 0)) hx hb dX0_oneLogMoreFits_33 (by decide) ?_
    exact hret _ _ _ _ _ _ hP hS dX0_oneLogMoreFits_34 rfl (⟨hk, _, rfl⟩)
  · refine lv_aload_n hx hb dX0_oneLogMoreFits_17 rfl (lv_at hl 0 rfl) ?_
    refine lv_iload_n hx hb dX0_oneLogMoreFits_18 rfl (lv_at hl 1 rfl) ?_
    refine gc_go0 (va_runV (As := [.int (nI pn)]) (rest := []) ⟨hx, hb, hml, hown, hts⟩ (m_X0_minutesOfNextLog l hl9 D cI cJ ad sg0 _ pn (by omega) hk.1) (cwV 1 hts (gwV a15 a16 a17 a18 a19) rfl rfl rfl (by decide +kernel) ⟨by decide, by decide⟩) (gc_preV0 hK hP hD hS hA hE rfl rfl rfl) rfl rfl hl.1 rfl (lv_room (Nat.le_of_ble_eq_true rfl)) dX0_oneLogMoreFits_19 ⟨by decide, by decide⟩) hD hS hA (fun v4 sg6 H locs hp7 hP hD hS => ?_)
    obtain ⟨hk1, r10, rfl⟩ := hp7
    have hk := hk.trans hk1
    refine W.eq (g2 := F0 m 22 ls [.int r10]) rfl ?_
    refine lv_aload_n hx hb dX0_oneLogMoreFits_22 rfl (lv_at hl 0 rfl) ?_
    refine gw_geti (C := RX0) (T := TX0) (N := 15) hx hb hts inwX0 hown hK hP 0 4 rfl rfl rfl (by decide) (hts _ a7) (fun _ h9 => h9) dX0_oneLogMoreFits_23 ?_
    refine lv_topi (fun v11 hv11 => ?_)
    refine lv_icmp_gt (tgt := 33) hx hb dX0_oneLogMoreFits_26 (by decide) (fun hc12 => ?_) (fun hc12 => ?_)
    · refine lv_iconst (v := (nI 0)) hx hb dX0_oneLogMoreFits_33 (by decide) ?_
      exact hret _ _ _ _ _ _ hP hS dX0_oneLogMoreFits_34 rfl (⟨hk, _, rfl⟩)
    · refine lv_iconst (v := (nI 1)) hx hb dX0_oneLogMoreFits_29 (by decide) ?_
      refine lv_goto (tgt := 34) hx hb dX0_oneLogMoreFits_30 (by decide) ?_
      exact hret _ _ _ _ _ _ hP hS dX0_oneLogMoreFits_34 rfl (⟨hk, _, rfl⟩)
abbrev rmX0_addLog : Room := { frames := 1, cells := 0, slots := 0, locals := 22 }
set_option maxRecDepth 100000 in
set_option maxHeartbeats 4000000 in
theorem m_X0_addLog (l : Launch) (hl9 : l.stackTraces = false) (D : va_G) (cI : ClassId) (cJ : ClassId × ClassId) (ad : Nat → Nat) (sg0 : Nat → Nat → Int32) (sz : Nat) (pn : Nat) (hpn : pn < 6) (hI : IvG 8 9 11 sg0) : gc_M l yX0_addLog wsX0_addLog rmX0_addLog D vwCl (tyS cI cJ) cI cJ gxT gxN SS [.ref (ad 0), .int (nI pn)] ad sg0 sz 0 0 (fun v sg2 => KG 8 9 11 sg0 sg2 ∧ v = none) := by
  refine gc_Mv_of (cc := cX0_addLog) (maxL := 4) (by decide) rfl (Nat.le_of_ble_eq_true rfl) ?_
  intro p e s m below meth c A ls Q hin hE hret
  obtain ⟨⟨hx, hb, hml, hown, hts⟩, -, hlocks, -, hA, hP, hK, hD, hS, hl⟩ := hin
  have hts : ∀ w ∈ wsAll, w.before ([.ref (ad 0), .int (nI pn)] : List Value).toArray s = true := fun w h => hts w (List.mem_cons_of_mem _ h)
  have hl : lv_has ls 4 [(0, .ref (ad 0)), (1, .int (nI pn))] := hl
  have hk := KG.refl hI
  have c64 : ∀ (n9 : Nat) (i : Nat) (sg : Nat → Nat → Int32) (H : Heap) (locs : List Loc) (ls : Array Slot), 4 - i = n9 → i ≤ 4 → (KG 8 9 11 sg0 sg) → va_P D vwCl (gw cI cJ ad sg SS) H → va_D A (gw cI cJ ad sg SS) → va_S A s.heap H locs → lv_has ls 4 [(3, .int (nI i)), (0, .ref (ad 0)), (1, .int (nI pn))] → W p l e rmX0_addLog s m ([.ref (ad 0), .int (nI pn)] : List Value).toArray below meth c H locs 0 0 Q (F0 m 64 ls []) := by
    intro n9
    induction n9 using Nat.strongRecOn with
    | ind n9 ih =>
    intro i sg H locs ls hn h1 hk hP hD hS hl
    subst hn
    refine lv_iload_n hx hb dX0_addLog_64 rfl (lv_at hl 0 rfl) ?_
    refine lv_iconst (v := (nI 4)) hx hb dX0_addLog_65 (by decide) ?_
    refine lv_icmp_ge (tgt := 95) hx hb dX0_addLog_66 (by decide) (fun hc1 => ?_) (fun hc1 => ?_)
    · have hc1 : 4 ≤ i := (nI_leI (a := 4) (b := i) (by omega) (by omega)).mp hc1
      exact hret _ _ _ _ _ hP hS dX0_addLog_95 (⟨hk, rfl⟩)
    · have hc1 : ¬ (4 ≤ i) := fun q => hc1 ((nI_leI (a := 4) (b := i) (by omega) (by omega)).mpr q)
      refine lv_aload_n hx hb dX0_addLog_69 rfl (lv_at hl 1 rfl) ?_
      refine gw_getr (C := RX0) (T := TX0) (N := 15) hx hb hts inwX0 hown hK hP 0 3 3 rfl rfl rfl (by decide) (hts _ a9) (fun _ h9 => h9) dX0_addLog_70 ?_
      refine lv_iload_n hx hb dX0_addLog_73 rfl (lv_at hl 0 rfl) ?_
      refine lv_dup2_11 hx hb dX0_addLog_74 rfl rfl ?_
      refine gw_ald hx hb hK hP 3 0 (n := 4) rfl rfl (i := i) (by omega) (by decide) dX0_addLog_75 ?_
      refine lv_topi (fun v2 hv2 => ?_)
      refine lv_aload_n hx hb dX0_addLog_76 rfl (lv_at hl 1 rfl) ?_
      refine gw_getr (C := RX0) (T := TX0) (N := 15) hx hb hts inwX0 hown hK hP 0 0 8 rfl rfl rfl (by decide) (hts _ a6) (fun _ h9 => h9) dX0_addLog_77 ?_
      refine gw_getrN (C := RX1) (T := TX1) (N := 12) hx hb hts inwX1 hown hK hP 8 4 13 rfl rfl rfl (by decide) (hE.nest _ (.fieldLinkNest RX0 116 RX1 "boardsALog" "[[I" RX2) (by decide +kernel) rfl) (fun _ h9 => h9) dX0_addLog_80 ?_
      refine lv_iload_n hx hb dX0_addLog_83 rfl (lv_at hl 2 rfl) ?_
      refine gw_aald hx hb hK hP 13 1 (n := 6) (b := 18) rfl rfl rfl (i := pn) (by omega) (by decide) dX0_addLog_84 ?_
      refine lv_iload_n hx hb dX0_addLog_85 rfl (lv_at hl 0 rfl) ?_
      refine gw_ald hx hb hK hP (18 + pn) 0 (n := 4) (rowSS _ (by omega)) rfl (i := i) (by omega) (by decide) dX0_addLog_86 ?_
      refine lv_topi (fun v3 hv3 => ?_)
      refine lv_iadd hx hb dX0_addLog_87 ?_
      refine lv_topi (fun v4 hv4 => ?_)
      refine gw_ast hx hb hK hP hD hS 3 0 (n := 4) rfl rfl (i := i) (by omega) (by decide) dX0_addLog_88 (fun H locs hP hD hS => ?_)
      obtain ⟨sg5, esg5⟩ : ∃ z : Nat → Nat → Int32, z = gw_u sg 3 (upd (sg 3) i v4) := ⟨_, rfl⟩
      rw [← esg5] at hP hD
      have hk : KG 8 9 11 sg0 sg5 := by rw [esg5]; exact hk.wa 3 (by omega) (by omega) _
      refine lv_iinc (k := 0) (v := (nI (i + 1))) (lv' := [(3, .int (nI (i + 1))), (0, .ref (ad 0)), (1, .int (nI pn))]) hx hb dX0_addLog_89 hl rfl (nI_1 _) (by decide) rfl (fun ls hl => ?_)
      refine lv_goto (tgt := 64) hx hb dX0_addLog_92 (by decide) ?_
      exact ih _ (by omega) (i + 1) _ _ _ _ rfl (by omega) hk hP hD hS (lv_sub hl [0, 1, 2] rfl)
  refine lv_aload_n hx hb dX0_addLog_0 rfl (lv_at hl 0 rfl) ?_
  refine gw_getr (C := RX0) (T := TX0) (N := 15) hx hb hts inwX0 hown hK hP 0 0 8 rfl rfl rfl (by decide) (hts _ a6) (fun _ h9 => h9) dX0_addLog_1 ?_
  refine gw_getrN (C := RX1) (T := TX1) (N := 12) hx hb hts inwX1 hown hK hP 8 2 11 rfl rfl rfl (by decide) (hE.nest _ (.fieldLinkNest RX0 100 RX1 "classOf" "[I" RX2) (by decide +kernel) rfl) (fun _ h9 => h9) dX0_addLog_4 ?_
  refine lv_iload_n hx hb dX0_addLog_7 rfl (lv_at hl 1 rfl) ?_
  refine gw_ald hx hb hK hP 11 0 (n := 6) rfl rfl (i := pn) (by omega) (by decide) dX0_addLog_8 ?_
  obtain ⟨cf6, hcf6, ecf6⟩ := hk.1.2 pn (by omega)
  refine gw_top (y := (nI cf6)) (ecf6) ?_
  refine lv_istore_n (lv' := [(2, .int (nI cf6)), (0, .ref (ad 0)), (1, .int (nI pn))]) hx hb dX0_addLog_9 rfl hl (by decide) rfl (fun ls hl => ?_)
  refine lv_aload_n hx hb dX0_addLog_10 rfl (lv_at hl 1 rfl) ?_
  refine lv_dup hx hb dX0_addLog_11 rfl ?_
  refine gw_geti (C := RX0) (T := TX0) (N := 15) hx hb hts inwX0 hown hK hP 0 4 rfl rfl rfl (by decide) (hts _ a7) (fun _ h9 => h9) dX0_addLog_12 ?_
  refine lv_topi (fun v7 hv7 => ?_)
  refine lv_aload_n hx hb dX0_addLog_15 rfl (lv_at hl 1 rfl) ?_
  refine lv_iload_n hx hb dX0_addLog_16 rfl (lv_at hl 2 rfl) ?_
  refine gc_go0 (va_runV (As := [.int (nI pn)]) (rest := [.int v7, .ref (ad 0)]) ⟨hx, hb, hml, hown, hts⟩ (m_X0_minutesOfNextLog l hl9 D cI cJ ad sg0 _ pn (by omega) hk.1) (cwV 1 hts (gwV a15 a16 a17 a18 a19) rfl rfl rfl (by decide +kernel) ⟨by decide, by decide⟩) (gc_preV0 hK hP hD hS hA hE rfl rfl rfl) rfl rfl hl.1 rfl (lv_room (Nat.le_of_ble_eq_true rfl)) dX0_addLog_17 ⟨by decide, by decide⟩) hD hS hA (fun v8 sg10 H locs hp11 hP hD hS => ?_)
  obtain ⟨hk1, r14, rfl⟩ := hp11
  have hk := hk.trans hk1
  refine W.eq (g2 := F0 m 20 ls [.int r14, .int v7, .ref (ad 0)]) rfl ?_
  refine lv_isub hx hb dX0_addLog_20 ?_
  refine lv_topi (fun v15 hv15 => ?_)
  refine gw_put (C := RX0) (T := TX0) (N := 15) (ty := .int) hx hb hts inwX0 tyX0 tyX0_ok nmX0 hown hK hP hD hS 0 4 rfl rfl rfl (by decide) (hts _ a7) (fun _ h9 => h9) rfl (by decide +kernel) rfl rfl dX0_addLog_21 (fun H locs hP hD hS => ?_)
  obtain ⟨sg16, esg16⟩ : ∃ z : Nat → Nat → Int32, z = gw_u sg10 0 (upd (sg10 0) 4 v15) := ⟨_, rfl⟩
  rw [← esg16] at hP hD
  have hk : KG 8 9 11 sg0 sg16 := by rw [esg16]; exact hk.wa 0 (by omega) (by omega) _
  refine lv_aload_n hx hb dX0_addLog_24 rfl (lv_at hl 1 rfl) ?_
  refine gw_getr (C := RX0) (T := TX0) (N := 15) hx hb hts inwX0 hown hK hP 0 2 2 rfl rfl rfl (by decide) (hts _ a10) (fun _ h9 => h9) dX0_addLog_25 ?_
  refine lv_iload_n hx hb dX0_addLog_28 rfl (lv_at hl 0 rfl) ?_
  refine lv_dup2_11 hx hb dX0_addLog_29 rfl rfl ?_
  refine gw_ald hx hb hK hP 2 0 (n := 4) rfl rfl (i := cf6) (by omega) (by decide) dX0_addLog_30 ?_
  refine lv_topi (fun v17 hv17 => ?_)
  refine lv_iconst (v := (nI 1)) hx hb dX0_addLog_31 (by decide) ?_
  refine lv_isub hx hb dX0_addLog_32 ?_
  refine lv_topi (fun v18 hv18 => ?_)
  refine gw_ast hx hb hK hP hD hS 2 0 (n := 4) rfl rfl (i := cf6) (by omega) (by decide) dX0_addLog_33 (fun H locs hP hD hS => ?_)
  obtain ⟨sg19, esg19⟩ : ∃ z : Nat → Nat → Int32, z = gw_u sg16 2 (upd (sg16 2) cf6 v18) := ⟨_, rfl⟩
  rw [← esg19] at hP hD
  have hk : KG 8 9 11 sg0 sg19 := by rw [esg19]; exact hk.wa 2 (by omega) (by omega) _
  refine lv_aload_n hx hb dX0_addLog_34 rfl (lv_at hl 1 rfl) ?_
  refine lv_dup hx hb dX0_addLog_35 rfl ?_
  refine gw_geti (C := RX0) (T := TX0) (N := 15) hx hb hts inwX0 hown hK hP 0 5 rfl rfl rfl (by decide) (hts _ a8) (fun _ h9 => h9) dX0_addLog_36 ?_
  refine lv_topi (fun v20 hv20 => ?_)
  refine lv_aload_n hx hb dX0_addLog_39 rfl (lv_at hl 1 rfl) ?_
  refine gw_getr (C := RX0) (T := TX0) (N := 15) hx hb hts inwX0 hown hK hP 0 0 8 rfl rfl rfl (by decide) (hts _ a6) (fun _ h9 => h9) dX0_addLog_40 ?_
  refine gw_getrN (C := RX1) (T := TX1) (N := 12) hx hb hts inwX1 hown hK hP 8 1 10 rfl rfl rfl (by decide) (hE.nest _ (.fieldLinkNest RX0 113 RX1 "centsALog" "[I" RX2) (by decide +kernel) rfl) (fun _ h9 => h9) dX0_addLog_43 ?_
  refine lv_iload_n hx hb dX0_addLog_46 rfl (lv_at hl 0 rfl) ?_
  refine gw_ald hx hb hK hP 10 0 (n := 4) rfl rfl (i := cf6) (by omega) (by decide) dX0_addLog_47 ?_
  refine lv_topi (fun v21 hv21 => ?_)
  refine lv_iadd hx hb dX0_addLog_48 ?_
  refine lv_topi (fun v22 hv22 => ?_)
  refine gw_put (C := RX0) (T := TX0) (N := 15) (ty := .int) hx hb hts inwX0 tyX0 tyX0_ok nmX0 hown hK hP hD hS 0 5 rfl rfl rfl (by decide) (hts _ a8) (fun _ h9 => h9) rfl (by decide +kernel) rfl rfl dX0_addLog_49 (fun H locs hP hD hS => ?_)
  obtain ⟨sg23, esg23⟩ : ∃ z : Nat → Nat → Int32, z = gw_u sg19 0 (upd (sg19 0) 5 v22) := ⟨_, rfl⟩
  rw [← esg23] at hP hD
  have hk : KG 8 9 11 sg0 sg23 := by rw [esg23]; exact hk.wa 0 (by omega) (by omega) _
  refine lv_aload_n hx hb dX0_addLog_52 rfl (lv_at hl 1 rfl) ?_
  refine gw_getr (C := RX0) (T := TX0) (N := 15) hx hb hts inwX0 hown hK hP 0 1 1 rfl rfl rfl (by decide) (hts _ a11) (fun _ h9 => h9) dX0_addLog_53 ?_
  refine lv_iload_n hx hb dX0_addLog_56 rfl (lv_at hl 2 rfl) ?_
  refine lv_dup2_11 hx hb dX0_addLog_57 rfl rfl ?_
  refine gw_ald hx hb hK hP 1 0 (n := 6) rfl rfl (i := pn) (by omega) (by decide) dX0_addLog_58 ?_
  refine lv_topi (fun v24 hv24 => ?_)
  refine lv_iconst (v := (nI 1)) hx hb dX0_addLog_59 (by decide) ?_
  refine lv_iadd hx hb dX0_addLog_60 ?_
  refine lv_topi (fun v25 hv25 => ?_)
  refine gw_ast hx hb hK hP hD hS 1 0 (n := 6) rfl rfl (i := pn) (by omega) (by decide) dX0_addLog_61 (fun H locs hP hD hS => ?_)
  obtain ⟨sg26, esg26⟩ : ∃ z : Nat → Nat → Int32, z = gw_u sg23 1 (upd (sg23 1) pn v25) := ⟨_, rfl⟩
  rw [← esg26] at hP hD
  have hk : KG 8 9 11 sg0 sg26 := by rw [esg26]; exact hk.wa 1 (by omega) (by omega) _
  refine lv_iconst (v := (nI 0)) hx hb dX0_addLog_62 (by decide) ?_
  refine lv_istore_n (lv' := [(3, .int (nI 0)), (2, .int (nI cf6)), (0, .ref (ad 0)), (1, .int (nI pn))]) hx hb dX0_addLog_63 rfl hl (by decide) rfl (fun ls hl => ?_)
  exact c64 _ 0 _ _ _ _ rfl (by omega) hk hP hD hS (lv_sub hl [0, 2, 3] rfl)
abbrev rmX0_takeLogsBack : Room := { frames := 0, cells := 0, slots := 0, locals := 0 }
set_option maxRecDepth 100000 in
set_option maxHeartbeats 4000000 in
theorem m_X0_takeLogsBack (l : Launch) (hl9 : l.stackTraces = false) (D : va_G) (cI : ClassId) (cJ : ClassId × ClassId) (ad : Nat → Nat) (sg0 : Nat → Nat → Int32) (sz : Nat) (pn : Nat) (hpn : pn < 6) (hI : IvG 8 9 11 sg0) : gc_M l yX0_takeLogsBack wsX0_takeLogsBack rmX0_takeLogsBack D vwCl (tyS cI cJ) cI cJ gxT gxN SS [.ref (ad 0), .int (nI pn)] ad sg0 sz 0 0 (fun v sg2 => KG 8 9 11 sg0 sg2 ∧ v = none) := by
  refine gc_Mv_of (cc := cX0_takeLogsBack) (maxL := 5) (by decide) rfl (Nat.le_of_ble_eq_true rfl) ?_
  intro p e s m below meth c A ls Q hin hE hret
  obtain ⟨⟨hx, hb, hml, hown, hts⟩, -, hlocks, -, hA, hP, hK, hD, hS, hl⟩ := hin
  have hts : ∀ w ∈ wsAll, w.before ([.ref (ad 0), .int (nI pn)] : List Value).toArray s = true := fun w h => hts w (List.mem_cons_of_mem _ h)
  have hl : lv_has ls 5 [(0, .ref (ad 0)), (1, .int (nI pn))] := hl
  have hk := KG.refl hI
  have c90 : ∀ (n9 : Nat) (i : Nat) (x2 : Int32) (sg : Nat → Nat → Int32) (H : Heap) (locs : List Loc) (ls : Array Slot), 4 - i = n9 → i ≤ 4 → (KG 8 9 11 sg0 sg) → va_P D vwCl (gw cI cJ ad sg SS) H → va_D A (gw cI cJ ad sg SS) → va_S A s.heap H locs → lv_has ls 5 [(4, .int (nI i)), (0, .ref (ad 0)), (1, .int (nI pn)), (2, .int x2)] → W p l e rmX0_takeLogsBack s m ([.ref (ad 0), .int (nI pn)] : List Value).toArray below meth c H locs 0 0 Q (F0 m 90 ls []) := by
    intro n9
    induction n9 using Nat.strongRecOn with
    | ind n9 ih =>
    intro i x2 sg H locs ls hn h1 hk hP hD hS hl
    subst hn
    refine lv_iload hx hb dX0_takeLogsBack_90 (lv_at hl 0 rfl) ?_
    refine lv_iconst (v := (nI 4)) hx hb dX0_takeLogsBack_92 (by decide) ?_
    refine lv_icmp_ge (tgt := 126) hx hb dX0_takeLogsBack_93 (by decide) (fun hc1 => ?_) (fun hc1 => ?_)
    · have hc1 : 4 ≤ i := (nI_leI (a := 4) (b := i) (by omega) (by omega)).mp hc1
      exact hret _ _ _ _ _ hP hS dX0_takeLogsBack_126 (⟨hk, rfl⟩)
    · have hc1 : ¬ (4 ≤ i) := fun q => hc1 ((nI_leI (a := 4) (b := i) (by omega) (by omega)).mpr q)
      refine lv_aload_n hx hb dX0_takeLogsBack_96 rfl (lv_at hl 1 rfl) ?_
      refine gw_getr (C := RX0) (T := TX0) (N := 15) hx hb hts inwX0 hown hK hP 0 3 3 rfl rfl rfl (by decide) (hts _ a9) (fun _ h9 => h9) dX0_takeLogsBack_97 ?_
      refine lv_iload hx hb dX0_takeLogsBack_100 (lv_at hl 0 rfl) ?_
      refine lv_dup2_11 hx hb dX0_takeLogsBack_102 rfl rfl ?_
      refine gw_ald hx hb hK hP 3 0 (n := 4) rfl rfl (i := i) (by omega) (by decide) dX0_takeLogsBack_103 ?_
      refine lv_topi (fun v2 hv2 => ?_)
      refine lv_iload_n hx hb dX0_takeLogsBack_104 rfl (lv_at hl 3 rfl) ?_
      refine lv_aload_n hx hb dX0_takeLogsBack_105 rfl (lv_at hl 1 rfl) ?_
      refine gw_getr (C := RX0) (T := TX0) (N := 15) hx hb hts inwX0 hown hK hP 0 0 8 rfl rfl rfl (by decide) (hts _ a6) (fun _ h9 => h9) dX0_takeLogsBack_106 ?_
      refine gw_getrN (C := RX1) (T := TX1) (N := 12) hx hb hts inwX1 hown hK hP 8 4 13 rfl rfl rfl (by decide) (hE.nest _ (.fieldLinkNest RX0 116 RX1 "boardsALog" "[[I" RX2) (by decide +kernel) rfl) (fun _ h9 => h9) dX0_takeLogsBack_109 ?_
      refine lv_iload_n hx hb dX0_takeLogsBack_112 rfl (lv_at hl 2 rfl) ?_
      refine gw_aald hx hb hK hP 13 1 (n := 6) (b := 18) rfl rfl rfl (i := pn) (by omega) (by decide) dX0_takeLogsBack_113 ?_
      refine lv_iload hx hb dX0_takeLogsBack_114 (lv_at hl 0 rfl) ?_
      refine gw_ald hx hb hK hP (18 + pn) 0 (n := 4) (rowSS _ (by omega)) rfl (i := i) (by omega) (by decide) dX0_takeLogsBack_116 ?_
      refine lv_topi (fun v3 hv3 => ?_)
      refine lv_imul hx hb dX0_takeLogsBack_117 ?_
      refine lv_topi (fun v4 hv4 => ?_)
      refine lv_isub hx hb dX0_takeLogsBack_118 ?_
      refine lv_topi (fun v5 hv5 => ?_)
      refine gw_ast hx hb hK hP hD hS 3 0 (n := 4) rfl rfl (i := i) (by omega) (by decide) dX0_takeLogsBack_119 (fun H locs hP hD hS => ?_)
      obtain ⟨sg6, esg6⟩ : ∃ z : Nat → Nat → Int32, z = gw_u sg 3 (upd (sg 3) i v5) := ⟨_, rfl⟩
      rw [← esg6] at hP hD
      have hk : KG 8 9 11 sg0 sg6 := by rw [esg6]; exact hk.wa 3 (by omega) (by omega) _
      refine lv_iinc (k := 0) (v := (nI (i + 1))) (lv' := [(4, .int (nI (i + 1))), (0, .ref (ad 0)), (1, .int (nI pn)), (2, .int x2)]) hx hb dX0_takeLogsBack_120 hl rfl (nI_1 _) (by decide) rfl (fun ls hl => ?_)
      refine lv_goto (tgt := 90) hx hb dX0_takeLogsBack_123 (by decide) ?_
      exact ih _ (by omega) (i + 1) x2 _ _ _ _ rfl (by omega) hk hP hD hS (lv_sub hl [0, 1, 2, 3] rfl)
  refine lv_aload_n hx hb dX0_takeLogsBack_0 rfl (lv_at hl 0 rfl) ?_
  refine gw_getr (C := RX0) (T := TX0) (N := 15) hx hb hts inwX0 hown hK hP 0 1 1 rfl rfl rfl (by decide) (hts _ a11) (fun _ h9 => h9) dX0_takeLogsBack_1 ?_
  refine lv_iload_n hx hb dX0_takeLogsBack_4 rfl (lv_at hl 1 rfl) ?_
  refine gw_ald hx hb hK hP 1 0 (n := 6) rfl rfl (i := pn) (by omega) (by decide) dX0_takeLogsBack_5 ?_
  refine lv_topi (fun v7 hv7 => ?_)
  refine lv_istore_n (lv' := [(2, .int v7), (0, .ref (ad 0)), (1, .int (nI pn))]) hx hb dX0_takeLogsBack_6 rfl hl (by decide) rfl (fun ls hl => ?_)
  refine lv_iload_n hx hb dX0_takeLogsBack_7 rfl (lv_at hl 0 rfl) ?_
  refine lv_if_ne (tgt := 12) hx hb dX0_takeLogsBack_8 (by decide) (fun hc8 => ?_) (fun hc8 => ?_)
  · refine lv_aload_n hx hb dX0_takeLogsBack_12 rfl (lv_at hl 1 rfl) ?_
    refine gw_getr (C := RX0) (T := TX0) (N := 15) hx hb hts inwX0 hown hK hP 0 0 8 rfl rfl rfl (by decide) (hts _ a6) (fun _ h9 => h9) dX0_takeLogsBack_13 ?_
    refine gw_getrN (C := RX1) (T := TX1) (N := 12) hx hb hts inwX1 hown hK hP 8 2 11 rfl rfl rfl (by decide) (hE.nest _ (.fieldLinkNest RX0 100 RX1 "classOf" "[I" RX2) (by decide +kernel) rfl) (fun _ h9 => h9) dX0_takeLogsBack_16 ?_
    refine lv_iload_n hx hb dX0_takeLogsBack_19 rfl (lv_at hl 2 rfl) ?_
    refine gw_ald hx hb hK hP 11 0 (n := 6) rfl rfl (i := pn) (by omega) (by decide) dX0_takeLogsBack_20 ?_
    obtain ⟨cf9, hcf9, ecf9⟩ := hk.1.2 pn (by omega)
    refine gw_top (y := (nI cf9)) (ecf9) ?_
    refine lv_istore_n (lv' := [(3, .int (nI cf9)), (2, .int v7), (0, .ref (ad 0)), (1, .int (nI pn))]) hx hb dX0_takeLogsBack_21 rfl hl (by decide) rfl (fun ls hl => ?_)
    refine lv_aload_n hx hb dX0_takeLogsBack_22 rfl (lv_at hl 2 rfl) ?_
    refine lv_dup hx hb dX0_takeLogsBack_23 rfl ?_
    refine gw_geti (C := RX0) (T := TX0) (N := 15) hx hb hts inwX0 hown hK hP 0 4 rfl rfl rfl (by decide) (hts _ a7) (fun _ h9 => h9) dX0_takeLogsBack_24 ?_
    refine lv_topi (fun v10 hv10 => ?_)
    refine lv_iload_n hx hb dX0_takeLogsBack_27 rfl (lv_at hl 1 rfl) ?_
    refine lv_aload_n hx hb dX0_takeLogsBack_28 rfl (lv_at hl 2 rfl) ?_
    refine gw_getr (C := RX0) (T := TX0) (N := 15) hx hb hts inwX0 hown hK hP 0 0 8 rfl rfl rfl (by decide) (hts _ a6) (fun _ h9 => h9) dX0_takeLogsBack_29 ?_
    refine gw_getrN (C := RX1) (T := TX1) (N := 12) hx hb hts inwX1 hown hK hP 8 3 12 rfl rfl rfl (by decide) (hE.nest _ (.fieldLinkNest RX0 107 RX1 "minutesALog" "[I" RX2) (by decide +kernel) rfl) (fun _ h9 => h9) dX0_takeLogsBack_32 ?_
    refine lv_iload_n hx hb dX0_takeLogsBack_35 rfl (lv_at hl 3 rfl) ?_
    refine gw_ald hx hb hK hP 12 0 (n := 6) rfl rfl (i := pn) (by omega) (by decide) dX0_takeLogsBack_36 ?_
    refine lv_topi (fun v11 hv11 => ?_)
    refine lv_imul hx hb dX0_takeLogsBack_37 ?_
    refine lv_topi (fun v12 hv12 => ?_)
    refine lv_aload_n hx hb dX0_takeLogsBack_38 rfl (lv_at hl 2 rfl) ?_
    refine gw_getr (C := RX0) (T := TX0) (N := 15) hx hb hts inwX0 hown hK hP 0 0 8 rfl rfl rfl (by decide) (hts _ a6) (fun _ h9 => h9) dX0_takeLogsBack_39 ?_
    refine gw_getiN (C := RX1) (T := TX1) (N := 12) hx hb hts inwX1 hown hK hP 8 11 rfl rfl rfl (by decide) (hE.nest _ (.fieldLinkNest RX0 110 RX1 "change" "I" RX2) (by decide +kernel) rfl) (fun _ h9 => h9) dX0_takeLogsBack_42 ?_
    refine lv_topi (fun v13 hv13 => ?_)
    refine lv_iadd hx hb dX0_takeLogsBack_45 ?_
    refine lv_topi (fun v14 hv14 => ?_)
    refine lv_iadd hx hb dX0_takeLogsBack_46 ?_
    refine lv_topi (fun v15 hv15 => ?_)
    refine gw_put (C := RX0) (T := TX0) (N := 15) (ty := .int) hx hb hts inwX0 tyX0 tyX0_ok nmX0 hown hK hP hD hS 0 4 rfl rfl rfl (by decide) (hts _ a7) (fun _ h9 => h9) rfl (by decide +kernel) rfl rfl dX0_takeLogsBack_47 (fun H locs hP hD hS => ?_)
    obtain ⟨sg16, esg16⟩ : ∃ z : Nat → Nat → Int32, z = gw_u sg0 0 (upd (sg0 0) 4 v15) := ⟨_, rfl⟩
    rw [← esg16] at hP hD
    have hk : KG 8 9 11 sg0 sg16 := by rw [esg16]; exact hk.wa 0 (by omega) (by omega) _
    refine lv_aload_n hx hb dX0_takeLogsBack_50 rfl (lv_at hl 2 rfl) ?_
    refine gw_getr (C := RX0) (T := TX0) (N := 15) hx hb hts inwX0 hown hK hP 0 2 2 rfl rfl rfl (by decide) (hts _ a10) (fun _ h9 => h9) dX0_takeLogsBack_51 ?_
    refine lv_iload_n hx hb dX0_takeLogsBack_54 rfl (lv_at hl 0 rfl) ?_
    refine lv_dup2_11 hx hb dX0_takeLogsBack_55 rfl rfl ?_
    refine gw_ald hx hb hK hP 2 0 (n := 4) rfl rfl (i := cf9) (by omega) (by decide) dX0_takeLogsBack_56 ?_
    refine lv_topi (fun v17 hv17 => ?_)
    refine lv_iload_n hx hb dX0_takeLogsBack_57 rfl (lv_at hl 1 rfl) ?_
    refine lv_iadd hx hb dX0_takeLogsBack_58 ?_
    refine lv_topi (fun v18 hv18 => ?_)
    refine gw_ast hx hb hK hP hD hS 2 0 (n := 4) rfl rfl (i := cf9) (by omega) (by decide) dX0_takeLogsBack_59 (fun H locs hP hD hS => ?_)
    obtain ⟨sg19, esg19⟩ : ∃ z : Nat → Nat → Int32, z = gw_u sg16 2 (upd (sg16 2) cf9 v18) := ⟨_, rfl⟩
    rw [← esg19] at hP hD
    have hk : KG 8 9 11 sg0 sg19 := by rw [esg19]; exact hk.wa 2 (by omega) (by omega) _
    refine lv_aload_n hx hb dX0_takeLogsBack_60 rfl (lv_at hl 2 rfl) ?_
    refine lv_dup hx hb dX0_takeLogsBack_61 rfl ?_
    refine gw_geti (C := RX0) (T := TX0) (N := 15) hx hb hts inwX0 hown hK hP 0 5 rfl rfl rfl (by decide) (hts _ a8) (fun _ h9 => h9) dX0_takeLogsBack_62 ?_
    refine lv_topi (fun v20 hv20 => ?_)
    refine lv_iload_n hx hb dX0_takeLogsBack_65 rfl (lv_at hl 1 rfl) ?_
    refine lv_aload_n hx hb dX0_takeLogsBack_66 rfl (lv_at hl 2 rfl) ?_
    refine gw_getr (C := RX0) (T := TX0) (N := 15) hx hb hts inwX0 hown hK hP 0 0 8 rfl rfl rfl (by decide) (hts _ a6) (fun _ h9 => h9) dX0_takeLogsBack_67 ?_
    refine gw_getrN (C := RX1) (T := TX1) (N := 12) hx hb hts inwX1 hown hK hP 8 1 10 rfl rfl rfl (by decide) (hE.nest _ (.fieldLinkNest RX0 113 RX1 "centsALog" "[I" RX2) (by decide +kernel) rfl) (fun _ h9 => h9) dX0_takeLogsBack_70 ?_
    refine lv_iload_n hx hb dX0_takeLogsBack_73 rfl (lv_at hl 0 rfl) ?_
    refine gw_ald hx hb hK hP 10 0 (n := 4) rfl rfl (i := cf9) (by omega) (by decide) dX0_takeLogsBack_74 ?_
    refine lv_topi (fun v21 hv21 => ?_)
    refine lv_imul hx hb dX0_takeLogsBack_75 ?_
    refine lv_topi (fun v22 hv22 => ?_)
    refine lv_isub hx hb dX0_takeLogsBack_76 ?_
    refine lv_topi (fun v23 hv23 => ?_)
    refine gw_put (C := RX0) (T := TX0) (N := 15) (ty := .int) hx hb hts inwX0 tyX0 tyX0_ok nmX0 hown hK hP hD hS 0 5 rfl rfl rfl (by decide) (hts _ a8) (fun _ h9 => h9) rfl (by decide +kernel) rfl rfl dX0_takeLogsBack_77 (fun H locs hP hD hS => ?_)
    obtain ⟨sg24, esg24⟩ : ∃ z : Nat → Nat → Int32, z = gw_u sg19 0 (upd (sg19 0) 5 v23) := ⟨_, rfl⟩
    rw [← esg24] at hP hD
    have hk : KG 8 9 11 sg0 sg24 := by rw [esg24]; exact hk.wa 0 (by omega) (by omega) _
    refine lv_aload_n hx hb dX0_takeLogsBack_80 rfl (lv_at hl 2 rfl) ?_
    refine gw_getr (C := RX0) (T := TX0) (N := 15) hx hb hts inwX0 hown hK hP 0 1 1 rfl rfl rfl (by decide) (hts _ a11) (fun _ h9 => h9) dX0_takeLogsBack_81 ?_
    refine lv_iload_n hx hb dX0_takeLogsBack_84 rfl (lv_at hl 3 rfl) ?_
    refine lv_iconst (v := (nI 0)) hx hb dX0_takeLogsBack_85 (by decide) ?_
    refine gw_ast hx hb hK hP hD hS 1 0 (n := 6) rfl rfl (i := pn) (by omega) (by decide) dX0_takeLogsBack_86 (fun H locs hP hD hS => ?_)
    obtain ⟨sg25, esg25⟩ : ∃ z : Nat → Nat → Int32, z = gw_u sg24 1 (upd (sg24 1) pn (nI 0)) := ⟨_, rfl⟩
    rw [← esg25] at hP hD
    have hk : KG 8 9 11 sg0 sg25 := by rw [esg25]; exact hk.wa 1 (by omega) (by omega) _
    refine lv_iconst (v := (nI 0)) hx hb dX0_takeLogsBack_87 (by decide) ?_
    refine lv_istore (lv' := [(4, .int (nI 0)), (3, .int (nI cf9)), (2, .int v7), (0, .ref (ad 0)), (1, .int (nI pn))]) hx hb dX0_takeLogsBack_88 hl (by decide) rfl (fun ls hl => ?_)
    exact c90 _ 0 v7 _ _ _ _ rfl (by omega) hk hP hD hS (lv_sub hl [0, 3, 4, 2] rfl)
  · exact hret _ _ _ _ _ hP hS dX0_takeLogsBack_11 (⟨hk, rfl⟩)
abbrev rmX0_fillsOrders : Room := { frames := 0, cells := 0, slots := 0, locals := 0 }
set_option maxRecDepth 100000 in
set_option maxHeartbeats 4000000 in
theorem m_X0_fillsOrders (l : Launch) (hl9 : l.stackTraces = false) (D : va_G) (cI : ClassId) (cJ : ClassId × ClassId) (ad : Nat → Nat) (sg0 : Nat → Nat → Int32) (sz : Nat) (hI : IvG 8 9 11 sg0) : gc_M l yX0_fillsOrders wsX0_fillsOrders rmX0_fillsOrders D vwCl (tyS cI cJ) cI cJ gxT gxN SS [.ref (ad 0)] ad sg0 sz 0 0 (fun v sg2 => KG 8 9 11 sg0 sg2 ∧ ∃ r : Int32, v = some (.int r)) := by
  refine gc_Mz_of (cc := cX0_fillsOrders) (maxL := 2) (by decide) rfl (Nat.le_of_ble_eq_true rfl) ?_
  intro p e s m below meth c A ls Q hin hE hret
  obtain ⟨⟨hx, hb, hml, hown, hts⟩, -, hlocks, -, hA, hP, hK, hD, hS, hl⟩ := hin
  have hts : ∀ w ∈ wsAll, w.before ([.ref (ad 0)] : List Value).toArray s = true := fun w h => hts w (List.mem_cons_of_mem _ h)
  have hl : lv_has ls 2 [(0, .ref (ad 0))] := hl
  have hk := KG.refl hI
  have c2 : ∀ (n9 : Nat) (i : Nat) (sg : Nat → Nat → Int32) (H : Heap) (locs : List Loc) (ls : Array Slot), 4 - i = n9 → i ≤ 4 → (KG 8 9 11 sg0 sg) → va_P D vwCl (gw cI cJ ad sg SS) H → va_D A (gw cI cJ ad sg SS) → va_S A s.heap H locs → lv_has ls 2 [(1, .int (nI i)), (0, .ref (ad 0))] → W p l e rmX0_fillsOrders s m ([.ref (ad 0)] : List Value).toArray below meth c H locs 0 0 Q (F0 m 2 ls []) := by
    intro n9
    induction n9 using Nat.strongRecOn with
    | ind n9 ih =>
    intro i sg H locs ls hn h1 hk hP hD hS hl
    subst hn
    refine lv_iload_n hx hb dX0_fillsOrders_2 rfl (lv_at hl 0 rfl) ?_
    refine lv_iconst (v := (nI 4)) hx hb dX0_fillsOrders_3 (by decide) ?_
    refine lv_icmp_ge (tgt := 30) hx hb dX0_fillsOrders_4 (by decide) (fun hc1 => ?_) (fun hc1 => ?_)
    · have hc1 : 4 ≤ i := (nI_leI (a := 4) (b := i) (by omega) (by omega)).mp hc1
      refine lv_iconst (v := (nI 1)) hx hb dX0_fillsOrders_30 (by decide) ?_
      exact hret _ _ _ _ _ _ hP hS dX0_fillsOrders_31 rfl (⟨hk, _, rfl⟩)
    · have hc1 : ¬ (4 ≤ i) := fun q => hc1 ((nI_leI (a := 4) (b := i) (by omega) (by omega)).mpr q)
      refine lv_aload_n hx hb dX0_fillsOrders_7 rfl (lv_at hl 1 rfl) ?_
      refine gw_getr (C := RX0) (T := TX0) (N := 15) hx hb hts inwX0 hown hK hP 0 3 3 rfl rfl rfl (by decide) (hts _ a9) (fun _ h9 => h9) dX0_fillsOrders_8 ?_
      refine lv_iload_n hx hb dX0_fillsOrders_11 rfl (lv_at hl 0 rfl) ?_
      refine gw_ald hx hb hK hP 3 0 (n := 4) rfl rfl (i := i) (by omega) (by decide) dX0_fillsOrders_12 ?_
      refine lv_topi (fun v2 hv2 => ?_)
      refine lv_aload_n hx hb dX0_fillsOrders_13 rfl (lv_at hl 1 rfl) ?_
      refine gw_getr (C := RX0) (T := TX0) (N := 15) hx hb hts inwX0 hown hK hP 0 6 4 rfl rfl rfl (by decide) (hts _ a12) (fun _ h9 => h9) dX0_fillsOrders_14 ?_
      refine lv_iload_n hx hb dX0_fillsOrders_17 rfl (lv_at hl 0 rfl) ?_
      refine gw_ald hx hb hK hP 4 0 (n := 4) rfl rfl (i := i) (by omega) (by decide) dX0_fillsOrders_18 ?_
      refine lv_topi (fun v3 hv3 => ?_)
      refine lv_icmp_ge (tgt := 24) hx hb dX0_fillsOrders_19 (by decide) (fun hc4 => ?_) (fun hc4 => ?_)
      · refine lv_iinc (k := 0) (v := (nI (i + 1))) (lv' := [(1, .int (nI (i + 1))), (0, .ref (ad 0))]) hx hb dX0_fillsOrders_24 hl rfl (nI_1 _) (by decide) rfl (fun ls hl => ?_)
        refine lv_goto (tgt := 2) hx hb dX0_fillsOrders_27 (by decide) ?_
        exact ih _ (by omega) (i + 1) _ _ _ _ rfl (by omega) hk hP hD hS (lv_sub hl [0, 1] rfl)
      · refine lv_iconst (v := (nI 0)) hx hb dX0_fillsOrders_22 (by decide) ?_
        exact hret _ _ _ _ _ _ hP hS dX0_fillsOrders_23 rfl (⟨hk, _, rfl⟩)
  refine lv_iconst (v := (nI 0)) hx hb dX0_fillsOrders_0 (by decide) ?_
  refine lv_istore_n (lv' := [(1, .int (nI 0)), (0, .ref (ad 0))]) hx hb dX0_fillsOrders_1 rfl hl (by decide) rfl (fun ls hl => ?_)
  exact c2 _ 0 _ _ _ _ rfl (by omega) hk hP hD hS (lv_sub hl [0, 1] rfl)
abbrev rmX0_gainOfPlan : Room := { frames := 1, cells := 0, slots := 0, locals := 21 }
set_option maxRecDepth 100000 in
set_option maxHeartbeats 4000000 in
theorem m_X0_gainOfPlan (l : Launch) (hl9 : l.stackTraces = false) (D : va_G) (cI : ClassId) (cJ : ClassId × ClassId) (ad : Nat → Nat) (sg0 : Nat → Nat → Int32) (sz : Nat) (hI : IvG 8 9 11 sg0) : gc_M l yX0_gainOfPlan wsX0_gainOfPlan rmX0_gainOfPlan D vwCl (tyS cI cJ) cI cJ gxT gxN SS [.ref (ad 0)] ad sg0 sz 0 0 (fun v sg2 => KG 8 9 11 sg0 sg2 ∧ ∃ r : Int32, v = some (.int r)) := by
  refine gc_Mi_of (cc := cX0_gainOfPlan) (maxL := 3) (by decide) rfl (Nat.le_of_ble_eq_true rfl) ?_
  intro p e s m below meth c A ls Q hin hE hret
  obtain ⟨⟨hx, hb, hml, hown, hts⟩, -, hlocks, -, hA, hP, hK, hD, hS, hl⟩ := hin
  have hts : ∀ w ∈ wsAll, w.before ([.ref (ad 0)] : List Value).toArray s = true := fun w h => hts w (List.mem_cons_of_mem _ h)
  have hl : lv_has ls 3 [(0, .ref (ad 0))] := hl
  have hk := KG.refl hI
  have c8 : ∀ (n9 : Nat) (i : Nat) (x1 : Int32) (sg : Nat → Nat → Int32) (H : Heap) (locs : List Loc) (ls : Array Slot), 4 - i = n9 → i ≤ 4 → (KG 8 9 11 sg0 sg) → va_P D vwCl (gw cI cJ ad sg SS) H → va_D A (gw cI cJ ad sg SS) → va_S A s.heap H locs → lv_has ls 3 [(2, .int (nI i)), (1, .int x1), (0, .ref (ad 0))] → W p l e rmX0_gainOfPlan s m ([.ref (ad 0)] : List Value).toArray below meth c H locs 0 0 Q (F0 m 8 ls []) := by
    intro n9
    induction n9 using Nat.strongRecOn with
    | ind n9 ih =>
    intro i x1 sg H locs ls hn h1 hk hP hD hS hl
    subst hn
    refine lv_iload_n hx hb dX0_gainOfPlan_8 rfl (lv_at hl 0 rfl) ?_
    refine lv_iconst (v := (nI 4)) hx hb dX0_gainOfPlan_9 (by decide) ?_
    refine lv_icmp_ge (tgt := 44) hx hb dX0_gainOfPlan_10 (by decide) (fun hc1 => ?_) (fun hc1 => ?_)
    · have hc1 : 4 ≤ i := (nI_leI (a := 4) (b := i) (by omega) (by omega)).mp hc1
      refine lv_iload_n hx hb dX0_gainOfPlan_44 rfl (lv_at hl 1 rfl) ?_
      exact hret _ _ _ _ _ _ hP hS dX0_gainOfPlan_45 (⟨hk, _, rfl⟩)
    · have hc1 : ¬ (4 ≤ i) := fun q => hc1 ((nI_leI (a := 4) (b := i) (by omega) (by omega)).mpr q)
      refine lv_iload_n hx hb dX0_gainOfPlan_13 rfl (lv_at hl 1 rfl) ?_
      refine lv_aload_n hx hb dX0_gainOfPlan_14 rfl (lv_at hl 2 rfl) ?_
      refine gw_getr (C := RX0) (T := TX0) (N := 15) hx hb hts inwX0 hown hK hP 0 8 6 rfl rfl rfl (by decide) (hts _ a14) (fun _ h9 => h9) dX0_gainOfPlan_15 ?_
      refine lv_iload_n hx hb dX0_gainOfPlan_18 rfl (lv_at hl 0 rfl) ?_
      refine gw_ald hx hb hK hP 6 0 (n := 4) rfl rfl (i := i) (by omega) (by decide) dX0_gainOfPlan_19 ?_
      refine lv_topi (fun v2 hv2 => ?_)
      refine lv_aload_n hx hb dX0_gainOfPlan_20 rfl (lv_at hl 2 rfl) ?_
      refine gw_getr (C := RX0) (T := TX0) (N := 15) hx hb hts inwX0 hown hK hP 0 3 3 rfl rfl rfl (by decide) (hts _ a9) (fun _ h9 => h9) dX0_gainOfPlan_21 ?_
      refine lv_iload_n hx hb dX0_gainOfPlan_24 rfl (lv_at hl 0 rfl) ?_
      refine gw_ald hx hb hK hP 3 0 (n := 4) rfl rfl (i := i) (by omega) (by decide) dX0_gainOfPlan_25 ?_
      refine lv_topi (fun v3 hv3 => ?_)
      refine lv_aload_n hx hb dX0_gainOfPlan_26 rfl (lv_at hl 2 rfl) ?_
      refine gw_getr (C := RX0) (T := TX0) (N := 15) hx hb hts inwX0 hown hK hP 0 7 5 rfl rfl rfl (by decide) (hts _ a13) (fun _ h9 => h9) dX0_gainOfPlan_27 ?_
      refine lv_iload_n hx hb dX0_gainOfPlan_30 rfl (lv_at hl 0 rfl) ?_
      refine gw_ald hx hb hK hP 5 0 (n := 4) rfl rfl (i := i) (by omega) (by decide) dX0_gainOfPlan_31 ?_
      refine lv_topi (fun v4 hv4 => ?_)
      refine va_mmin hx hb (hml.trans hl.1.symm) hown (hts _ a20) (hts _ a21) (hts _ a22) (hts _ a23) (by decide) (Nat.le_of_ble_eq_true rfl) (by decide) (by decide) dX0_gainOfPlan_32 ?_
      refine lv_topi (fun v5 hv5 => ?_)
      refine lv_imul hx hb dX0_gainOfPlan_35 ?_
      refine lv_topi (fun v6 hv6 => ?_)
      refine lv_iadd hx hb dX0_gainOfPlan_36 ?_
      refine lv_topi (fun v7 hv7 => ?_)
      refine lv_istore_n (lv' := [(1, .int v7), (2, .int (nI i)), (0, .ref (ad 0))]) hx hb dX0_gainOfPlan_37 rfl hl (by decide) rfl (fun ls hl => ?_)
      refine lv_iinc (k := 1) (v := (nI (i + 1))) (lv' := [(2, .int (nI (i + 1))), (1, .int v7), (0, .ref (ad 0))]) hx hb dX0_gainOfPlan_38 hl rfl (nI_1 _) (by decide) rfl (fun ls hl => ?_)
      refine lv_goto (tgt := 8) hx hb dX0_gainOfPlan_41 (by decide) ?_
      exact ih _ (by omega) (i + 1) v7 _ _ _ _ rfl (by omega) hk hP hD hS (lv_sub hl [0, 1, 2] rfl)
  refine lv_aload_n hx hb dX0_gainOfPlan_0 rfl (lv_at hl 0 rfl) ?_
  refine gw_geti (C := RX0) (T := TX0) (N := 15) hx hb hts inwX0 hown hK hP 0 5 rfl rfl rfl (by decide) (hts _ a8) (fun _ h9 => h9) dX0_gainOfPlan_1 ?_
  refine lv_topi (fun v8 hv8 => ?_)
  refine lv_ineg hx hb dX0_gainOfPlan_4 ?_
  refine lv_topi (fun v9 hv9 => ?_)
  refine lv_istore_n (lv' := [(1, .int v9), (0, .ref (ad 0))]) hx hb dX0_gainOfPlan_5 rfl hl (by decide) rfl (fun ls hl => ?_)
  refine lv_iconst (v := (nI 0)) hx hb dX0_gainOfPlan_6 (by decide) ?_
  refine lv_istore_n (lv' := [(2, .int (nI 0)), (1, .int v9), (0, .ref (ad 0))]) hx hb dX0_gainOfPlan_7 rfl hl (by decide) rfl (fun ls hl => ?_)
  exact c8 _ 0 v9 _ _ _ _ rfl (by omega) hk hP hD hS (lv_sub hl [0, 1, 2] rfl)
abbrev rmX0_lookAtPlan : Room := { frames := 2, cells := 0, slots := 0, locals := 43 }
set_option maxRecDepth 100000 in
set_option maxHeartbeats 4000000 in
theorem m_X0_lookAtPlan (l : Launch) (hl9 : l.stackTraces = false) (D : va_G) (cI : ClassId) (cJ : ClassId × ClassId) (ad : Nat → Nat) (sg0 : Nat → Nat → Int32) (sz : Nat) (hI : IvG 8 9 11 sg0) : gc_M l yX0_lookAtPlan wsX0_lookAtPlan rmX0_lookAtPlan D vwCl (tyS cI cJ) cI cJ gxT gxN SS [.ref (ad 0)] ad sg0 sz 0 0 (fun v sg2 => KG 8 9 11 sg0 sg2 ∧ v = none) := by
  refine gc_Mv_of (cc := cX0_lookAtPlan) (maxL := 2) (by decide) rfl (Nat.le_of_ble_eq_true rfl) ?_
  intro p e s m below meth c A ls Q hin hE hret
  obtain ⟨⟨hx, hb, hml, hown, hts⟩, -, hlocks, -, hA, hP, hK, hD, hS, hl⟩ := hin
  have hts : ∀ w ∈ wsAll, w.before ([.ref (ad 0)] : List Value).toArray s = true := fun w h => hts w (List.mem_cons_of_mem _ h)
  have hl : lv_has ls 2 [(0, .ref (ad 0))] := hl
  have hk := KG.refl hI
  have c28 : ∀ (x1 : Int32) (sg : Nat → Nat → Int32) (H : Heap) (locs : List Loc) (ls : Array Slot), (KG 8 9 11 sg0 sg) → va_P D vwCl (gw cI cJ ad sg SS) H → va_D A (gw cI cJ ad sg SS) → va_S A s.heap H locs → lv_has ls 2 [(1, .int x1), (0, .ref (ad 0))] → W p l e rmX0_lookAtPlan s m ([.ref (ad 0)] : List Value).toArray below meth c H locs 0 0 Q (F0 m 28 ls []) := by
    intro x1 sg H locs ls hk hP hD hS hl
    refine lv_aload_n hx hb dX0_lookAtPlan_28 rfl (lv_at hl 1 rfl) ?_
    refine lv_iconst (v := (nI 1)) hx hb dX0_lookAtPlan_29 (by decide) ?_
    refine gw_put (C := RX0) (T := TX0) (N := 15) (ty := .boolean) hx hb hts inwX0 tyX0 tyX0_ok nmX0 hown hK hP hD hS 0 12 rfl rfl rfl (by decide) (hts _ a24) (fun _ h9 => h9) rfl (by decide +kernel) rfl rfl dX0_lookAtPlan_30 (fun H locs hP hD hS => ?_)
    obtain ⟨sg1, esg1⟩ : ∃ z : Nat → Nat → Int32, z = gw_u sg 0 (upd (sg 0) 12 (nI 1)) := ⟨_, rfl⟩
    rw [← esg1] at hP hD
    have hk : KG 8 9 11 sg0 sg1 := by rw [esg1]; exact hk.wa 0 (by omega) (by omega) _
    refine lv_aload_n hx hb dX0_lookAtPlan_33 rfl (lv_at hl 1 rfl) ?_
    refine lv_iload_n hx hb dX0_lookAtPlan_34 rfl (lv_at hl 0 rfl) ?_
    refine gw_put (C := RX0) (T := TX0) (N := 15) (ty := .int) hx hb hts inwX0 tyX0 tyX0_ok nmX0 hown hK hP hD hS 0 13 rfl rfl rfl (by decide) (hts _ a25) (fun _ h9 => h9) rfl (by decide +kernel) rfl rfl dX0_lookAtPlan_35 (fun H locs hP hD hS => ?_)
    obtain ⟨sg2, esg2⟩ : ∃ z : Nat → Nat → Int32, z = gw_u sg1 0 (upd (sg1 0) 13 x1) := ⟨_, rfl⟩
    rw [← esg2] at hP hD
    have hk : KG 8 9 11 sg0 sg2 := by rw [esg2]; exact hk.wa 0 (by omega) (by omega) _
    refine lv_aload_n hx hb dX0_lookAtPlan_38 rfl (lv_at hl 1 rfl) ?_
    refine gw_getr (C := RX0) (T := TX0) (N := 15) hx hb hts inwX0 hown hK hP 0 1 1 rfl rfl rfl (by decide) (hts _ a11) (fun _ h9 => h9) dX0_lookAtPlan_39 ?_
    refine lv_iconst (v := (nI 0)) hx hb dX0_lookAtPlan_42 (by decide) ?_
    refine lv_aload_n hx hb dX0_lookAtPlan_43 rfl (lv_at hl 1 rfl) ?_
    refine gw_getr (C := RX0) (T := TX0) (N := 15) hx hb hts inwX0 hown hK hP 0 14 7 rfl rfl rfl (by decide) (hts _ a26) (fun _ h9 => h9) dX0_lookAtPlan_44 ?_
    refine lv_iconst (v := (nI 0)) hx hb dX0_lookAtPlan_47 (by decide) ?_
    refine lv_bipush (v := (nI 6)) hx hb dX0_lookAtPlan_48 (by decide) ?_
    refine gw_cpy hx hb (hml.trans hl.1.symm) hown (hts _ a27) (hts _ a28) (hts _ a29) (hts _ a30) hK hP hD hS 1 7 0 rfl rfl rfl (by decide) (by decide) (by decide) (by decide) (by decide) dX0_lookAtPlan_50 (fun H locs hP hD hS => ?_)
    obtain ⟨sg3, esg3⟩ : ∃ z : Nat → Nat → Int32, z = gw_u sg2 7 (va_cpy (sg2 1) (sg2 7) 0 0 6) := ⟨_, rfl⟩
    rw [← esg3] at hP hD
    have hk : KG 8 9 11 sg0 sg3 := by rw [esg3]; exact hk.wa 7 (by omega) (by omega) _
    exact hret _ _ _ _ _ hP hS dX0_lookAtPlan_53 (⟨hk, rfl⟩)
  refine lv_aload_n hx hb dX0_lookAtPlan_0 rfl (lv_at hl 0 rfl) ?_
  refine gc_go0 (va_runV (As := []) (rest := []) ⟨hx, hb, hml, hown, hts⟩ (m_X0_fillsOrders l hl9 D cI cJ ad sg0 _  hk.1) (cwV 0 hts (gwV a31 a32 a33 a18 a34) rfl rfl rfl (by decide +kernel) ⟨by decide, by decide⟩) (gc_preV0 hK hP hD hS hA hE rfl rfl rfl) rfl rfl hl.1 rfl (lv_room (Nat.le_of_ble_eq_true rfl)) dX0_lookAtPlan_1 ⟨by decide, by decide⟩) hD hS hA (fun v4 sg6 H locs hp7 hP hD hS => ?_)
  obtain ⟨hk1, r10, rfl⟩ := hp7
  have hk := hk.trans hk1
  refine W.eq (g2 := F0 m 4 ls [.int r10]) rfl ?_
  refine lv_if_ne (tgt := 8) hx hb dX0_lookAtPlan_4 (by decide) (fun hc11 => ?_) (fun hc11 => ?_)
  · refine lv_aload_n hx hb dX0_lookAtPlan_8 rfl (lv_at hl 0 rfl) ?_
    refine gc_go0 (va_runV (As := []) (rest := []) ⟨hx, hb, hml, hown, hts⟩ (m_X0_gainOfPlan l hl9 D cI cJ ad sg6 _  hk.1) (cwV 0 hts (gwV a35 a36 a37 a18 a38) rfl rfl rfl (by decide +kernel) ⟨by decide, by decide⟩) (gc_preV0 hK hP hD hS hA hE rfl rfl rfl) rfl rfl hl.1 rfl (lv_room (Nat.le_of_ble_eq_true rfl)) dX0_lookAtPlan_9 ⟨by decide, by decide⟩) hD hS hA (fun v12 sg14 H locs hp15 hP hD hS => ?_)
    obtain ⟨hk1, r18, rfl⟩ := hp15
    have hk := hk.trans hk1
    refine W.eq (g2 := F0 m 12 ls [.int r18]) rfl ?_
    refine lv_istore_n (lv' := [(1, .int r18), (0, .ref (ad 0))]) hx hb dX0_lookAtPlan_12 rfl hl (by decide) rfl (fun ls hl => ?_)
    refine lv_aload_n hx hb dX0_lookAtPlan_13 rfl (lv_at hl 1 rfl) ?_
    refine gw_geti (C := RX0) (T := TX0) (N := 15) hx hb hts inwX0 hown hK hP 0 12 rfl rfl rfl (by decide) (hts _ a24) (fun _ h9 => h9) dX0_lookAtPlan_14 ?_
    refine lv_topi (fun v19 hv19 => ?_)
    refine lv_if_eq (tgt := 28) hx hb dX0_lookAtPlan_17 (by decide) (fun hc20 => ?_) (fun hc20 => ?_)
    · exact c28 r18 _ _ _ _  hk hP hD hS (lv_sub hl [0, 1] rfl)
    · refine lv_iload_n hx hb dX0_lookAtPlan_20 rfl (lv_at hl 0 rfl) ?_
      refine lv_aload_n hx hb dX0_lookAtPlan_21 rfl (lv_at hl 1 rfl) ?_
      refine gw_geti (C := RX0) (T := TX0) (N := 15) hx hb hts inwX0 hown hK hP 0 13 rfl rfl rfl (by decide) (hts _ a25) (fun _ h9 => h9) dX0_lookAtPlan_22 ?_
      refine lv_topi (fun v21 hv21 => ?_)
      refine lv_icmp_le (tgt := 53) hx hb dX0_lookAtPlan_25 (by decide) (fun hc22 => ?_) (fun hc22 => ?_)
      · exact hret _ _ _ _ _ hP hS dX0_lookAtPlan_53 (⟨hk, rfl⟩)
      · exact c28 r18 _ _ _ _  hk hP hD hS (lv_sub hl [0, 1] rfl)
  · exact hret _ _ _ _ _ hP hS dX0_lookAtPlan_7 (⟨hk, rfl⟩)
abbrev rmX0_tell6 : Room := { frames := 3, cells := 0, slots := 0, locals := 64 }
set_option maxRecDepth 100000 in
set_option maxHeartbeats 4000000 in
theorem m_X0_tell6 (l : Launch) (hl9 : l.stackTraces = false) (D : va_G) (cI : ClassId) (cJ : ClassId × ClassId) (ad : Nat → Nat) (sg0 : Nat → Nat → Int32) (sz : Nat) (hI : IvG 8 9 11 sg0) : gc_M l yX0_tellPatternsFrom wsX0_tellPatternsFrom rmX0_tell6 D vwCl (tyS cI cJ) cI cJ gxT gxN SS [.ref (ad 0), .int (nI 6)] ad sg0 sz 0 0 (fun v sg2 => KG 8 9 11 sg0 sg2 ∧ v = none) := by
  refine gc_Mv_of (cc := cX0_tellPatternsFrom) (maxL := 3) (by decide) rfl (Nat.le_of_ble_eq_true rfl) ?_
  intro p e s m below meth c A ls Q hin hE hret
  obtain ⟨⟨hx, hb, hml, hown, hts⟩, -, hlocks, -, hA, hP, hK, hD, hS, hl⟩ := hin
  have hts : ∀ w ∈ wsAll, w.before ([.ref (ad 0), .int (nI 6)] : List Value).toArray s = true := fun w h => hts w (List.mem_cons_of_mem _ h)
  have hl : lv_has ls 3 [(0, .ref (ad 0)), (1, .int (nI 6))] := hl
  have hk := KG.refl hI
  have c17 : ∀ (sg : Nat → Nat → Int32) (H : Heap) (locs : List Loc) (ls : Array Slot), (KG 8 9 11 sg0 sg) → va_P D vwCl (gw cI cJ ad sg SS) H → va_D A (gw cI cJ ad sg SS) → va_S A s.heap H locs → lv_has ls 3 [(0, .ref (ad 0)), (1, .int (nI 6))] → W p l e rmX0_tell6 s m ([.ref (ad 0), .int (nI 6)] : List Value).toArray below meth c H locs 0 0 Q (F0 m 17 ls []) := by
    intro sg H locs ls hk hP hD hS hl
    refine lv_aload_n hx hb dX0_tellPatternsFrom_17 rfl (lv_at hl 0 rfl) ?_
    refine gc_go0 (va_runV (As := []) (rest := []) ⟨hx, hb, hml, hown, hts⟩ (m_X0_lookAtPlan l hl9 D cI cJ ad sg _  hk.1) (cwV 0 hts (gwV a39 a40 a41 a18 a42) rfl rfl rfl (by decide +kernel) ⟨by decide, by decide⟩) (gc_preV0 hK hP hD hS hA hE rfl rfl rfl) rfl rfl hl.1 rfl (lv_room (Nat.le_of_ble_eq_true rfl)) dX0_tellPatternsFrom_18 ⟨by decide, by decide⟩) hD hS hA (fun v1 sg3 H locs hp4 hP hD hS => ?_)
    obtain ⟨hk1, rfl⟩ := hp4
    have hk := hk.trans hk1
    refine W.eq (g2 := F0 m 21 ls []) rfl ?_
    exact hret _ _ _ _ _ hP hS dX0_tellPatternsFrom_21 (⟨hk, rfl⟩)
  refine lv_iload_n hx hb dX0_tellPatternsFrom_0 rfl (lv_at hl 1 rfl) ?_
  refine lv_aload_n hx hb dX0_tellPatternsFrom_1 rfl (lv_at hl 0 rfl) ?_
  refine gw_getr (C := RX0) (T := TX0) (N := 15) hx hb hts inwX0 hown hK hP 0 0 8 rfl rfl rfl (by decide) (hts _ a6) (fun _ h9 => h9) dX0_tellPatternsFrom_2 ?_
  refine gw_getiN (C := RX1) (T := TX1) (N := 12) hx hb hts inwX1 hown hK hP 8 9 rfl rfl rfl (by decide) (hE.nest _ (.fieldLinkNest RX0 81 RX1 "patterns" "I" RX2) (by decide +kernel) rfl) (fun _ h9 => h9) dX0_tellPatternsFrom_5 ?_
  obtain ⟨N7, hN7, eN7⟩ := hk.1.1
  refine gw_top (y := (nI N7)) (eN7) ?_
  refine lv_icmp_ge (tgt := 17) hx hb dX0_tellPatternsFrom_8 (by decide) (fun hc8 => ?_) (fun hc8 => ?_)
  · have hc8 : N7 ≤ 6 := (nI_leI (a := N7) (b := 6) (by omega) (by omega)).mp hc8
    exact c17  _ _ _ _  hk hP hD hS (lv_sub hl [0, 1] rfl)
  · have hc8 : ¬ (N7 ≤ 6) := fun q => hc8 ((nI_leI (a := N7) (b := 6) (by omega) (by omega)).mpr q)
    refine lv_iload_n hx hb dX0_tellPatternsFrom_11 rfl (lv_at hl 1 rfl) ?_
    refine lv_bipush (v := (nI 6)) hx hb dX0_tellPatternsFrom_12 (by decide) ?_
    refine lv_icmp_lt (tgt := 22) hx hb dX0_tellPatternsFrom_14 (by decide) (fun hc9 => ?_) (fun hc9 => ?_)
    · exact absurd hc9 (by decide)
    · exact c17  _ _ _ _  hk hP hD hS (lv_sub hl [0, 1] rfl)
abbrev rmX0_step5 : Room := { frames := 4, cells := 0, slots := 0, locals := 86 }
set_option maxRecDepth 100000 in
set_option maxHeartbeats 4000000 in
theorem m_X0_step5 (l : Launch) (hl9 : l.stackTraces = false) (D : va_G) (cI : ClassId) (cJ : ClassId × ClassId) (ad : Nat → Nat) (sg0 : Nat → Nat → Int32) (sz : Nat) (hI : IvG 8 9 11 sg0) : gc_M l yX0_takeStep wsX0_takeStep rmX0_step5 D vwCl (tyS cI cJ) cI cJ gxT gxN SS [.ref (ad 0), .int (nI 5)] ad sg0 sz 0 0 (fun v sg2 => KG 8 9 11 sg0 sg2 ∧ v = none) := by
  refine gc_Mv_of (cc := cX0_takeStep) (maxL := 2) (by decide) rfl (Nat.le_of_ble_eq_true rfl) ?_
  intro p e s m below meth c A ls Q hin hE hret
  obtain ⟨⟨hx, hb, hml, hown, hts⟩, -, hlocks, -, hA, hP, hK, hD, hS, hl⟩ := hin
  have hts : ∀ w ∈ wsAll, w.before ([.ref (ad 0), .int (nI 5)] : List Value).toArray s = true := fun w h => hts w (List.mem_cons_of_mem _ h)
  have hl : lv_has ls 2 [(0, .ref (ad 0)), (1, .int (nI 5))] := hl
  have hk := KG.refl hI
  refine lv_aload_n hx hb dX0_takeStep_0 rfl (lv_at hl 0 rfl) ?_
  refine gw_geti (C := RX0) (T := TX0) (N := 15) hx hb hts inwX0 hown hK hP 0 10 rfl rfl rfl (by decide) (hts _ a43) (fun _ h9 => h9) dX0_takeStep_1 ?_
  refine lv_topi (fun v1 hv1 => ?_)
  refine lv_aload_n hx hb dX0_takeStep_4 rfl (lv_at hl 0 rfl) ?_
  refine gw_geti (C := RX0) (T := TX0) (N := 15) hx hb hts inwX0 hown hK hP 0 9 rfl rfl rfl (by decide) (hts _ a44) (fun _ h9 => h9) dX0_takeStep_5 ?_
  refine lv_topi (fun v2 hv2 => ?_)
  refine lv_icmp_lt (tgt := 17) hx hb dX0_takeStep_8 (by decide) (fun hc3 => ?_) (fun hc3 => ?_)
  · refine lv_aload_n hx hb dX0_takeStep_17 rfl (lv_at hl 0 rfl) ?_
    refine lv_dup hx hb dX0_takeStep_18 rfl ?_
    refine gw_geti (C := RX0) (T := TX0) (N := 15) hx hb hts inwX0 hown hK hP 0 10 rfl rfl rfl (by decide) (hts _ a43) (fun _ h9 => h9) dX0_takeStep_19 ?_
    refine lv_topi (fun v4 hv4 => ?_)
    refine lv_iconst (v := (nI 1)) hx hb dX0_takeStep_22 (by decide) ?_
    refine lv_iadd hx hb dX0_takeStep_23 ?_
    refine lv_topi (fun v5 hv5 => ?_)
    refine gw_put (C := RX0) (T := TX0) (N := 15) (ty := .int) hx hb hts inwX0 tyX0 tyX0_ok nmX0 hown hK hP hD hS 0 10 rfl rfl rfl (by decide) (hts _ a43) (fun _ h9 => h9) rfl (by decide +kernel) rfl rfl dX0_takeStep_24 (fun H locs hP hD hS => ?_)
    obtain ⟨sg6, esg6⟩ : ∃ z : Nat → Nat → Int32, z = gw_u sg0 0 (upd (sg0 0) 10 v5) := ⟨_, rfl⟩
    rw [← esg6] at hP hD
    have hk : KG 8 9 11 sg0 sg6 := by rw [esg6]; exact hk.wa 0 (by omega) (by omega) _
    refine lv_aload_n hx hb dX0_takeStep_27 rfl (lv_at hl 0 rfl) ?_
    refine lv_iload_n hx hb dX0_takeStep_28 rfl (lv_at hl 1 rfl) ?_
    refine lv_iconst (v := (nI 1)) hx hb dX0_takeStep_29 (by decide) ?_
    refine lv_iadd hx hb dX0_takeStep_30 ?_
    refine gw_top (y := (nI 6)) (by decide) ?_
    refine gc_go0 (va_runV (As := [.int (nI 6)]) (rest := []) ⟨hx, hb, hml, hown, hts⟩ (m_X0_tell6 l hl9 D cI cJ ad sg6 _  hk.1) (cwV 1 hts (gwV a45 a46 a47 a18 a48) rfl rfl rfl (by decide +kernel) ⟨by decide, by decide⟩) (gc_preV0 hK hP hD hS hA hE rfl rfl rfl) rfl rfl hl.1 rfl (lv_room (Nat.le_of_ble_eq_true rfl)) dX0_takeStep_31 ⟨by decide, by decide⟩) hD hS hA (fun v7 sg9 H locs hp10 hP hD hS => ?_)
    obtain ⟨hk1, rfl⟩ := hp10
    have hk := hk.trans hk1
    refine W.eq (g2 := F0 m 34 ls []) rfl ?_
    exact hret _ _ _ _ _ hP hS dX0_takeStep_34 (⟨hk, rfl⟩)
  · refine lv_aload_n hx hb dX0_takeStep_11 rfl (lv_at hl 0 rfl) ?_
    refine lv_iconst (v := (nI 1)) hx hb dX0_takeStep_12 (by decide) ?_
    refine gw_put (C := RX0) (T := TX0) (N := 15) (ty := .boolean) hx hb hts inwX0 tyX0 tyX0_ok nmX0 hown hK hP hD hS 0 11 rfl rfl rfl (by decide) (hts _ a49) (fun _ h9 => h9) rfl (by decide +kernel) rfl rfl dX0_takeStep_13 (fun H locs hP hD hS => ?_)
    obtain ⟨sg13, esg13⟩ : ∃ z : Nat → Nat → Int32, z = gw_u sg0 0 (upd (sg0 0) 11 (nI 1)) := ⟨_, rfl⟩
    rw [← esg13] at hP hD
    have hk : KG 8 9 11 sg0 sg13 := by rw [esg13]; exact hk.wa 0 (by omega) (by omega) _
    exact hret _ _ _ _ _ hP hS dX0_takeStep_16 (⟨hk, rfl⟩)
abbrev rmX0_tell5 : Room := { frames := 5, cells := 0, slots := 0, locals := 107 }
set_option maxRecDepth 100000 in
set_option maxHeartbeats 4000000 in
theorem m_X0_tell5 (l : Launch) (hl9 : l.stackTraces = false) (D : va_G) (cI : ClassId) (cJ : ClassId × ClassId) (ad : Nat → Nat) (sg0 : Nat → Nat → Int32) (sz : Nat) (hI : IvG 8 9 11 sg0) : gc_M l yX0_tellPatternsFrom wsX0_tellPatternsFrom rmX0_tell5 D vwCl (tyS cI cJ) cI cJ gxT gxN SS [.ref (ad 0), .int (nI 5)] ad sg0 sz 0 0 (fun v sg2 => KG 8 9 11 sg0 sg2 ∧ v = none) := by
  refine gc_Mv_of (cc := cX0_tellPatternsFrom) (maxL := 3) (by decide) rfl (Nat.le_of_ble_eq_true rfl) ?_
  intro p e s m below meth c A ls Q hin hE hret
  obtain ⟨⟨hx, hb, hml, hown, hts⟩, -, hlocks, -, hA, hP, hK, hD, hS, hl⟩ := hin
  have hts : ∀ w ∈ wsAll, w.before ([.ref (ad 0), .int (nI 5)] : List Value).toArray s = true := fun w h => hts w (List.mem_cons_of_mem _ h)
  have hl : lv_has ls 3 [(0, .ref (ad 0)), (1, .int (nI 5))] := hl
  have hk := KG.refl hI
  have c69 : ∀ (sg : Nat → Nat → Int32) (H : Heap) (locs : List Loc) (ls : Array Slot), (KG 8 9 11 sg0 sg) → va_P D vwCl (gw cI cJ ad sg SS) H → va_D A (gw cI cJ ad sg SS) → va_S A s.heap H locs → lv_has ls 3 [(0, .ref (ad 0)), (1, .int (nI 5))] → W p l e rmX0_tell5 s m ([.ref (ad 0), .int (nI 5)] : List Value).toArray below meth c H locs 0 0 Q (F0 m 69 ls []) := by
    intro sg H locs ls hk hP hD hS hl
    refine lv_aload_n hx hb dX0_tellPatternsFrom_69 rfl (lv_at hl 0 rfl) ?_
    refine lv_iload_n hx hb dX0_tellPatternsFrom_70 rfl (lv_at hl 1 rfl) ?_
    refine gc_go0 (va_runV (As := [.int (nI 5)]) (rest := []) ⟨hx, hb, hml, hown, hts⟩ (m_X0_takeLogsBack l hl9 D cI cJ ad sg _ 5 (by omega) hk.1) (cwV 1 hts (gwV a50 a51 a52 a18 a53) rfl rfl rfl (by decide +kernel) ⟨by decide, by decide⟩) (gc_preV0 hK hP hD hS hA hE rfl rfl rfl) rfl rfl hl.1 rfl (lv_room (Nat.le_of_ble_eq_true rfl)) dX0_tellPatternsFrom_71 ⟨by decide, by decide⟩) hD hS hA (fun v1 sg3 H locs hp4 hP hD hS => ?_)
    obtain ⟨hk1, rfl⟩ := hp4
    have hk := hk.trans hk1
    refine W.eq (g2 := F0 m 74 ls []) rfl ?_
    exact hret _ _ _ _ _ hP hS dX0_tellPatternsFrom_74 (⟨hk, rfl⟩)
  have c29 : ∀ (n9 : Nat) (i : Nat) (sg : Nat → Nat → Int32) (H : Heap) (locs : List Loc) (ls : Array Slot), 13 - i = n9 → i ≤ 13 → (KG 8 9 11 sg0 sg) → va_P D vwCl (gw cI cJ ad sg SS) H → va_D A (gw cI cJ ad sg SS) → va_S A s.heap H locs → lv_has ls 3 [(2, .int (nI i)), (0, .ref (ad 0)), (1, .int (nI 5))] → W p l e rmX0_tell5 s m ([.ref (ad 0), .int (nI 5)] : List Value).toArray below meth c H locs 0 0 Q (F0 m 29 ls []) := by
    intro n9
    induction n9 using Nat.strongRecOn with
    | ind n9 ih =>
    intro i sg H locs ls hn h1 hk hP hD hS hl
    subst hn
    refine lv_iload_n hx hb dX0_tellPatternsFrom_29 rfl (lv_at hl 0 rfl) ?_
    refine lv_bipush (v := (nI 12)) hx hb dX0_tellPatternsFrom_30 (by decide) ?_
    refine lv_icmp_gt (tgt := 69) hx hb dX0_tellPatternsFrom_32 (by decide) (fun hc7 => ?_) (fun hc7 => ?_)
    · have hc7 : 12 < i := (nI_ltI (a := 12) (b := i) (by omega) (by omega)).mp hc7
      exact c69  _ _ _ _  hk hP hD hS (lv_sub hl [1, 2] rfl)
    · have hc7 : ¬ (12 < i) := fun q => hc7 ((nI_ltI (a := 12) (b := i) (by omega) (by omega)).mpr q)
      refine lv_aload_n hx hb dX0_tellPatternsFrom_35 rfl (lv_at hl 1 rfl) ?_
      refine gw_geti (C := RX0) (T := TX0) (N := 15) hx hb hts inwX0 hown hK hP 0 11 rfl rfl rfl (by decide) (hts _ a49) (fun _ h9 => h9) dX0_tellPatternsFrom_36 ?_
      refine lv_topi (fun v8 hv8 => ?_)
      refine lv_if_ne (tgt := 69) hx hb dX0_tellPatternsFrom_39 (by decide) (fun hc9 => ?_) (fun hc9 => ?_)
      · exact c69  _ _ _ _  hk hP hD hS (lv_sub hl [1, 2] rfl)
      · refine lv_aload_n hx hb dX0_tellPatternsFrom_42 rfl (lv_at hl 1 rfl) ?_
        refine lv_iload_n hx hb dX0_tellPatternsFrom_43 rfl (lv_at hl 2 rfl) ?_
        refine gc_go0 (va_runV (As := [.int (nI 5)]) (rest := []) ⟨hx, hb, hml, hown, hts⟩ (m_X0_oneLogMoreFits l hl9 D cI cJ ad sg _ 5 (by omega) hk.1) (cwV 1 hts (gwV a54 a55 a56 a18 a57) rfl rfl rfl (by decide +kernel) ⟨by decide, by decide⟩) (gc_preV0 hK hP hD hS hA hE rfl rfl rfl) rfl rfl hl.1 rfl (lv_room (Nat.le_of_ble_eq_true rfl)) dX0_tellPatternsFrom_44 ⟨by decide, by decide⟩) hD hS hA (fun v10 sg12 H locs hp13 hP hD hS => ?_)
        obtain ⟨hk1, r16, rfl⟩ := hp13
        have hk := hk.trans hk1
        refine W.eq (g2 := F0 m 47 ls [.int r16]) rfl ?_
        refine lv_if_ne (tgt := 53) hx hb dX0_tellPatternsFrom_47 (by decide) (fun hc17 => ?_) (fun hc17 => ?_)
        · refine lv_aload_n hx hb dX0_tellPatternsFrom_53 rfl (lv_at hl 1 rfl) ?_
          refine lv_iload_n hx hb dX0_tellPatternsFrom_54 rfl (lv_at hl 2 rfl) ?_
          refine gc_go0 (va_runV (As := [.int (nI 5)]) (rest := []) ⟨hx, hb, hml, hown, hts⟩ (m_X0_addLog l hl9 D cI cJ ad sg12 _ 5 (by omega) hk.1) (cwV 1 hts (gwV a58 a59 a60 a18 a61) rfl rfl rfl (by decide +kernel) ⟨by decide, by decide⟩) (gc_preV0 hK hP hD hS hA hE rfl rfl rfl) rfl rfl hl.1 rfl (lv_room (Nat.le_of_ble_eq_true rfl)) dX0_tellPatternsFrom_55 ⟨by decide, by decide⟩) hD hS hA (fun v18 sg20 H locs hp21 hP hD hS => ?_)
          obtain ⟨hk1, rfl⟩ := hp21
          have hk := hk.trans hk1
          refine W.eq (g2 := F0 m 58 ls []) rfl ?_
          refine lv_aload_n hx hb dX0_tellPatternsFrom_58 rfl (lv_at hl 1 rfl) ?_
          refine lv_iload_n hx hb dX0_tellPatternsFrom_59 rfl (lv_at hl 2 rfl) ?_
          refine gc_go0 (va_runV (As := [.int (nI 5)]) (rest := []) ⟨hx, hb, hml, hown, hts⟩ (m_X0_step5 l hl9 D cI cJ ad sg20 _  hk.1) (cwV 1 hts (gwV a62 a63 a64 a18 a65) rfl rfl rfl (by decide +kernel) ⟨by decide, by decide⟩) (gc_preV0 hK hP hD hS hA hE rfl rfl rfl) rfl rfl hl.1 rfl (lv_room (Nat.le_of_ble_eq_true rfl)) dX0_tellPatternsFrom_60 ⟨by decide, by decide⟩) hD hS hA (fun v24 sg26 H locs hp27 hP hD hS => ?_)
          obtain ⟨hk1, rfl⟩ := hp27
          have hk := hk.trans hk1
          refine W.eq (g2 := F0 m 63 ls []) rfl ?_
          refine lv_iinc (k := 0) (v := (nI (i + 1))) (lv' := [(2, .int (nI (i + 1))), (0, .ref (ad 0)), (1, .int (nI 5))]) hx hb dX0_tellPatternsFrom_63 hl rfl (nI_1 _) (by decide) rfl (fun ls hl => ?_)
          refine lv_goto (tgt := 29) hx hb dX0_tellPatternsFrom_66 (by decide) ?_
          exact ih _ (by omega) (i + 1) _ _ _ _ rfl (by omega) hk hP hD hS (lv_sub hl [0, 1, 2] rfl)
        · refine lv_goto (tgt := 69) hx hb dX0_tellPatternsFrom_50 (by decide) ?_
          exact c69  _ _ _ _  hk hP hD hS (lv_sub hl [1, 2] rfl)
  have c22 : ∀ (sg : Nat → Nat → Int32) (H : Heap) (locs : List Loc) (ls : Array Slot), (KG 8 9 11 sg0 sg) → va_P D vwCl (gw cI cJ ad sg SS) H → va_D A (gw cI cJ ad sg SS) → va_S A s.heap H locs → lv_has ls 3 [(0, .ref (ad 0)), (1, .int (nI 5))] → W p l e rmX0_tell5 s m ([.ref (ad 0), .int (nI 5)] : List Value).toArray below meth c H locs 0 0 Q (F0 m 22 ls []) := by
    intro sg H locs ls hk hP hD hS hl
    refine lv_aload_n hx hb dX0_tellPatternsFrom_22 rfl (lv_at hl 0 rfl) ?_
    refine lv_iload_n hx hb dX0_tellPatternsFrom_23 rfl (lv_at hl 1 rfl) ?_
    refine gc_go0 (va_runV (As := [.int (nI 5)]) (rest := []) ⟨hx, hb, hml, hown, hts⟩ (m_X0_step5 l hl9 D cI cJ ad sg _  hk.1) (cwV 1 hts (gwV a62 a63 a64 a18 a65) rfl rfl rfl (by decide +kernel) ⟨by decide, by decide⟩) (gc_preV0 hK hP hD hS hA hE rfl rfl rfl) rfl rfl hl.1 rfl (lv_room (Nat.le_of_ble_eq_true rfl)) dX0_tellPatternsFrom_24 ⟨by decide, by decide⟩) hD hS hA (fun v30 sg32 H locs hp33 hP hD hS => ?_)
    obtain ⟨hk1, rfl⟩ := hp33
    have hk := hk.trans hk1
    refine W.eq (g2 := F0 m 27 ls []) rfl ?_
    refine lv_iconst (v := (nI 1)) hx hb dX0_tellPatternsFrom_27 (by decide) ?_
    refine lv_istore_n (lv' := [(2, .int (nI 1)), (0, .ref (ad 0)), (1, .int (nI 5))]) hx hb dX0_tellPatternsFrom_28 rfl hl (by decide) rfl (fun ls hl => ?_)
    exact c29 _ 1 _ _ _ _ rfl (by omega) hk hP hD hS (lv_sub hl [0, 1, 2] rfl)
  have c17 : ∀ (sg : Nat → Nat → Int32) (H : Heap) (locs : List Loc) (ls : Array Slot), (KG 8 9 11 sg0 sg) → va_P D vwCl (gw cI cJ ad sg SS) H → va_D A (gw cI cJ ad sg SS) → va_S A s.heap H locs → lv_has ls 3 [(0, .ref (ad 0)), (1, .int (nI 5))] → W p l e rmX0_tell5 s m ([.ref (ad 0), .int (nI 5)] : List Value).toArray below meth c H locs 0 0 Q (F0 m 17 ls []) := by
    intro sg H locs ls hk hP hD hS hl
    refine lv_aload_n hx hb dX0_tellPatternsFrom_17 rfl (lv_at hl 0 rfl) ?_
    refine gc_go0 (va_runV (As := []) (rest := []) ⟨hx, hb, hml, hown, hts⟩ (m_X0_lookAtPlan l hl9 D cI cJ ad sg _  hk.1) (cwV 0 hts (gwV a39 a40 a41 a18 a42) rfl rfl rfl (by decide +kernel) ⟨by decide, by decide⟩) (gc_preV0 hK hP hD hS hA hE rfl rfl rfl) rfl rfl hl.1 rfl (lv_room (Nat.le_of_ble_eq_true rfl)) dX0_tellPatternsFrom_18 ⟨by decide, by decide⟩) hD hS hA (fun v36 sg38 H locs hp39 hP hD hS => ?_)
    obtain ⟨hk1, rfl⟩ := hp39
    have hk := hk.trans hk1
    refine W.eq (g2 := F0 m 21 ls []) rfl ?_
    exact hret _ _ _ _ _ hP hS dX0_tellPatternsFrom_21 (⟨hk, rfl⟩)
  refine lv_iload_n hx hb dX0_tellPatternsFrom_0 rfl (lv_at hl 1 rfl) ?_
  refine lv_aload_n hx hb dX0_tellPatternsFrom_1 rfl (lv_at hl 0 rfl) ?_
  refine gw_getr (C := RX0) (T := TX0) (N := 15) hx hb hts inwX0 hown hK hP 0 0 8 rfl rfl rfl (by decide) (hts _ a6) (fun _ h9 => h9) dX0_tellPatternsFrom_2 ?_
  refine gw_getiN (C := RX1) (T := TX1) (N := 12) hx hb hts inwX1 hown hK hP 8 9 rfl rfl rfl (by decide) (hE.nest _ (.fieldLinkNest RX0 81 RX1 "patterns" "I" RX2) (by decide +kernel) rfl) (fun _ h9 => h9) dX0_tellPatternsFrom_5 ?_
  obtain ⟨N42, hN42, eN42⟩ := hk.1.1
  refine gw_top (y := (nI N42)) (eN42) ?_
  refine lv_icmp_ge (tgt := 17) hx hb dX0_tellPatternsFrom_8 (by decide) (fun hc43 => ?_) (fun hc43 => ?_)
  · have hc43 : N42 ≤ 5 := (nI_leI (a := N42) (b := 5) (by omega) (by omega)).mp hc43
    exact c17  _ _ _ _  hk hP hD hS (lv_sub hl [0, 1] rfl)
  · have hc43 : ¬ (N42 ≤ 5) := fun q => hc43 ((nI_leI (a := N42) (b := 5) (by omega) (by omega)).mpr q)
    refine lv_iload_n hx hb dX0_tellPatternsFrom_11 rfl (lv_at hl 1 rfl) ?_
    refine lv_bipush (v := (nI 6)) hx hb dX0_tellPatternsFrom_12 (by decide) ?_
    refine lv_icmp_lt (tgt := 22) hx hb dX0_tellPatternsFrom_14 (by decide) (fun hc44 => ?_) (fun hc44 => ?_)
    · exact c22  _ _ _ _  hk hP hD hS (lv_sub hl [0, 1] rfl)
    · exact absurd hc44 (by decide)
abbrev rmX0_step4 : Room := { frames := 6, cells := 0, slots := 0, locals := 129 }
set_option maxRecDepth 100000 in
set_option maxHeartbeats 4000000 in
theorem m_X0_step4 (l : Launch) (hl9 : l.stackTraces = false) (D : va_G) (cI : ClassId) (cJ : ClassId × ClassId) (ad : Nat → Nat) (sg0 : Nat → Nat → Int32) (sz : Nat) (hI : IvG 8 9 11 sg0) : gc_M l yX0_takeStep wsX0_takeStep rmX0_step4 D vwCl (tyS cI cJ) cI cJ gxT gxN SS [.ref (ad 0), .int (nI 4)] ad sg0 sz 0 0 (fun v sg2 => KG 8 9 11 sg0 sg2 ∧ v = none) := by
  refine gc_Mv_of (cc := cX0_takeStep) (maxL := 2) (by decide) rfl (Nat.le_of_ble_eq_true rfl) ?_
  intro p e s m below meth c A ls Q hin hE hret
  obtain ⟨⟨hx, hb, hml, hown, hts⟩, -, hlocks, -, hA, hP, hK, hD, hS, hl⟩ := hin
  have hts : ∀ w ∈ wsAll, w.before ([.ref (ad 0), .int (nI 4)] : List Value).toArray s = true := fun w h => hts w (List.mem_cons_of_mem _ h)
  have hl : lv_has ls 2 [(0, .ref (ad 0)), (1, .int (nI 4))] := hl
  have hk := KG.refl hI
  refine lv_aload_n hx hb dX0_takeStep_0 rfl (lv_at hl 0 rfl) ?_
  refine gw_geti (C := RX0) (T := TX0) (N := 15) hx hb hts inwX0 hown hK hP 0 10 rfl rfl rfl (by decide) (hts _ a43) (fun _ h9 => h9) dX0_takeStep_1 ?_
  refine lv_topi (fun v1 hv1 => ?_)
  refine lv_aload_n hx hb dX0_takeStep_4 rfl (lv_at hl 0 rfl) ?_
  refine gw_geti (C := RX0) (T := TX0) (N := 15) hx hb hts inwX0 hown hK hP 0 9 rfl rfl rfl (by decide) (hts _ a44) (fun _ h9 => h9) dX0_takeStep_5 ?_
  refine lv_topi (fun v2 hv2 => ?_)
  refine lv_icmp_lt (tgt := 17) hx hb dX0_takeStep_8 (by decide) (fun hc3 => ?_) (fun hc3 => ?_)
  · refine lv_aload_n hx hb dX0_takeStep_17 rfl (lv_at hl 0 rfl) ?_
    refine lv_dup hx hb dX0_takeStep_18 rfl ?_
    refine gw_geti (C := RX0) (T := TX0) (N := 15) hx hb hts inwX0 hown hK hP 0 10 rfl rfl rfl (by decide) (hts _ a43) (fun _ h9 => h9) dX0_takeStep_19 ?_
    refine lv_topi (fun v4 hv4 => ?_)
    refine lv_iconst (v := (nI 1)) hx hb dX0_takeStep_22 (by decide) ?_
    refine lv_iadd hx hb dX0_takeStep_23 ?_
    refine lv_topi (fun v5 hv5 => ?_)
    refine gw_put (C := RX0) (T := TX0) (N := 15) (ty := .int) hx hb hts inwX0 tyX0 tyX0_ok nmX0 hown hK hP hD hS 0 10 rfl rfl rfl (by decide) (hts _ a43) (fun _ h9 => h9) rfl (by decide +kernel) rfl rfl dX0_takeStep_24 (fun H locs hP hD hS => ?_)
    obtain ⟨sg6, esg6⟩ : ∃ z : Nat → Nat → Int32, z = gw_u sg0 0 (upd (sg0 0) 10 v5) := ⟨_, rfl⟩
    rw [← esg6] at hP hD
    have hk : KG 8 9 11 sg0 sg6 := by rw [esg6]; exact hk.wa 0 (by omega) (by omega) _
    refine lv_aload_n hx hb dX0_takeStep_27 rfl (lv_at hl 0 rfl) ?_
    refine lv_iload_n hx hb dX0_takeStep_28 rfl (lv_at hl 1 rfl) ?_
    refine lv_iconst (v := (nI 1)) hx hb dX0_takeStep_29 (by decide) ?_
    refine lv_iadd hx hb dX0_takeStep_30 ?_
    refine gw_top (y := (nI 5)) (by decide) ?_
    refine gc_go0 (va_runV (As := [.int (nI 5)]) (rest := []) ⟨hx, hb, hml, hown, hts⟩ (m_X0_tell5 l hl9 D cI cJ ad sg6 _  hk.1) (cwV 1 hts (gwV a45 a46 a47 a18 a48) rfl rfl rfl (by decide +kernel) ⟨by decide, by decide⟩) (gc_preV0 hK hP hD hS hA hE rfl rfl rfl) rfl rfl hl.1 rfl (lv_room (Nat.le_of_ble_eq_true rfl)) dX0_takeStep_31 ⟨by decide, by decide⟩) hD hS hA (fun v7 sg9 H locs hp10 hP hD hS => ?_)
    obtain ⟨hk1, rfl⟩ := hp10
    have hk := hk.trans hk1
    refine W.eq (g2 := F0 m 34 ls []) rfl ?_
    exact hret _ _ _ _ _ hP hS dX0_takeStep_34 (⟨hk, rfl⟩)
  · refine lv_aload_n hx hb dX0_takeStep_11 rfl (lv_at hl 0 rfl) ?_
    refine lv_iconst (v := (nI 1)) hx hb dX0_takeStep_12 (by decide) ?_
    refine gw_put (C := RX0) (T := TX0) (N := 15) (ty := .boolean) hx hb hts inwX0 tyX0 tyX0_ok nmX0 hown hK hP hD hS 0 11 rfl rfl rfl (by decide) (hts _ a49) (fun _ h9 => h9) rfl (by decide +kernel) rfl rfl dX0_takeStep_13 (fun H locs hP hD hS => ?_)
    obtain ⟨sg13, esg13⟩ : ∃ z : Nat → Nat → Int32, z = gw_u sg0 0 (upd (sg0 0) 11 (nI 1)) := ⟨_, rfl⟩
    rw [← esg13] at hP hD
    have hk : KG 8 9 11 sg0 sg13 := by rw [esg13]; exact hk.wa 0 (by omega) (by omega) _
    exact hret _ _ _ _ _ hP hS dX0_takeStep_16 (⟨hk, rfl⟩)
abbrev rmX0_tell4 : Room := { frames := 7, cells := 0, slots := 0, locals := 150 }
set_option maxRecDepth 100000 in
set_option maxHeartbeats 4000000 in
theorem m_X0_tell4 (l : Launch) (hl9 : l.stackTraces = false) (D : va_G) (cI : ClassId) (cJ : ClassId × ClassId) (ad : Nat → Nat) (sg0 : Nat → Nat → Int32) (sz : Nat) (hI : IvG 8 9 11 sg0) : gc_M l yX0_tellPatternsFrom wsX0_tellPatternsFrom rmX0_tell4 D vwCl (tyS cI cJ) cI cJ gxT gxN SS [.ref (ad 0), .int (nI 4)] ad sg0 sz 0 0 (fun v sg2 => KG 8 9 11 sg0 sg2 ∧ v = none) := by
  refine gc_Mv_of (cc := cX0_tellPatternsFrom) (maxL := 3) (by decide) rfl (Nat.le_of_ble_eq_true rfl) ?_
  intro p e s m below meth c A ls Q hin hE hret
  obtain ⟨⟨hx, hb, hml, hown, hts⟩, -, hlocks, -, hA, hP, hK, hD, hS, hl⟩ := hin
  have hts : ∀ w ∈ wsAll, w.before ([.ref (ad 0), .int (nI 4)] : List Value).toArray s = true := fun w h => hts w (List.mem_cons_of_mem _ h)
  have hl : lv_has ls 3 [(0, .ref (ad 0)), (1, .int (nI 4))] := hl
  have hk := KG.refl hI
  have c69 : ∀ (sg : Nat → Nat → Int32) (H : Heap) (locs : List Loc) (ls : Array Slot), (KG 8 9 11 sg0 sg) → va_P D vwCl (gw cI cJ ad sg SS) H → va_D A (gw cI cJ ad sg SS) → va_S A s.heap H locs → lv_has ls 3 [(0, .ref (ad 0)), (1, .int (nI 4))] → W p l e rmX0_tell4 s m ([.ref (ad 0), .int (nI 4)] : List Value).toArray below meth c H locs 0 0 Q (F0 m 69 ls []) := by
    intro sg H locs ls hk hP hD hS hl
    refine lv_aload_n hx hb dX0_tellPatternsFrom_69 rfl (lv_at hl 0 rfl) ?_
    refine lv_iload_n hx hb dX0_tellPatternsFrom_70 rfl (lv_at hl 1 rfl) ?_
    refine gc_go0 (va_runV (As := [.int (nI 4)]) (rest := []) ⟨hx, hb, hml, hown, hts⟩ (m_X0_takeLogsBack l hl9 D cI cJ ad sg _ 4 (by omega) hk.1) (cwV 1 hts (gwV a50 a51 a52 a18 a53) rfl rfl rfl (by decide +kernel) ⟨by decide, by decide⟩) (gc_preV0 hK hP hD hS hA hE rfl rfl rfl) rfl rfl hl.1 rfl (lv_room (Nat.le_of_ble_eq_true rfl)) dX0_tellPatternsFrom_71 ⟨by decide, by decide⟩) hD hS hA (fun v1 sg3 H locs hp4 hP hD hS => ?_)
    obtain ⟨hk1, rfl⟩ := hp4
    have hk := hk.trans hk1
    refine W.eq (g2 := F0 m 74 ls []) rfl ?_
    exact hret _ _ _ _ _ hP hS dX0_tellPatternsFrom_74 (⟨hk, rfl⟩)
  have c29 : ∀ (n9 : Nat) (i : Nat) (sg : Nat → Nat → Int32) (H : Heap) (locs : List Loc) (ls : Array Slot), 13 - i = n9 → i ≤ 13 → (KG 8 9 11 sg0 sg) → va_P D vwCl (gw cI cJ ad sg SS) H → va_D A (gw cI cJ ad sg SS) → va_S A s.heap H locs → lv_has ls 3 [(2, .int (nI i)), (0, .ref (ad 0)), (1, .int (nI 4))] → W p l e rmX0_tell4 s m ([.ref (ad 0), .int (nI 4)] : List Value).toArray below meth c H locs 0 0 Q (F0 m 29 ls []) := by
    intro n9
    induction n9 using Nat.strongRecOn with
    | ind n9 ih =>
    intro i sg H locs ls hn h1 hk hP hD hS hl
    subst hn
    refine lv_iload_n hx hb dX0_tellPatternsFrom_29 rfl (lv_at hl 0 rfl) ?_
    refine lv_bipush (v := (nI 12)) hx hb dX0_tellPatternsFrom_30 (by decide) ?_
    refine lv_icmp_gt (tgt := 69) hx hb dX0_tellPatternsFrom_32 (by decide) (fun hc7 => ?_) (fun hc7 => ?_)
    · have hc7 : 12 < i := (nI_ltI (a := 12) (b := i) (by omega) (by omega)).mp hc7
      exact c69  _ _ _ _  hk hP hD hS (lv_sub hl [1, 2] rfl)
    · have hc7 : ¬ (12 < i) := fun q => hc7 ((nI_ltI (a := 12) (b := i) (by omega) (by omega)).mpr q)
      refine lv_aload_n hx hb dX0_tellPatternsFrom_35 rfl (lv_at hl 1 rfl) ?_
      refine gw_geti (C := RX0) (T := TX0) (N := 15) hx hb hts inwX0 hown hK hP 0 11 rfl rfl rfl (by decide) (hts _ a49) (fun _ h9 => h9) dX0_tellPatternsFrom_36 ?_
      refine lv_topi (fun v8 hv8 => ?_)
      refine lv_if_ne (tgt := 69) hx hb dX0_tellPatternsFrom_39 (by decide) (fun hc9 => ?_) (fun hc9 => ?_)
      · exact c69  _ _ _ _  hk hP hD hS (lv_sub hl [1, 2] rfl)
      · refine lv_aload_n hx hb dX0_tellPatternsFrom_42 rfl (lv_at hl 1 rfl) ?_
        refine lv_iload_n hx hb dX0_tellPatternsFrom_43 rfl (lv_at hl 2 rfl) ?_
        refine gc_go0 (va_runV (As := [.int (nI 4)]) (rest := []) ⟨hx, hb, hml, hown, hts⟩ (m_X0_oneLogMoreFits l hl9 D cI cJ ad sg _ 4 (by omega) hk.1) (cwV 1 hts (gwV a54 a55 a56 a18 a57) rfl rfl rfl (by decide +kernel) ⟨by decide, by decide⟩) (gc_preV0 hK hP hD hS hA hE rfl rfl rfl) rfl rfl hl.1 rfl (lv_room (Nat.le_of_ble_eq_true rfl)) dX0_tellPatternsFrom_44 ⟨by decide, by decide⟩) hD hS hA (fun v10 sg12 H locs hp13 hP hD hS => ?_)
        obtain ⟨hk1, r16, rfl⟩ := hp13
        have hk := hk.trans hk1
        refine W.eq (g2 := F0 m 47 ls [.int r16]) rfl ?_
        refine lv_if_ne (tgt := 53) hx hb dX0_tellPatternsFrom_47 (by decide) (fun hc17 => ?_) (fun hc17 => ?_)
        · refine lv_aload_n hx hb dX0_tellPatternsFrom_53 rfl (lv_at hl 1 rfl) ?_
          refine lv_iload_n hx hb dX0_tellPatternsFrom_54 rfl (lv_at hl 2 rfl) ?_
          refine gc_go0 (va_runV (As := [.int (nI 4)]) (rest := []) ⟨hx, hb, hml, hown, hts⟩ (m_X0_addLog l hl9 D cI cJ ad sg12 _ 4 (by omega) hk.1) (cwV 1 hts (gwV a58 a59 a60 a18 a61) rfl rfl rfl (by decide +kernel) ⟨by decide, by decide⟩) (gc_preV0 hK hP hD hS hA hE rfl rfl rfl) rfl rfl hl.1 rfl (lv_room (Nat.le_of_ble_eq_true rfl)) dX0_tellPatternsFrom_55 ⟨by decide, by decide⟩) hD hS hA (fun v18 sg20 H locs hp21 hP hD hS => ?_)
          obtain ⟨hk1, rfl⟩ := hp21
          have hk := hk.trans hk1
          refine W.eq (g2 := F0 m 58 ls []) rfl ?_
          refine lv_aload_n hx hb dX0_tellPatternsFrom_58 rfl (lv_at hl 1 rfl) ?_
          refine lv_iload_n hx hb dX0_tellPatternsFrom_59 rfl (lv_at hl 2 rfl) ?_
          refine gc_go0 (va_runV (As := [.int (nI 4)]) (rest := []) ⟨hx, hb, hml, hown, hts⟩ (m_X0_step4 l hl9 D cI cJ ad sg20 _  hk.1) (cwV 1 hts (gwV a62 a63 a64 a18 a65) rfl rfl rfl (by decide +kernel) ⟨by decide, by decide⟩) (gc_preV0 hK hP hD hS hA hE rfl rfl rfl) rfl rfl hl.1 rfl (lv_room (Nat.le_of_ble_eq_true rfl)) dX0_tellPatternsFrom_60 ⟨by decide, by decide⟩) hD hS hA (fun v24 sg26 H locs hp27 hP hD hS => ?_)
          obtain ⟨hk1, rfl⟩ := hp27
          have hk := hk.trans hk1
          refine W.eq (g2 := F0 m 63 ls []) rfl ?_
          refine lv_iinc (k := 0) (v := (nI (i + 1))) (lv' := [(2, .int (nI (i + 1))), (0, .ref (ad 0)), (1, .int (nI 4))]) hx hb dX0_tellPatternsFrom_63 hl rfl (nI_1 _) (by decide) rfl (fun ls hl => ?_)
          refine lv_goto (tgt := 29) hx hb dX0_tellPatternsFrom_66 (by decide) ?_
          exact ih _ (by omega) (i + 1) _ _ _ _ rfl (by omega) hk hP hD hS (lv_sub hl [0, 1, 2] rfl)
        · refine lv_goto (tgt := 69) hx hb dX0_tellPatternsFrom_50 (by decide) ?_
          exact c69  _ _ _ _  hk hP hD hS (lv_sub hl [1, 2] rfl)
  have c22 : ∀ (sg : Nat → Nat → Int32) (H : Heap) (locs : List Loc) (ls : Array Slot), (KG 8 9 11 sg0 sg) → va_P D vwCl (gw cI cJ ad sg SS) H → va_D A (gw cI cJ ad sg SS) → va_S A s.heap H locs → lv_has ls 3 [(0, .ref (ad 0)), (1, .int (nI 4))] → W p l e rmX0_tell4 s m ([.ref (ad 0), .int (nI 4)] : List Value).toArray below meth c H locs 0 0 Q (F0 m 22 ls []) := by
    intro sg H locs ls hk hP hD hS hl
    refine lv_aload_n hx hb dX0_tellPatternsFrom_22 rfl (lv_at hl 0 rfl) ?_
    refine lv_iload_n hx hb dX0_tellPatternsFrom_23 rfl (lv_at hl 1 rfl) ?_
    refine gc_go0 (va_runV (As := [.int (nI 4)]) (rest := []) ⟨hx, hb, hml, hown, hts⟩ (m_X0_step4 l hl9 D cI cJ ad sg _  hk.1) (cwV 1 hts (gwV a62 a63 a64 a18 a65) rfl rfl rfl (by decide +kernel) ⟨by decide, by decide⟩) (gc_preV0 hK hP hD hS hA hE rfl rfl rfl) rfl rfl hl.1 rfl (lv_room (Nat.le_of_ble_eq_true rfl)) dX0_tellPatternsFrom_24 ⟨by decide, by decide⟩) hD hS hA (fun v30 sg32 H locs hp33 hP hD hS => ?_)
    obtain ⟨hk1, rfl⟩ := hp33
    have hk := hk.trans hk1
    refine W.eq (g2 := F0 m 27 ls []) rfl ?_
    refine lv_iconst (v := (nI 1)) hx hb dX0_tellPatternsFrom_27 (by decide) ?_
    refine lv_istore_n (lv' := [(2, .int (nI 1)), (0, .ref (ad 0)), (1, .int (nI 4))]) hx hb dX0_tellPatternsFrom_28 rfl hl (by decide) rfl (fun ls hl => ?_)
    exact c29 _ 1 _ _ _ _ rfl (by omega) hk hP hD hS (lv_sub hl [0, 1, 2] rfl)
  have c17 : ∀ (sg : Nat → Nat → Int32) (H : Heap) (locs : List Loc) (ls : Array Slot), (KG 8 9 11 sg0 sg) → va_P D vwCl (gw cI cJ ad sg SS) H → va_D A (gw cI cJ ad sg SS) → va_S A s.heap H locs → lv_has ls 3 [(0, .ref (ad 0)), (1, .int (nI 4))] → W p l e rmX0_tell4 s m ([.ref (ad 0), .int (nI 4)] : List Value).toArray below meth c H locs 0 0 Q (F0 m 17 ls []) := by
    intro sg H locs ls hk hP hD hS hl
    refine lv_aload_n hx hb dX0_tellPatternsFrom_17 rfl (lv_at hl 0 rfl) ?_
    refine gc_go0 (va_runV (As := []) (rest := []) ⟨hx, hb, hml, hown, hts⟩ (m_X0_lookAtPlan l hl9 D cI cJ ad sg _  hk.1) (cwV 0 hts (gwV a39 a40 a41 a18 a42) rfl rfl rfl (by decide +kernel) ⟨by decide, by decide⟩) (gc_preV0 hK hP hD hS hA hE rfl rfl rfl) rfl rfl hl.1 rfl (lv_room (Nat.le_of_ble_eq_true rfl)) dX0_tellPatternsFrom_18 ⟨by decide, by decide⟩) hD hS hA (fun v36 sg38 H locs hp39 hP hD hS => ?_)
    obtain ⟨hk1, rfl⟩ := hp39
    have hk := hk.trans hk1
    refine W.eq (g2 := F0 m 21 ls []) rfl ?_
    exact hret _ _ _ _ _ hP hS dX0_tellPatternsFrom_21 (⟨hk, rfl⟩)
  refine lv_iload_n hx hb dX0_tellPatternsFrom_0 rfl (lv_at hl 1 rfl) ?_
  refine lv_aload_n hx hb dX0_tellPatternsFrom_1 rfl (lv_at hl 0 rfl) ?_
  refine gw_getr (C := RX0) (T := TX0) (N := 15) hx hb hts inwX0 hown hK hP 0 0 8 rfl rfl rfl (by decide) (hts _ a6) (fun _ h9 => h9) dX0_tellPatternsFrom_2 ?_
  refine gw_getiN (C := RX1) (T := TX1) (N := 12) hx hb hts inwX1 hown hK hP 8 9 rfl rfl rfl (by decide) (hE.nest _ (.fieldLinkNest RX0 81 RX1 "patterns" "I" RX2) (by decide +kernel) rfl) (fun _ h9 => h9) dX0_tellPatternsFrom_5 ?_
  obtain ⟨N42, hN42, eN42⟩ := hk.1.1
  refine gw_top (y := (nI N42)) (eN42) ?_
  refine lv_icmp_ge (tgt := 17) hx hb dX0_tellPatternsFrom_8 (by decide) (fun hc43 => ?_) (fun hc43 => ?_)
  · have hc43 : N42 ≤ 4 := (nI_leI (a := N42) (b := 4) (by omega) (by omega)).mp hc43
    exact c17  _ _ _ _  hk hP hD hS (lv_sub hl [0, 1] rfl)
  · have hc43 : ¬ (N42 ≤ 4) := fun q => hc43 ((nI_leI (a := N42) (b := 4) (by omega) (by omega)).mpr q)
    refine lv_iload_n hx hb dX0_tellPatternsFrom_11 rfl (lv_at hl 1 rfl) ?_
    refine lv_bipush (v := (nI 6)) hx hb dX0_tellPatternsFrom_12 (by decide) ?_
    refine lv_icmp_lt (tgt := 22) hx hb dX0_tellPatternsFrom_14 (by decide) (fun hc44 => ?_) (fun hc44 => ?_)
    · exact c22  _ _ _ _  hk hP hD hS (lv_sub hl [0, 1] rfl)
    · exact absurd hc44 (by decide)
abbrev rmX0_step3 : Room := { frames := 8, cells := 0, slots := 0, locals := 172 }
set_option maxRecDepth 100000 in
set_option maxHeartbeats 4000000 in
theorem m_X0_step3 (l : Launch) (hl9 : l.stackTraces = false) (D : va_G) (cI : ClassId) (cJ : ClassId × ClassId) (ad : Nat → Nat) (sg0 : Nat → Nat → Int32) (sz : Nat) (hI : IvG 8 9 11 sg0) : gc_M l yX0_takeStep wsX0_takeStep rmX0_step3 D vwCl (tyS cI cJ) cI cJ gxT gxN SS [.ref (ad 0), .int (nI 3)] ad sg0 sz 0 0 (fun v sg2 => KG 8 9 11 sg0 sg2 ∧ v = none) := by
  refine gc_Mv_of (cc := cX0_takeStep) (maxL := 2) (by decide) rfl (Nat.le_of_ble_eq_true rfl) ?_
  intro p e s m below meth c A ls Q hin hE hret
  obtain ⟨⟨hx, hb, hml, hown, hts⟩, -, hlocks, -, hA, hP, hK, hD, hS, hl⟩ := hin
  have hts : ∀ w ∈ wsAll, w.before ([.ref (ad 0), .int (nI 3)] : List Value).toArray s = true := fun w h => hts w (List.mem_cons_of_mem _ h)
  have hl : lv_has ls 2 [(0, .ref (ad 0)), (1, .int (nI 3))] := hl
  have hk := KG.refl hI
  refine lv_aload_n hx hb dX0_takeStep_0 rfl (lv_at hl 0 rfl) ?_
  refine gw_geti (C := RX0) (T := TX0) (N := 15) hx hb hts inwX0 hown hK hP 0 10 rfl rfl rfl (by decide) (hts _ a43) (fun _ h9 => h9) dX0_takeStep_1 ?_
  refine lv_topi (fun v1 hv1 => ?_)
  refine lv_aload_n hx hb dX0_takeStep_4 rfl (lv_at hl 0 rfl) ?_
  refine gw_geti (C := RX0) (T := TX0) (N := 15) hx hb hts inwX0 hown hK hP 0 9 rfl rfl rfl (by decide) (hts _ a44) (fun _ h9 => h9) dX0_takeStep_5 ?_
  refine lv_topi (fun v2 hv2 => ?_)
  refine lv_icmp_lt (tgt := 17) hx hb dX0_takeStep_8 (by decide) (fun hc3 => ?_) (fun hc3 => ?_)
  · refine lv_aload_n hx hb dX0_takeStep_17 rfl (lv_at hl 0 rfl) ?_
    refine lv_dup hx hb dX0_takeStep_18 rfl ?_
    refine gw_geti (C := RX0) (T := TX0) (N := 15) hx hb hts inwX0 hown hK hP 0 10 rfl rfl rfl (by decide) (hts _ a43) (fun _ h9 => h9) dX0_takeStep_19 ?_
    refine lv_topi (fun v4 hv4 => ?_)
    refine lv_iconst (v := (nI 1)) hx hb dX0_takeStep_22 (by decide) ?_
    refine lv_iadd hx hb dX0_takeStep_23 ?_
    refine lv_topi (fun v5 hv5 => ?_)
    refine gw_put (C := RX0) (T := TX0) (N := 15) (ty := .int) hx hb hts inwX0 tyX0 tyX0_ok nmX0 hown hK hP hD hS 0 10 rfl rfl rfl (by decide) (hts _ a43) (fun _ h9 => h9) rfl (by decide +kernel) rfl rfl dX0_takeStep_24 (fun H locs hP hD hS => ?_)
    obtain ⟨sg6, esg6⟩ : ∃ z : Nat → Nat → Int32, z = gw_u sg0 0 (upd (sg0 0) 10 v5) := ⟨_, rfl⟩
    rw [← esg6] at hP hD
    have hk : KG 8 9 11 sg0 sg6 := by rw [esg6]; exact hk.wa 0 (by omega) (by omega) _
    refine lv_aload_n hx hb dX0_takeStep_27 rfl (lv_at hl 0 rfl) ?_
    refine lv_iload_n hx hb dX0_takeStep_28 rfl (lv_at hl 1 rfl) ?_
    refine lv_iconst (v := (nI 1)) hx hb dX0_takeStep_29 (by decide) ?_
    refine lv_iadd hx hb dX0_takeStep_30 ?_
    refine gw_top (y := (nI 4)) (by decide) ?_
    refine gc_go0 (va_runV (As := [.int (nI 4)]) (rest := []) ⟨hx, hb, hml, hown, hts⟩ (m_X0_tell4 l hl9 D cI cJ ad sg6 _  hk.1) (cwV 1 hts (gwV a45 a46 a47 a18 a48) rfl rfl rfl (by decide +kernel) ⟨by decide, by decide⟩) (gc_preV0 hK hP hD hS hA hE rfl rfl rfl) rfl rfl hl.1 rfl (lv_room (Nat.le_of_ble_eq_true rfl)) dX0_takeStep_31 ⟨by decide, by decide⟩) hD hS hA (fun v7 sg9 H locs hp10 hP hD hS => ?_)
    obtain ⟨hk1, rfl⟩ := hp10
    have hk := hk.trans hk1
    refine W.eq (g2 := F0 m 34 ls []) rfl ?_
    exact hret _ _ _ _ _ hP hS dX0_takeStep_34 (⟨hk, rfl⟩)
  · refine lv_aload_n hx hb dX0_takeStep_11 rfl (lv_at hl 0 rfl) ?_
    refine lv_iconst (v := (nI 1)) hx hb dX0_takeStep_12 (by decide) ?_
    refine gw_put (C := RX0) (T := TX0) (N := 15) (ty := .boolean) hx hb hts inwX0 tyX0 tyX0_ok nmX0 hown hK hP hD hS 0 11 rfl rfl rfl (by decide) (hts _ a49) (fun _ h9 => h9) rfl (by decide +kernel) rfl rfl dX0_takeStep_13 (fun H locs hP hD hS => ?_)
    obtain ⟨sg13, esg13⟩ : ∃ z : Nat → Nat → Int32, z = gw_u sg0 0 (upd (sg0 0) 11 (nI 1)) := ⟨_, rfl⟩
    rw [← esg13] at hP hD
    have hk : KG 8 9 11 sg0 sg13 := by rw [esg13]; exact hk.wa 0 (by omega) (by omega) _
    exact hret _ _ _ _ _ hP hS dX0_takeStep_16 (⟨hk, rfl⟩)
abbrev rmX0_tell3 : Room := { frames := 9, cells := 0, slots := 0, locals := 193 }
set_option maxRecDepth 100000 in
set_option maxHeartbeats 4000000 in
theorem m_X0_tell3 (l : Launch) (hl9 : l.stackTraces = false) (D : va_G) (cI : ClassId) (cJ : ClassId × ClassId) (ad : Nat → Nat) (sg0 : Nat → Nat → Int32) (sz : Nat) (hI : IvG 8 9 11 sg0) : gc_M l yX0_tellPatternsFrom wsX0_tellPatternsFrom rmX0_tell3 D vwCl (tyS cI cJ) cI cJ gxT gxN SS [.ref (ad 0), .int (nI 3)] ad sg0 sz 0 0 (fun v sg2 => KG 8 9 11 sg0 sg2 ∧ v = none) := by
  refine gc_Mv_of (cc := cX0_tellPatternsFrom) (maxL := 3) (by decide) rfl (Nat.le_of_ble_eq_true rfl) ?_
  intro p e s m below meth c A ls Q hin hE hret
  obtain ⟨⟨hx, hb, hml, hown, hts⟩, -, hlocks, -, hA, hP, hK, hD, hS, hl⟩ := hin
  have hts : ∀ w ∈ wsAll, w.before ([.ref (ad 0), .int (nI 3)] : List Value).toArray s = true := fun w h => hts w (List.mem_cons_of_mem _ h)
  have hl : lv_has ls 3 [(0, .ref (ad 0)), (1, .int (nI 3))] := hl
  have hk := KG.refl hI
  have c69 : ∀ (sg : Nat → Nat → Int32) (H : Heap) (locs : List Loc) (ls : Array Slot), (KG 8 9 11 sg0 sg) → va_P D vwCl (gw cI cJ ad sg SS) H → va_D A (gw cI cJ ad sg SS) → va_S A s.heap H locs → lv_has ls 3 [(0, .ref (ad 0)), (1, .int (nI 3))] → W p l e rmX0_tell3 s m ([.ref (ad 0), .int (nI 3)] : List Value).toArray below meth c H locs 0 0 Q (F0 m 69 ls []) := by
    intro sg H locs ls hk hP hD hS hl
    refine lv_aload_n hx hb dX0_tellPatternsFrom_69 rfl (lv_at hl 0 rfl) ?_
    refine lv_iload_n hx hb dX0_tellPatternsFrom_70 rfl (lv_at hl 1 rfl) ?_
    refine gc_go0 (va_runV (As := [.int (nI 3)]) (rest := []) ⟨hx, hb, hml, hown, hts⟩ (m_X0_takeLogsBack l hl9 D cI cJ ad sg _ 3 (by omega) hk.1) (cwV 1 hts (gwV a50 a51 a52 a18 a53) rfl rfl rfl (by decide +kernel) ⟨by decide, by decide⟩) (gc_preV0 hK hP hD hS hA hE rfl rfl rfl) rfl rfl hl.1 rfl (lv_room (Nat.le_of_ble_eq_true rfl)) dX0_tellPatternsFrom_71 ⟨by decide, by decide⟩) hD hS hA (fun v1 sg3 H locs hp4 hP hD hS => ?_)
    obtain ⟨hk1, rfl⟩ := hp4
    have hk := hk.trans hk1
    refine W.eq (g2 := F0 m 74 ls []) rfl ?_
    exact hret _ _ _ _ _ hP hS dX0_tellPatternsFrom_74 (⟨hk, rfl⟩)
  have c29 : ∀ (n9 : Nat) (i : Nat) (sg : Nat → Nat → Int32) (H : Heap) (locs : List Loc) (ls : Array Slot), 13 - i = n9 → i ≤ 13 → (KG 8 9 11 sg0 sg) → va_P D vwCl (gw cI cJ ad sg SS) H → va_D A (gw cI cJ ad sg SS) → va_S A s.heap H locs → lv_has ls 3 [(2, .int (nI i)), (0, .ref (ad 0)), (1, .int (nI 3))] → W p l e rmX0_tell3 s m ([.ref (ad 0), .int (nI 3)] : List Value).toArray below meth c H locs 0 0 Q (F0 m 29 ls []) := by
    intro n9
    induction n9 using Nat.strongRecOn with
    | ind n9 ih =>
    intro i sg H locs ls hn h1 hk hP hD hS hl
    subst hn
    refine lv_iload_n hx hb dX0_tellPatternsFrom_29 rfl (lv_at hl 0 rfl) ?_
    refine lv_bipush (v := (nI 12)) hx hb dX0_tellPatternsFrom_30 (by decide) ?_
    refine lv_icmp_gt (tgt := 69) hx hb dX0_tellPatternsFrom_32 (by decide) (fun hc7 => ?_) (fun hc7 => ?_)
    · have hc7 : 12 < i := (nI_ltI (a := 12) (b := i) (by omega) (by omega)).mp hc7
      exact c69  _ _ _ _  hk hP hD hS (lv_sub hl [1, 2] rfl)
    · have hc7 : ¬ (12 < i) := fun q => hc7 ((nI_ltI (a := 12) (b := i) (by omega) (by omega)).mpr q)
      refine lv_aload_n hx hb dX0_tellPatternsFrom_35 rfl (lv_at hl 1 rfl) ?_
      refine gw_geti (C := RX0) (T := TX0) (N := 15) hx hb hts inwX0 hown hK hP 0 11 rfl rfl rfl (by decide) (hts _ a49) (fun _ h9 => h9) dX0_tellPatternsFrom_36 ?_
      refine lv_topi (fun v8 hv8 => ?_)
      refine lv_if_ne (tgt := 69) hx hb dX0_tellPatternsFrom_39 (by decide) (fun hc9 => ?_) (fun hc9 => ?_)
      · exact c69  _ _ _ _  hk hP hD hS (lv_sub hl [1, 2] rfl)
      · refine lv_aload_n hx hb dX0_tellPatternsFrom_42 rfl (lv_at hl 1 rfl) ?_
        refine lv_iload_n hx hb dX0_tellPatternsFrom_43 rfl (lv_at hl 2 rfl) ?_
        refine gc_go0 (va_runV (As := [.int (nI 3)]) (rest := []) ⟨hx, hb, hml, hown, hts⟩ (m_X0_oneLogMoreFits l hl9 D cI cJ ad sg _ 3 (by omega) hk.1) (cwV 1 hts (gwV a54 a55 a56 a18 a57) rfl rfl rfl (by decide +kernel) ⟨by decide, by decide⟩) (gc_preV0 hK hP hD hS hA hE rfl rfl rfl) rfl rfl hl.1 rfl (lv_room (Nat.le_of_ble_eq_true rfl)) dX0_tellPatternsFrom_44 ⟨by decide, by decide⟩) hD hS hA (fun v10 sg12 H locs hp13 hP hD hS => ?_)
        obtain ⟨hk1, r16, rfl⟩ := hp13
        have hk := hk.trans hk1
        refine W.eq (g2 := F0 m 47 ls [.int r16]) rfl ?_
        refine lv_if_ne (tgt := 53) hx hb dX0_tellPatternsFrom_47 (by decide) (fun hc17 => ?_) (fun hc17 => ?_)
        · refine lv_aload_n hx hb dX0_tellPatternsFrom_53 rfl (lv_at hl 1 rfl) ?_
          refine lv_iload_n hx hb dX0_tellPatternsFrom_54 rfl (lv_at hl 2 rfl) ?_
          refine gc_go0 (va_runV (As := [.int (nI 3)]) (rest := []) ⟨hx, hb, hml, hown, hts⟩ (m_X0_addLog l hl9 D cI cJ ad sg12 _ 3 (by omega) hk.1) (cwV 1 hts (gwV a58 a59 a60 a18 a61) rfl rfl rfl (by decide +kernel) ⟨by decide, by decide⟩) (gc_preV0 hK hP hD hS hA hE rfl rfl rfl) rfl rfl hl.1 rfl (lv_room (Nat.le_of_ble_eq_true rfl)) dX0_tellPatternsFrom_55 ⟨by decide, by decide⟩) hD hS hA (fun v18 sg20 H locs hp21 hP hD hS => ?_)
          obtain ⟨hk1, rfl⟩ := hp21
          have hk := hk.trans hk1
          refine W.eq (g2 := F0 m 58 ls []) rfl ?_
          refine lv_aload_n hx hb dX0_tellPatternsFrom_58 rfl (lv_at hl 1 rfl) ?_
          refine lv_iload_n hx hb dX0_tellPatternsFrom_59 rfl (lv_at hl 2 rfl) ?_
          refine gc_go0 (va_runV (As := [.int (nI 3)]) (rest := []) ⟨hx, hb, hml, hown, hts⟩ (m_X0_step3 l hl9 D cI cJ ad sg20 _  hk.1) (cwV 1 hts (gwV a62 a63 a64 a18 a65) rfl rfl rfl (by decide +kernel) ⟨by decide, by decide⟩) (gc_preV0 hK hP hD hS hA hE rfl rfl rfl) rfl rfl hl.1 rfl (lv_room (Nat.le_of_ble_eq_true rfl)) dX0_tellPatternsFrom_60 ⟨by decide, by decide⟩) hD hS hA (fun v24 sg26 H locs hp27 hP hD hS => ?_)
          obtain ⟨hk1, rfl⟩ := hp27
          have hk := hk.trans hk1
          refine W.eq (g2 := F0 m 63 ls []) rfl ?_
          refine lv_iinc (k := 0) (v := (nI (i + 1))) (lv' := [(2, .int (nI (i + 1))), (0, .ref (ad 0)), (1, .int (nI 3))]) hx hb dX0_tellPatternsFrom_63 hl rfl (nI_1 _) (by decide) rfl (fun ls hl => ?_)
          refine lv_goto (tgt := 29) hx hb dX0_tellPatternsFrom_66 (by decide) ?_
          exact ih _ (by omega) (i + 1) _ _ _ _ rfl (by omega) hk hP hD hS (lv_sub hl [0, 1, 2] rfl)
        · refine lv_goto (tgt := 69) hx hb dX0_tellPatternsFrom_50 (by decide) ?_
          exact c69  _ _ _ _  hk hP hD hS (lv_sub hl [1, 2] rfl)
  have c22 : ∀ (sg : Nat → Nat → Int32) (H : Heap) (locs : List Loc) (ls : Array Slot), (KG 8 9 11 sg0 sg) → va_P D vwCl (gw cI cJ ad sg SS) H → va_D A (gw cI cJ ad sg SS) → va_S A s.heap H locs → lv_has ls 3 [(0, .ref (ad 0)), (1, .int (nI 3))] → W p l e rmX0_tell3 s m ([.ref (ad 0), .int (nI 3)] : List Value).toArray below meth c H locs 0 0 Q (F0 m 22 ls []) := by
    intro sg H locs ls hk hP hD hS hl
    refine lv_aload_n hx hb dX0_tellPatternsFrom_22 rfl (lv_at hl 0 rfl) ?_
    refine lv_iload_n hx hb dX0_tellPatternsFrom_23 rfl (lv_at hl 1 rfl) ?_
    refine gc_go0 (va_runV (As := [.int (nI 3)]) (rest := []) ⟨hx, hb, hml, hown, hts⟩ (m_X0_step3 l hl9 D cI cJ ad sg _  hk.1) (cwV 1 hts (gwV a62 a63 a64 a18 a65) rfl rfl rfl (by decide +kernel) ⟨by decide, by decide⟩) (gc_preV0 hK hP hD hS hA hE rfl rfl rfl) rfl rfl hl.1 rfl (lv_room (Nat.le_of_ble_eq_true rfl)) dX0_tellPatternsFrom_24 ⟨by decide, by decide⟩) hD hS hA (fun v30 sg32 H locs hp33 hP hD hS => ?_)
    obtain ⟨hk1, rfl⟩ := hp33
    have hk := hk.trans hk1
    refine W.eq (g2 := F0 m 27 ls []) rfl ?_
    refine lv_iconst (v := (nI 1)) hx hb dX0_tellPatternsFrom_27 (by decide) ?_
    refine lv_istore_n (lv' := [(2, .int (nI 1)), (0, .ref (ad 0)), (1, .int (nI 3))]) hx hb dX0_tellPatternsFrom_28 rfl hl (by decide) rfl (fun ls hl => ?_)
    exact c29 _ 1 _ _ _ _ rfl (by omega) hk hP hD hS (lv_sub hl [0, 1, 2] rfl)
  have c17 : ∀ (sg : Nat → Nat → Int32) (H : Heap) (locs : List Loc) (ls : Array Slot), (KG 8 9 11 sg0 sg) → va_P D vwCl (gw cI cJ ad sg SS) H → va_D A (gw cI cJ ad sg SS) → va_S A s.heap H locs → lv_has ls 3 [(0, .ref (ad 0)), (1, .int (nI 3))] → W p l e rmX0_tell3 s m ([.ref (ad 0), .int (nI 3)] : List Value).toArray below meth c H locs 0 0 Q (F0 m 17 ls []) := by
    intro sg H locs ls hk hP hD hS hl
    refine lv_aload_n hx hb dX0_tellPatternsFrom_17 rfl (lv_at hl 0 rfl) ?_
    refine gc_go0 (va_runV (As := []) (rest := []) ⟨hx, hb, hml, hown, hts⟩ (m_X0_lookAtPlan l hl9 D cI cJ ad sg _  hk.1) (cwV 0 hts (gwV a39 a40 a41 a18 a42) rfl rfl rfl (by decide +kernel) ⟨by decide, by decide⟩) (gc_preV0 hK hP hD hS hA hE rfl rfl rfl) rfl rfl hl.1 rfl (lv_room (Nat.le_of_ble_eq_true rfl)) dX0_tellPatternsFrom_18 ⟨by decide, by decide⟩) hD hS hA (fun v36 sg38 H locs hp39 hP hD hS => ?_)
    obtain ⟨hk1, rfl⟩ := hp39
    have hk := hk.trans hk1
    refine W.eq (g2 := F0 m 21 ls []) rfl ?_
    exact hret _ _ _ _ _ hP hS dX0_tellPatternsFrom_21 (⟨hk, rfl⟩)
  refine lv_iload_n hx hb dX0_tellPatternsFrom_0 rfl (lv_at hl 1 rfl) ?_
  refine lv_aload_n hx hb dX0_tellPatternsFrom_1 rfl (lv_at hl 0 rfl) ?_
  refine gw_getr (C := RX0) (T := TX0) (N := 15) hx hb hts inwX0 hown hK hP 0 0 8 rfl rfl rfl (by decide) (hts _ a6) (fun _ h9 => h9) dX0_tellPatternsFrom_2 ?_
  refine gw_getiN (C := RX1) (T := TX1) (N := 12) hx hb hts inwX1 hown hK hP 8 9 rfl rfl rfl (by decide) (hE.nest _ (.fieldLinkNest RX0 81 RX1 "patterns" "I" RX2) (by decide +kernel) rfl) (fun _ h9 => h9) dX0_tellPatternsFrom_5 ?_
  obtain ⟨N42, hN42, eN42⟩ := hk.1.1
  refine gw_top (y := (nI N42)) (eN42) ?_
  refine lv_icmp_ge (tgt := 17) hx hb dX0_tellPatternsFrom_8 (by decide) (fun hc43 => ?_) (fun hc43 => ?_)
  · have hc43 : N42 ≤ 3 := (nI_leI (a := N42) (b := 3) (by omega) (by omega)).mp hc43
    exact c17  _ _ _ _  hk hP hD hS (lv_sub hl [0, 1] rfl)
  · have hc43 : ¬ (N42 ≤ 3) := fun q => hc43 ((nI_leI (a := N42) (b := 3) (by omega) (by omega)).mpr q)
    refine lv_iload_n hx hb dX0_tellPatternsFrom_11 rfl (lv_at hl 1 rfl) ?_
    refine lv_bipush (v := (nI 6)) hx hb dX0_tellPatternsFrom_12 (by decide) ?_
    refine lv_icmp_lt (tgt := 22) hx hb dX0_tellPatternsFrom_14 (by decide) (fun hc44 => ?_) (fun hc44 => ?_)
    · exact c22  _ _ _ _  hk hP hD hS (lv_sub hl [0, 1] rfl)
    · exact absurd hc44 (by decide)
abbrev rmX0_step2 : Room := { frames := 10, cells := 0, slots := 0, locals := 215 }
set_option maxRecDepth 100000 in
set_option maxHeartbeats 4000000 in
theorem m_X0_step2 (l : Launch) (hl9 : l.stackTraces = false) (D : va_G) (cI : ClassId) (cJ : ClassId × ClassId) (ad : Nat → Nat) (sg0 : Nat → Nat → Int32) (sz : Nat) (hI : IvG 8 9 11 sg0) : gc_M l yX0_takeStep wsX0_takeStep rmX0_step2 D vwCl (tyS cI cJ) cI cJ gxT gxN SS [.ref (ad 0), .int (nI 2)] ad sg0 sz 0 0 (fun v sg2 => KG 8 9 11 sg0 sg2 ∧ v = none) := by
  refine gc_Mv_of (cc := cX0_takeStep) (maxL := 2) (by decide) rfl (Nat.le_of_ble_eq_true rfl) ?_
  intro p e s m below meth c A ls Q hin hE hret
  obtain ⟨⟨hx, hb, hml, hown, hts⟩, -, hlocks, -, hA, hP, hK, hD, hS, hl⟩ := hin
  have hts : ∀ w ∈ wsAll, w.before ([.ref (ad 0), .int (nI 2)] : List Value).toArray s = true := fun w h => hts w (List.mem_cons_of_mem _ h)
  have hl : lv_has ls 2 [(0, .ref (ad 0)), (1, .int (nI 2))] := hl
  have hk := KG.refl hI
  refine lv_aload_n hx hb dX0_takeStep_0 rfl (lv_at hl 0 rfl) ?_
  refine gw_geti (C := RX0) (T := TX0) (N := 15) hx hb hts inwX0 hown hK hP 0 10 rfl rfl rfl (by decide) (hts _ a43) (fun _ h9 => h9) dX0_takeStep_1 ?_
  refine lv_topi (fun v1 hv1 => ?_)
  refine lv_aload_n hx hb dX0_takeStep_4 rfl (lv_at hl 0 rfl) ?_
  refine gw_geti (C := RX0) (T := TX0) (N := 15) hx hb hts inwX0 hown hK hP 0 9 rfl rfl rfl (by decide) (hts _ a44) (fun _ h9 => h9) dX0_takeStep_5 ?_
  refine lv_topi (fun v2 hv2 => ?_)
  refine lv_icmp_lt (tgt := 17) hx hb dX0_takeStep_8 (by decide) (fun hc3 => ?_) (fun hc3 => ?_)
  · refine lv_aload_n hx hb dX0_takeStep_17 rfl (lv_at hl 0 rfl) ?_
    refine lv_dup hx hb dX0_takeStep_18 rfl ?_
    refine gw_geti (C := RX0) (T := TX0) (N := 15) hx hb hts inwX0 hown hK hP 0 10 rfl rfl rfl (by decide) (hts _ a43) (fun _ h9 => h9) dX0_takeStep_19 ?_
    refine lv_topi (fun v4 hv4 => ?_)
    refine lv_iconst (v := (nI 1)) hx hb dX0_takeStep_22 (by decide) ?_
    refine lv_iadd hx hb dX0_takeStep_23 ?_
    refine lv_topi (fun v5 hv5 => ?_)
    refine gw_put (C := RX0) (T := TX0) (N := 15) (ty := .int) hx hb hts inwX0 tyX0 tyX0_ok nmX0 hown hK hP hD hS 0 10 rfl rfl rfl (by decide) (hts _ a43) (fun _ h9 => h9) rfl (by decide +kernel) rfl rfl dX0_takeStep_24 (fun H locs hP hD hS => ?_)
    obtain ⟨sg6, esg6⟩ : ∃ z : Nat → Nat → Int32, z = gw_u sg0 0 (upd (sg0 0) 10 v5) := ⟨_, rfl⟩
    rw [← esg6] at hP hD
    have hk : KG 8 9 11 sg0 sg6 := by rw [esg6]; exact hk.wa 0 (by omega) (by omega) _
    refine lv_aload_n hx hb dX0_takeStep_27 rfl (lv_at hl 0 rfl) ?_
    refine lv_iload_n hx hb dX0_takeStep_28 rfl (lv_at hl 1 rfl) ?_
    refine lv_iconst (v := (nI 1)) hx hb dX0_takeStep_29 (by decide) ?_
    refine lv_iadd hx hb dX0_takeStep_30 ?_
    refine gw_top (y := (nI 3)) (by decide) ?_
    refine gc_go0 (va_runV (As := [.int (nI 3)]) (rest := []) ⟨hx, hb, hml, hown, hts⟩ (m_X0_tell3 l hl9 D cI cJ ad sg6 _  hk.1) (cwV 1 hts (gwV a45 a46 a47 a18 a48) rfl rfl rfl (by decide +kernel) ⟨by decide, by decide⟩) (gc_preV0 hK hP hD hS hA hE rfl rfl rfl) rfl rfl hl.1 rfl (lv_room (Nat.le_of_ble_eq_true rfl)) dX0_takeStep_31 ⟨by decide, by decide⟩) hD hS hA (fun v7 sg9 H locs hp10 hP hD hS => ?_)
    obtain ⟨hk1, rfl⟩ := hp10
    have hk := hk.trans hk1
    refine W.eq (g2 := F0 m 34 ls []) rfl ?_
    exact hret _ _ _ _ _ hP hS dX0_takeStep_34 (⟨hk, rfl⟩)
  · refine lv_aload_n hx hb dX0_takeStep_11 rfl (lv_at hl 0 rfl) ?_
    refine lv_iconst (v := (nI 1)) hx hb dX0_takeStep_12 (by decide) ?_
    refine gw_put (C := RX0) (T := TX0) (N := 15) (ty := .boolean) hx hb hts inwX0 tyX0 tyX0_ok nmX0 hown hK hP hD hS 0 11 rfl rfl rfl (by decide) (hts _ a49) (fun _ h9 => h9) rfl (by decide +kernel) rfl rfl dX0_takeStep_13 (fun H locs hP hD hS => ?_)
    obtain ⟨sg13, esg13⟩ : ∃ z : Nat → Nat → Int32, z = gw_u sg0 0 (upd (sg0 0) 11 (nI 1)) := ⟨_, rfl⟩
    rw [← esg13] at hP hD
    have hk : KG 8 9 11 sg0 sg13 := by rw [esg13]; exact hk.wa 0 (by omega) (by omega) _
    exact hret _ _ _ _ _ hP hS dX0_takeStep_16 (⟨hk, rfl⟩)
abbrev rmX0_tell2 : Room := { frames := 11, cells := 0, slots := 0, locals := 236 }
set_option maxRecDepth 100000 in
set_option maxHeartbeats 4000000 in
theorem m_X0_tell2 (l : Launch) (hl9 : l.stackTraces = false) (D : va_G) (cI : ClassId) (cJ : ClassId × ClassId) (ad : Nat → Nat) (sg0 : Nat → Nat → Int32) (sz : Nat) (hI : IvG 8 9 11 sg0) : gc_M l yX0_tellPatternsFrom wsX0_tellPatternsFrom rmX0_tell2 D vwCl (tyS cI cJ) cI cJ gxT gxN SS [.ref (ad 0), .int (nI 2)] ad sg0 sz 0 0 (fun v sg2 => KG 8 9 11 sg0 sg2 ∧ v = none) := by
  refine gc_Mv_of (cc := cX0_tellPatternsFrom) (maxL := 3) (by decide) rfl (Nat.le_of_ble_eq_true rfl) ?_
  intro p e s m below meth c A ls Q hin hE hret
  obtain ⟨⟨hx, hb, hml, hown, hts⟩, -, hlocks, -, hA, hP, hK, hD, hS, hl⟩ := hin
  have hts : ∀ w ∈ wsAll, w.before ([.ref (ad 0), .int (nI 2)] : List Value).toArray s = true := fun w h => hts w (List.mem_cons_of_mem _ h)
  have hl : lv_has ls 3 [(0, .ref (ad 0)), (1, .int (nI 2))] := hl
  have hk := KG.refl hI
  have c69 : ∀ (sg : Nat → Nat → Int32) (H : Heap) (locs : List Loc) (ls : Array Slot), (KG 8 9 11 sg0 sg) → va_P D vwCl (gw cI cJ ad sg SS) H → va_D A (gw cI cJ ad sg SS) → va_S A s.heap H locs → lv_has ls 3 [(0, .ref (ad 0)), (1, .int (nI 2))] → W p l e rmX0_tell2 s m ([.ref (ad 0), .int (nI 2)] : List Value).toArray below meth c H locs 0 0 Q (F0 m 69 ls []) := by
    intro sg H locs ls hk hP hD hS hl
    refine lv_aload_n hx hb dX0_tellPatternsFrom_69 rfl (lv_at hl 0 rfl) ?_
    refine lv_iload_n hx hb dX0_tellPatternsFrom_70 rfl (lv_at hl 1 rfl) ?_
    refine gc_go0 (va_runV (As := [.int (nI 2)]) (rest := []) ⟨hx, hb, hml, hown, hts⟩ (m_X0_takeLogsBack l hl9 D cI cJ ad sg _ 2 (by omega) hk.1) (cwV 1 hts (gwV a50 a51 a52 a18 a53) rfl rfl rfl (by decide +kernel) ⟨by decide, by decide⟩) (gc_preV0 hK hP hD hS hA hE rfl rfl rfl) rfl rfl hl.1 rfl (lv_room (Nat.le_of_ble_eq_true rfl)) dX0_tellPatternsFrom_71 ⟨by decide, by decide⟩) hD hS hA (fun v1 sg3 H locs hp4 hP hD hS => ?_)
    obtain ⟨hk1, rfl⟩ := hp4
    have hk := hk.trans hk1
    refine W.eq (g2 := F0 m 74 ls []) rfl ?_
    exact hret _ _ _ _ _ hP hS dX0_tellPatternsFrom_74 (⟨hk, rfl⟩)
  have c29 : ∀ (n9 : Nat) (i : Nat) (sg : Nat → Nat → Int32) (H : Heap) (locs : List Loc) (ls : Array Slot), 13 - i = n9 → i ≤ 13 → (KG 8 9 11 sg0 sg) → va_P D vwCl (gw cI cJ ad sg SS) H → va_D A (gw cI cJ ad sg SS) → va_S A s.heap H locs → lv_has ls 3 [(2, .int (nI i)), (0, .ref (ad 0)), (1, .int (nI 2))] → W p l e rmX0_tell2 s m ([.ref (ad 0), .int (nI 2)] : List Value).toArray below meth c H locs 0 0 Q (F0 m 29 ls []) := by
    intro n9
    induction n9 using Nat.strongRecOn with
    | ind n9 ih =>
    intro i sg H locs ls hn h1 hk hP hD hS hl
    subst hn
    refine lv_iload_n hx hb dX0_tellPatternsFrom_29 rfl (lv_at hl 0 rfl) ?_
    refine lv_bipush (v := (nI 12)) hx hb dX0_tellPatternsFrom_30 (by decide) ?_
    refine lv_icmp_gt (tgt := 69) hx hb dX0_tellPatternsFrom_32 (by decide) (fun hc7 => ?_) (fun hc7 => ?_)
    · have hc7 : 12 < i := (nI_ltI (a := 12) (b := i) (by omega) (by omega)).mp hc7
      exact c69  _ _ _ _  hk hP hD hS (lv_sub hl [1, 2] rfl)
    · have hc7 : ¬ (12 < i) := fun q => hc7 ((nI_ltI (a := 12) (b := i) (by omega) (by omega)).mpr q)
      refine lv_aload_n hx hb dX0_tellPatternsFrom_35 rfl (lv_at hl 1 rfl) ?_
      refine gw_geti (C := RX0) (T := TX0) (N := 15) hx hb hts inwX0 hown hK hP 0 11 rfl rfl rfl (by decide) (hts _ a49) (fun _ h9 => h9) dX0_tellPatternsFrom_36 ?_
      refine lv_topi (fun v8 hv8 => ?_)
      refine lv_if_ne (tgt := 69) hx hb dX0_tellPatternsFrom_39 (by decide) (fun hc9 => ?_) (fun hc9 => ?_)
      · exact c69  _ _ _ _  hk hP hD hS (lv_sub hl [1, 2] rfl)
      · refine lv_aload_n hx hb dX0_tellPatternsFrom_42 rfl (lv_at hl 1 rfl) ?_
        refine lv_iload_n hx hb dX0_tellPatternsFrom_43 rfl (lv_at hl 2 rfl) ?_
        refine gc_go0 (va_runV (As := [.int (nI 2)]) (rest := []) ⟨hx, hb, hml, hown, hts⟩ (m_X0_oneLogMoreFits l hl9 D cI cJ ad sg _ 2 (by omega) hk.1) (cwV 1 hts (gwV a54 a55 a56 a18 a57) rfl rfl rfl (by decide +kernel) ⟨by decide, by decide⟩) (gc_preV0 hK hP hD hS hA hE rfl rfl rfl) rfl rfl hl.1 rfl (lv_room (Nat.le_of_ble_eq_true rfl)) dX0_tellPatternsFrom_44 ⟨by decide, by decide⟩) hD hS hA (fun v10 sg12 H locs hp13 hP hD hS => ?_)
        obtain ⟨hk1, r16, rfl⟩ := hp13
        have hk := hk.trans hk1
        refine W.eq (g2 := F0 m 47 ls [.int r16]) rfl ?_
        refine lv_if_ne (tgt := 53) hx hb dX0_tellPatternsFrom_47 (by decide) (fun hc17 => ?_) (fun hc17 => ?_)
        · refine lv_aload_n hx hb dX0_tellPatternsFrom_53 rfl (lv_at hl 1 rfl) ?_
          refine lv_iload_n hx hb dX0_tellPatternsFrom_54 rfl (lv_at hl 2 rfl) ?_
          refine gc_go0 (va_runV (As := [.int (nI 2)]) (rest := []) ⟨hx, hb, hml, hown, hts⟩ (m_X0_addLog l hl9 D cI cJ ad sg12 _ 2 (by omega) hk.1) (cwV 1 hts (gwV a58 a59 a60 a18 a61) rfl rfl rfl (by decide +kernel) ⟨by decide, by decide⟩) (gc_preV0 hK hP hD hS hA hE rfl rfl rfl) rfl rfl hl.1 rfl (lv_room (Nat.le_of_ble_eq_true rfl)) dX0_tellPatternsFrom_55 ⟨by decide, by decide⟩) hD hS hA (fun v18 sg20 H locs hp21 hP hD hS => ?_)
          obtain ⟨hk1, rfl⟩ := hp21
          have hk := hk.trans hk1
          refine W.eq (g2 := F0 m 58 ls []) rfl ?_
          refine lv_aload_n hx hb dX0_tellPatternsFrom_58 rfl (lv_at hl 1 rfl) ?_
          refine lv_iload_n hx hb dX0_tellPatternsFrom_59 rfl (lv_at hl 2 rfl) ?_
          refine gc_go0 (va_runV (As := [.int (nI 2)]) (rest := []) ⟨hx, hb, hml, hown, hts⟩ (m_X0_step2 l hl9 D cI cJ ad sg20 _  hk.1) (cwV 1 hts (gwV a62 a63 a64 a18 a65) rfl rfl rfl (by decide +kernel) ⟨by decide, by decide⟩) (gc_preV0 hK hP hD hS hA hE rfl rfl rfl) rfl rfl hl.1 rfl (lv_room (Nat.le_of_ble_eq_true rfl)) dX0_tellPatternsFrom_60 ⟨by decide, by decide⟩) hD hS hA (fun v24 sg26 H locs hp27 hP hD hS => ?_)
          obtain ⟨hk1, rfl⟩ := hp27
          have hk := hk.trans hk1
          refine W.eq (g2 := F0 m 63 ls []) rfl ?_
          refine lv_iinc (k := 0) (v := (nI (i + 1))) (lv' := [(2, .int (nI (i + 1))), (0, .ref (ad 0)), (1, .int (nI 2))]) hx hb dX0_tellPatternsFrom_63 hl rfl (nI_1 _) (by decide) rfl (fun ls hl => ?_)
          refine lv_goto (tgt := 29) hx hb dX0_tellPatternsFrom_66 (by decide) ?_
          exact ih _ (by omega) (i + 1) _ _ _ _ rfl (by omega) hk hP hD hS (lv_sub hl [0, 1, 2] rfl)
        · refine lv_goto (tgt := 69) hx hb dX0_tellPatternsFrom_50 (by decide) ?_
          exact c69  _ _ _ _  hk hP hD hS (lv_sub hl [1, 2] rfl)
  have c22 : ∀ (sg : Nat → Nat → Int32) (H : Heap) (locs : List Loc) (ls : Array Slot), (KG 8 9 11 sg0 sg) → va_P D vwCl (gw cI cJ ad sg SS) H → va_D A (gw cI cJ ad sg SS) → va_S A s.heap H locs → lv_has ls 3 [(0, .ref (ad 0)), (1, .int (nI 2))] → W p l e rmX0_tell2 s m ([.ref (ad 0), .int (nI 2)] : List Value).toArray below meth c H locs 0 0 Q (F0 m 22 ls []) := by
    intro sg H locs ls hk hP hD hS hl
    refine lv_aload_n hx hb dX0_tellPatternsFrom_22 rfl (lv_at hl 0 rfl) ?_
    refine lv_iload_n hx hb dX0_tellPatternsFrom_23 rfl (lv_at hl 1 rfl) ?_
    refine gc_go0 (va_runV (As := [.int (nI 2)]) (rest := []) ⟨hx, hb, hml, hown, hts⟩ (m_X0_step2 l hl9 D cI cJ ad sg _  hk.1) (cwV 1 hts (gwV a62 a63 a64 a18 a65) rfl rfl rfl (by decide +kernel) ⟨by decide, by decide⟩) (gc_preV0 hK hP hD hS hA hE rfl rfl rfl) rfl rfl hl.1 rfl (lv_room (Nat.le_of_ble_eq_true rfl)) dX0_tellPatternsFrom_24 ⟨by decide, by decide⟩) hD hS hA (fun v30 sg32 H locs hp33 hP hD hS => ?_)
    obtain ⟨hk1, rfl⟩ := hp33
    have hk := hk.trans hk1
    refine W.eq (g2 := F0 m 27 ls []) rfl ?_
    refine lv_iconst (v := (nI 1)) hx hb dX0_tellPatternsFrom_27 (by decide) ?_
    refine lv_istore_n (lv' := [(2, .int (nI 1)), (0, .ref (ad 0)), (1, .int (nI 2))]) hx hb dX0_tellPatternsFrom_28 rfl hl (by decide) rfl (fun ls hl => ?_)
    exact c29 _ 1 _ _ _ _ rfl (by omega) hk hP hD hS (lv_sub hl [0, 1, 2] rfl)
  have c17 : ∀ (sg : Nat → Nat → Int32) (H : Heap) (locs : List Loc) (ls : Array Slot), (KG 8 9 11 sg0 sg) → va_P D vwCl (gw cI cJ ad sg SS) H → va_D A (gw cI cJ ad sg SS) → va_S A s.heap H locs → lv_has ls 3 [(0, .ref (ad 0)), (1, .int (nI 2))] → W p l e rmX0_tell2 s m ([.ref (ad 0), .int (nI 2)] : List Value).toArray below meth c H locs 0 0 Q (F0 m 17 ls []) := by
    intro sg H locs ls hk hP hD hS hl
    refine lv_aload_n hx hb dX0_tellPatternsFrom_17 rfl (lv_at hl 0 rfl) ?_
    refine gc_go0 (va_runV (As := []) (rest := []) ⟨hx, hb, hml, hown, hts⟩ (m_X0_lookAtPlan l hl9 D cI cJ ad sg _  hk.1) (cwV 0 hts (gwV a39 a40 a41 a18 a42) rfl rfl rfl (by decide +kernel) ⟨by decide, by decide⟩) (gc_preV0 hK hP hD hS hA hE rfl rfl rfl) rfl rfl hl.1 rfl (lv_room (Nat.le_of_ble_eq_true rfl)) dX0_tellPatternsFrom_18 ⟨by decide, by decide⟩) hD hS hA (fun v36 sg38 H locs hp39 hP hD hS => ?_)
    obtain ⟨hk1, rfl⟩ := hp39
    have hk := hk.trans hk1
    refine W.eq (g2 := F0 m 21 ls []) rfl ?_
    exact hret _ _ _ _ _ hP hS dX0_tellPatternsFrom_21 (⟨hk, rfl⟩)
  refine lv_iload_n hx hb dX0_tellPatternsFrom_0 rfl (lv_at hl 1 rfl) ?_
  refine lv_aload_n hx hb dX0_tellPatternsFrom_1 rfl (lv_at hl 0 rfl) ?_
  refine gw_getr (C := RX0) (T := TX0) (N := 15) hx hb hts inwX0 hown hK hP 0 0 8 rfl rfl rfl (by decide) (hts _ a6) (fun _ h9 => h9) dX0_tellPatternsFrom_2 ?_
  refine gw_getiN (C := RX1) (T := TX1) (N := 12) hx hb hts inwX1 hown hK hP 8 9 rfl rfl rfl (by decide) (hE.nest _ (.fieldLinkNest RX0 81 RX1 "patterns" "I" RX2) (by decide +kernel) rfl) (fun _ h9 => h9) dX0_tellPatternsFrom_5 ?_
  obtain ⟨N42, hN42, eN42⟩ := hk.1.1
  refine gw_top (y := (nI N42)) (eN42) ?_
  refine lv_icmp_ge (tgt := 17) hx hb dX0_tellPatternsFrom_8 (by decide) (fun hc43 => ?_) (fun hc43 => ?_)
  · have hc43 : N42 ≤ 2 := (nI_leI (a := N42) (b := 2) (by omega) (by omega)).mp hc43
    exact c17  _ _ _ _  hk hP hD hS (lv_sub hl [0, 1] rfl)
  · have hc43 : ¬ (N42 ≤ 2) := fun q => hc43 ((nI_leI (a := N42) (b := 2) (by omega) (by omega)).mpr q)
    refine lv_iload_n hx hb dX0_tellPatternsFrom_11 rfl (lv_at hl 1 rfl) ?_
    refine lv_bipush (v := (nI 6)) hx hb dX0_tellPatternsFrom_12 (by decide) ?_
    refine lv_icmp_lt (tgt := 22) hx hb dX0_tellPatternsFrom_14 (by decide) (fun hc44 => ?_) (fun hc44 => ?_)
    · exact c22  _ _ _ _  hk hP hD hS (lv_sub hl [0, 1] rfl)
    · exact absurd hc44 (by decide)
abbrev rmX0_step1 : Room := { frames := 12, cells := 0, slots := 0, locals := 258 }
set_option maxRecDepth 100000 in
set_option maxHeartbeats 4000000 in
theorem m_X0_step1 (l : Launch) (hl9 : l.stackTraces = false) (D : va_G) (cI : ClassId) (cJ : ClassId × ClassId) (ad : Nat → Nat) (sg0 : Nat → Nat → Int32) (sz : Nat) (hI : IvG 8 9 11 sg0) : gc_M l yX0_takeStep wsX0_takeStep rmX0_step1 D vwCl (tyS cI cJ) cI cJ gxT gxN SS [.ref (ad 0), .int (nI 1)] ad sg0 sz 0 0 (fun v sg2 => KG 8 9 11 sg0 sg2 ∧ v = none) := by
  refine gc_Mv_of (cc := cX0_takeStep) (maxL := 2) (by decide) rfl (Nat.le_of_ble_eq_true rfl) ?_
  intro p e s m below meth c A ls Q hin hE hret
  obtain ⟨⟨hx, hb, hml, hown, hts⟩, -, hlocks, -, hA, hP, hK, hD, hS, hl⟩ := hin
  have hts : ∀ w ∈ wsAll, w.before ([.ref (ad 0), .int (nI 1)] : List Value).toArray s = true := fun w h => hts w (List.mem_cons_of_mem _ h)
  have hl : lv_has ls 2 [(0, .ref (ad 0)), (1, .int (nI 1))] := hl
  have hk := KG.refl hI
  refine lv_aload_n hx hb dX0_takeStep_0 rfl (lv_at hl 0 rfl) ?_
  refine gw_geti (C := RX0) (T := TX0) (N := 15) hx hb hts inwX0 hown hK hP 0 10 rfl rfl rfl (by decide) (hts _ a43) (fun _ h9 => h9) dX0_takeStep_1 ?_
  refine lv_topi (fun v1 hv1 => ?_)
  refine lv_aload_n hx hb dX0_takeStep_4 rfl (lv_at hl 0 rfl) ?_
  refine gw_geti (C := RX0) (T := TX0) (N := 15) hx hb hts inwX0 hown hK hP 0 9 rfl rfl rfl (by decide) (hts _ a44) (fun _ h9 => h9) dX0_takeStep_5 ?_
  refine lv_topi (fun v2 hv2 => ?_)
  refine lv_icmp_lt (tgt := 17) hx hb dX0_takeStep_8 (by decide) (fun hc3 => ?_) (fun hc3 => ?_)
  · refine lv_aload_n hx hb dX0_takeStep_17 rfl (lv_at hl 0 rfl) ?_
    refine lv_dup hx hb dX0_takeStep_18 rfl ?_
    refine gw_geti (C := RX0) (T := TX0) (N := 15) hx hb hts inwX0 hown hK hP 0 10 rfl rfl rfl (by decide) (hts _ a43) (fun _ h9 => h9) dX0_takeStep_19 ?_
    refine lv_topi (fun v4 hv4 => ?_)
    refine lv_iconst (v := (nI 1)) hx hb dX0_takeStep_22 (by decide) ?_
    refine lv_iadd hx hb dX0_takeStep_23 ?_
    refine lv_topi (fun v5 hv5 => ?_)
    refine gw_put (C := RX0) (T := TX0) (N := 15) (ty := .int) hx hb hts inwX0 tyX0 tyX0_ok nmX0 hown hK hP hD hS 0 10 rfl rfl rfl (by decide) (hts _ a43) (fun _ h9 => h9) rfl (by decide +kernel) rfl rfl dX0_takeStep_24 (fun H locs hP hD hS => ?_)
    obtain ⟨sg6, esg6⟩ : ∃ z : Nat → Nat → Int32, z = gw_u sg0 0 (upd (sg0 0) 10 v5) := ⟨_, rfl⟩
    rw [← esg6] at hP hD
    have hk : KG 8 9 11 sg0 sg6 := by rw [esg6]; exact hk.wa 0 (by omega) (by omega) _
    refine lv_aload_n hx hb dX0_takeStep_27 rfl (lv_at hl 0 rfl) ?_
    refine lv_iload_n hx hb dX0_takeStep_28 rfl (lv_at hl 1 rfl) ?_
    refine lv_iconst (v := (nI 1)) hx hb dX0_takeStep_29 (by decide) ?_
    refine lv_iadd hx hb dX0_takeStep_30 ?_
    refine gw_top (y := (nI 2)) (by decide) ?_
    refine gc_go0 (va_runV (As := [.int (nI 2)]) (rest := []) ⟨hx, hb, hml, hown, hts⟩ (m_X0_tell2 l hl9 D cI cJ ad sg6 _  hk.1) (cwV 1 hts (gwV a45 a46 a47 a18 a48) rfl rfl rfl (by decide +kernel) ⟨by decide, by decide⟩) (gc_preV0 hK hP hD hS hA hE rfl rfl rfl) rfl rfl hl.1 rfl (lv_room (Nat.le_of_ble_eq_true rfl)) dX0_takeStep_31 ⟨by decide, by decide⟩) hD hS hA (fun v7 sg9 H locs hp10 hP hD hS => ?_)
    obtain ⟨hk1, rfl⟩ := hp10
    have hk := hk.trans hk1
    refine W.eq (g2 := F0 m 34 ls []) rfl ?_
    exact hret _ _ _ _ _ hP hS dX0_takeStep_34 (⟨hk, rfl⟩)
  · refine lv_aload_n hx hb dX0_takeStep_11 rfl (lv_at hl 0 rfl) ?_
    refine lv_iconst (v := (nI 1)) hx hb dX0_takeStep_12 (by decide) ?_
    refine gw_put (C := RX0) (T := TX0) (N := 15) (ty := .boolean) hx hb hts inwX0 tyX0 tyX0_ok nmX0 hown hK hP hD hS 0 11 rfl rfl rfl (by decide) (hts _ a49) (fun _ h9 => h9) rfl (by decide +kernel) rfl rfl dX0_takeStep_13 (fun H locs hP hD hS => ?_)
    obtain ⟨sg13, esg13⟩ : ∃ z : Nat → Nat → Int32, z = gw_u sg0 0 (upd (sg0 0) 11 (nI 1)) := ⟨_, rfl⟩
    rw [← esg13] at hP hD
    have hk : KG 8 9 11 sg0 sg13 := by rw [esg13]; exact hk.wa 0 (by omega) (by omega) _
    exact hret _ _ _ _ _ hP hS dX0_takeStep_16 (⟨hk, rfl⟩)
abbrev rmX0_tell1 : Room := { frames := 13, cells := 0, slots := 0, locals := 279 }
set_option maxRecDepth 100000 in
set_option maxHeartbeats 4000000 in
theorem m_X0_tell1 (l : Launch) (hl9 : l.stackTraces = false) (D : va_G) (cI : ClassId) (cJ : ClassId × ClassId) (ad : Nat → Nat) (sg0 : Nat → Nat → Int32) (sz : Nat) (hI : IvG 8 9 11 sg0) : gc_M l yX0_tellPatternsFrom wsX0_tellPatternsFrom rmX0_tell1 D vwCl (tyS cI cJ) cI cJ gxT gxN SS [.ref (ad 0), .int (nI 1)] ad sg0 sz 0 0 (fun v sg2 => KG 8 9 11 sg0 sg2 ∧ v = none) := by
  refine gc_Mv_of (cc := cX0_tellPatternsFrom) (maxL := 3) (by decide) rfl (Nat.le_of_ble_eq_true rfl) ?_
  intro p e s m below meth c A ls Q hin hE hret
  obtain ⟨⟨hx, hb, hml, hown, hts⟩, -, hlocks, -, hA, hP, hK, hD, hS, hl⟩ := hin
  have hts : ∀ w ∈ wsAll, w.before ([.ref (ad 0), .int (nI 1)] : List Value).toArray s = true := fun w h => hts w (List.mem_cons_of_mem _ h)
  have hl : lv_has ls 3 [(0, .ref (ad 0)), (1, .int (nI 1))] := hl
  have hk := KG.refl hI
  have c69 : ∀ (sg : Nat → Nat → Int32) (H : Heap) (locs : List Loc) (ls : Array Slot), (KG 8 9 11 sg0 sg) → va_P D vwCl (gw cI cJ ad sg SS) H → va_D A (gw cI cJ ad sg SS) → va_S A s.heap H locs → lv_has ls 3 [(0, .ref (ad 0)), (1, .int (nI 1))] → W p l e rmX0_tell1 s m ([.ref (ad 0), .int (nI 1)] : List Value).toArray below meth c H locs 0 0 Q (F0 m 69 ls []) := by
    intro sg H locs ls hk hP hD hS hl
    refine lv_aload_n hx hb dX0_tellPatternsFrom_69 rfl (lv_at hl 0 rfl) ?_
    refine lv_iload_n hx hb dX0_tellPatternsFrom_70 rfl (lv_at hl 1 rfl) ?_
    refine gc_go0 (va_runV (As := [.int (nI 1)]) (rest := []) ⟨hx, hb, hml, hown, hts⟩ (m_X0_takeLogsBack l hl9 D cI cJ ad sg _ 1 (by omega) hk.1) (cwV 1 hts (gwV a50 a51 a52 a18 a53) rfl rfl rfl (by decide +kernel) ⟨by decide, by decide⟩) (gc_preV0 hK hP hD hS hA hE rfl rfl rfl) rfl rfl hl.1 rfl (lv_room (Nat.le_of_ble_eq_true rfl)) dX0_tellPatternsFrom_71 ⟨by decide, by decide⟩) hD hS hA (fun v1 sg3 H locs hp4 hP hD hS => ?_)
    obtain ⟨hk1, rfl⟩ := hp4
    have hk := hk.trans hk1
    refine W.eq (g2 := F0 m 74 ls []) rfl ?_
    exact hret _ _ _ _ _ hP hS dX0_tellPatternsFrom_74 (⟨hk, rfl⟩)
  have c29 : ∀ (n9 : Nat) (i : Nat) (sg : Nat → Nat → Int32) (H : Heap) (locs : List Loc) (ls : Array Slot), 13 - i = n9 → i ≤ 13 → (KG 8 9 11 sg0 sg) → va_P D vwCl (gw cI cJ ad sg SS) H → va_D A (gw cI cJ ad sg SS) → va_S A s.heap H locs → lv_has ls 3 [(2, .int (nI i)), (0, .ref (ad 0)), (1, .int (nI 1))] → W p l e rmX0_tell1 s m ([.ref (ad 0), .int (nI 1)] : List Value).toArray below meth c H locs 0 0 Q (F0 m 29 ls []) := by
    intro n9
    induction n9 using Nat.strongRecOn with
    | ind n9 ih =>
    intro i sg H locs ls hn h1 hk hP hD hS hl
    subst hn
    refine lv_iload_n hx hb dX0_tellPatternsFrom_29 rfl (lv_at hl 0 rfl) ?_
    refine lv_bipush (v := (nI 12)) hx hb dX0_tellPatternsFrom_30 (by decide) ?_
    refine lv_icmp_gt (tgt := 69) hx hb dX0_tellPatternsFrom_32 (by decide) (fun hc7 => ?_) (fun hc7 => ?_)
    · have hc7 : 12 < i := (nI_ltI (a := 12) (b := i) (by omega) (by omega)).mp hc7
      exact c69  _ _ _ _  hk hP hD hS (lv_sub hl [1, 2] rfl)
    · have hc7 : ¬ (12 < i) := fun q => hc7 ((nI_ltI (a := 12) (b := i) (by omega) (by omega)).mpr q)
      refine lv_aload_n hx hb dX0_tellPatternsFrom_35 rfl (lv_at hl 1 rfl) ?_
      refine gw_geti (C := RX0) (T := TX0) (N := 15) hx hb hts inwX0 hown hK hP 0 11 rfl rfl rfl (by decide) (hts _ a49) (fun _ h9 => h9) dX0_tellPatternsFrom_36 ?_
      refine lv_topi (fun v8 hv8 => ?_)
      refine lv_if_ne (tgt := 69) hx hb dX0_tellPatternsFrom_39 (by decide) (fun hc9 => ?_) (fun hc9 => ?_)
      · exact c69  _ _ _ _  hk hP hD hS (lv_sub hl [1, 2] rfl)
      · refine lv_aload_n hx hb dX0_tellPatternsFrom_42 rfl (lv_at hl 1 rfl) ?_
        refine lv_iload_n hx hb dX0_tellPatternsFrom_43 rfl (lv_at hl 2 rfl) ?_
        refine gc_go0 (va_runV (As := [.int (nI 1)]) (rest := []) ⟨hx, hb, hml, hown, hts⟩ (m_X0_oneLogMoreFits l hl9 D cI cJ ad sg _ 1 (by omega) hk.1) (cwV 1 hts (gwV a54 a55 a56 a18 a57) rfl rfl rfl (by decide +kernel) ⟨by decide, by decide⟩) (gc_preV0 hK hP hD hS hA hE rfl rfl rfl) rfl rfl hl.1 rfl (lv_room (Nat.le_of_ble_eq_true rfl)) dX0_tellPatternsFrom_44 ⟨by decide, by decide⟩) hD hS hA (fun v10 sg12 H locs hp13 hP hD hS => ?_)
        obtain ⟨hk1, r16, rfl⟩ := hp13
        have hk := hk.trans hk1
        refine W.eq (g2 := F0 m 47 ls [.int r16]) rfl ?_
        refine lv_if_ne (tgt := 53) hx hb dX0_tellPatternsFrom_47 (by decide) (fun hc17 => ?_) (fun hc17 => ?_)
        · refine lv_aload_n hx hb dX0_tellPatternsFrom_53 rfl (lv_at hl 1 rfl) ?_
          refine lv_iload_n hx hb dX0_tellPatternsFrom_54 rfl (lv_at hl 2 rfl) ?_
          refine gc_go0 (va_runV (As := [.int (nI 1)]) (rest := []) ⟨hx, hb, hml, hown, hts⟩ (m_X0_addLog l hl9 D cI cJ ad sg12 _ 1 (by omega) hk.1) (cwV 1 hts (gwV a58 a59 a60 a18 a61) rfl rfl rfl (by decide +kernel) ⟨by decide, by decide⟩) (gc_preV0 hK hP hD hS hA hE rfl rfl rfl) rfl rfl hl.1 rfl (lv_room (Nat.le_of_ble_eq_true rfl)) dX0_tellPatternsFrom_55 ⟨by decide, by decide⟩) hD hS hA (fun v18 sg20 H locs hp21 hP hD hS => ?_)
          obtain ⟨hk1, rfl⟩ := hp21
          have hk := hk.trans hk1
          refine W.eq (g2 := F0 m 58 ls []) rfl ?_
          refine lv_aload_n hx hb dX0_tellPatternsFrom_58 rfl (lv_at hl 1 rfl) ?_
          refine lv_iload_n hx hb dX0_tellPatternsFrom_59 rfl (lv_at hl 2 rfl) ?_
          refine gc_go0 (va_runV (As := [.int (nI 1)]) (rest := []) ⟨hx, hb, hml, hown, hts⟩ (m_X0_step1 l hl9 D cI cJ ad sg20 _  hk.1) (cwV 1 hts (gwV a62 a63 a64 a18 a65) rfl rfl rfl (by decide +kernel) ⟨by decide, by decide⟩) (gc_preV0 hK hP hD hS hA hE rfl rfl rfl) rfl rfl hl.1 rfl (lv_room (Nat.le_of_ble_eq_true rfl)) dX0_tellPatternsFrom_60 ⟨by decide, by decide⟩) hD hS hA (fun v24 sg26 H locs hp27 hP hD hS => ?_)
          obtain ⟨hk1, rfl⟩ := hp27
          have hk := hk.trans hk1
          refine W.eq (g2 := F0 m 63 ls []) rfl ?_
          refine lv_iinc (k := 0) (v := (nI (i + 1))) (lv' := [(2, .int (nI (i + 1))), (0, .ref (ad 0)), (1, .int (nI 1))]) hx hb dX0_tellPatternsFrom_63 hl rfl (nI_1 _) (by decide) rfl (fun ls hl => ?_)
          refine lv_goto (tgt := 29) hx hb dX0_tellPatternsFrom_66 (by decide) ?_
          exact ih _ (by omega) (i + 1) _ _ _ _ rfl (by omega) hk hP hD hS (lv_sub hl [0, 1, 2] rfl)
        · refine lv_goto (tgt := 69) hx hb dX0_tellPatternsFrom_50 (by decide) ?_
          exact c69  _ _ _ _  hk hP hD hS (lv_sub hl [1, 2] rfl)
  have c22 : ∀ (sg : Nat → Nat → Int32) (H : Heap) (locs : List Loc) (ls : Array Slot), (KG 8 9 11 sg0 sg) → va_P D vwCl (gw cI cJ ad sg SS) H → va_D A (gw cI cJ ad sg SS) → va_S A s.heap H locs → lv_has ls 3 [(0, .ref (ad 0)), (1, .int (nI 1))] → W p l e rmX0_tell1 s m ([.ref (ad 0), .int (nI 1)] : List Value).toArray below meth c H locs 0 0 Q (F0 m 22 ls []) := by
    intro sg H locs ls hk hP hD hS hl
    refine lv_aload_n hx hb dX0_tellPatternsFrom_22 rfl (lv_at hl 0 rfl) ?_
    refine lv_iload_n hx hb dX0_tellPatternsFrom_23 rfl (lv_at hl 1 rfl) ?_
    refine gc_go0 (va_runV (As := [.int (nI 1)]) (rest := []) ⟨hx, hb, hml, hown, hts⟩ (m_X0_step1 l hl9 D cI cJ ad sg _  hk.1) (cwV 1 hts (gwV a62 a63 a64 a18 a65) rfl rfl rfl (by decide +kernel) ⟨by decide, by decide⟩) (gc_preV0 hK hP hD hS hA hE rfl rfl rfl) rfl rfl hl.1 rfl (lv_room (Nat.le_of_ble_eq_true rfl)) dX0_tellPatternsFrom_24 ⟨by decide, by decide⟩) hD hS hA (fun v30 sg32 H locs hp33 hP hD hS => ?_)
    obtain ⟨hk1, rfl⟩ := hp33
    have hk := hk.trans hk1
    refine W.eq (g2 := F0 m 27 ls []) rfl ?_
    refine lv_iconst (v := (nI 1)) hx hb dX0_tellPatternsFrom_27 (by decide) ?_
    refine lv_istore_n (lv' := [(2, .int (nI 1)), (0, .ref (ad 0)), (1, .int (nI 1))]) hx hb dX0_tellPatternsFrom_28 rfl hl (by decide) rfl (fun ls hl => ?_)
    exact c29 _ 1 _ _ _ _ rfl (by omega) hk hP hD hS (lv_sub hl [0, 1, 2] rfl)
  have c17 : ∀ (sg : Nat → Nat → Int32) (H : Heap) (locs : List Loc) (ls : Array Slot), (KG 8 9 11 sg0 sg) → va_P D vwCl (gw cI cJ ad sg SS) H → va_D A (gw cI cJ ad sg SS) → va_S A s.heap H locs → lv_has ls 3 [(0, .ref (ad 0)), (1, .int (nI 1))] → W p l e rmX0_tell1 s m ([.ref (ad 0), .int (nI 1)] : List Value).toArray below meth c H locs 0 0 Q (F0 m 17 ls []) := by
    intro sg H locs ls hk hP hD hS hl
    refine lv_aload_n hx hb dX0_tellPatternsFrom_17 rfl (lv_at hl 0 rfl) ?_
    refine gc_go0 (va_runV (As := []) (rest := []) ⟨hx, hb, hml, hown, hts⟩ (m_X0_lookAtPlan l hl9 D cI cJ ad sg _  hk.1) (cwV 0 hts (gwV a39 a40 a41 a18 a42) rfl rfl rfl (by decide +kernel) ⟨by decide, by decide⟩) (gc_preV0 hK hP hD hS hA hE rfl rfl rfl) rfl rfl hl.1 rfl (lv_room (Nat.le_of_ble_eq_true rfl)) dX0_tellPatternsFrom_18 ⟨by decide, by decide⟩) hD hS hA (fun v36 sg38 H locs hp39 hP hD hS => ?_)
    obtain ⟨hk1, rfl⟩ := hp39
    have hk := hk.trans hk1
    refine W.eq (g2 := F0 m 21 ls []) rfl ?_
    exact hret _ _ _ _ _ hP hS dX0_tellPatternsFrom_21 (⟨hk, rfl⟩)
  refine lv_iload_n hx hb dX0_tellPatternsFrom_0 rfl (lv_at hl 1 rfl) ?_
  refine lv_aload_n hx hb dX0_tellPatternsFrom_1 rfl (lv_at hl 0 rfl) ?_
  refine gw_getr (C := RX0) (T := TX0) (N := 15) hx hb hts inwX0 hown hK hP 0 0 8 rfl rfl rfl (by decide) (hts _ a6) (fun _ h9 => h9) dX0_tellPatternsFrom_2 ?_
  refine gw_getiN (C := RX1) (T := TX1) (N := 12) hx hb hts inwX1 hown hK hP 8 9 rfl rfl rfl (by decide) (hE.nest _ (.fieldLinkNest RX0 81 RX1 "patterns" "I" RX2) (by decide +kernel) rfl) (fun _ h9 => h9) dX0_tellPatternsFrom_5 ?_
  obtain ⟨N42, hN42, eN42⟩ := hk.1.1
  refine gw_top (y := (nI N42)) (eN42) ?_
  refine lv_icmp_ge (tgt := 17) hx hb dX0_tellPatternsFrom_8 (by decide) (fun hc43 => ?_) (fun hc43 => ?_)
  · have hc43 : N42 ≤ 1 := (nI_leI (a := N42) (b := 1) (by omega) (by omega)).mp hc43
    exact c17  _ _ _ _  hk hP hD hS (lv_sub hl [0, 1] rfl)
  · have hc43 : ¬ (N42 ≤ 1) := fun q => hc43 ((nI_leI (a := N42) (b := 1) (by omega) (by omega)).mpr q)
    refine lv_iload_n hx hb dX0_tellPatternsFrom_11 rfl (lv_at hl 1 rfl) ?_
    refine lv_bipush (v := (nI 6)) hx hb dX0_tellPatternsFrom_12 (by decide) ?_
    refine lv_icmp_lt (tgt := 22) hx hb dX0_tellPatternsFrom_14 (by decide) (fun hc44 => ?_) (fun hc44 => ?_)
    · exact c22  _ _ _ _  hk hP hD hS (lv_sub hl [0, 1] rfl)
    · exact absurd hc44 (by decide)
abbrev rmX0_step0 : Room := { frames := 14, cells := 0, slots := 0, locals := 301 }
set_option maxRecDepth 100000 in
set_option maxHeartbeats 4000000 in
theorem m_X0_step0 (l : Launch) (hl9 : l.stackTraces = false) (D : va_G) (cI : ClassId) (cJ : ClassId × ClassId) (ad : Nat → Nat) (sg0 : Nat → Nat → Int32) (sz : Nat) (hI : IvG 8 9 11 sg0) : gc_M l yX0_takeStep wsX0_takeStep rmX0_step0 D vwCl (tyS cI cJ) cI cJ gxT gxN SS [.ref (ad 0), .int (nI 0)] ad sg0 sz 0 0 (fun v sg2 => KG 8 9 11 sg0 sg2 ∧ v = none) := by
  refine gc_Mv_of (cc := cX0_takeStep) (maxL := 2) (by decide) rfl (Nat.le_of_ble_eq_true rfl) ?_
  intro p e s m below meth c A ls Q hin hE hret
  obtain ⟨⟨hx, hb, hml, hown, hts⟩, -, hlocks, -, hA, hP, hK, hD, hS, hl⟩ := hin
  have hts : ∀ w ∈ wsAll, w.before ([.ref (ad 0), .int (nI 0)] : List Value).toArray s = true := fun w h => hts w (List.mem_cons_of_mem _ h)
  have hl : lv_has ls 2 [(0, .ref (ad 0)), (1, .int (nI 0))] := hl
  have hk := KG.refl hI
  refine lv_aload_n hx hb dX0_takeStep_0 rfl (lv_at hl 0 rfl) ?_
  refine gw_geti (C := RX0) (T := TX0) (N := 15) hx hb hts inwX0 hown hK hP 0 10 rfl rfl rfl (by decide) (hts _ a43) (fun _ h9 => h9) dX0_takeStep_1 ?_
  refine lv_topi (fun v1 hv1 => ?_)
  refine lv_aload_n hx hb dX0_takeStep_4 rfl (lv_at hl 0 rfl) ?_
  refine gw_geti (C := RX0) (T := TX0) (N := 15) hx hb hts inwX0 hown hK hP 0 9 rfl rfl rfl (by decide) (hts _ a44) (fun _ h9 => h9) dX0_takeStep_5 ?_
  refine lv_topi (fun v2 hv2 => ?_)
  refine lv_icmp_lt (tgt := 17) hx hb dX0_takeStep_8 (by decide) (fun hc3 => ?_) (fun hc3 => ?_)
  · refine lv_aload_n hx hb dX0_takeStep_17 rfl (lv_at hl 0 rfl) ?_
    refine lv_dup hx hb dX0_takeStep_18 rfl ?_
    refine gw_geti (C := RX0) (T := TX0) (N := 15) hx hb hts inwX0 hown hK hP 0 10 rfl rfl rfl (by decide) (hts _ a43) (fun _ h9 => h9) dX0_takeStep_19 ?_
    refine lv_topi (fun v4 hv4 => ?_)
    refine lv_iconst (v := (nI 1)) hx hb dX0_takeStep_22 (by decide) ?_
    refine lv_iadd hx hb dX0_takeStep_23 ?_
    refine lv_topi (fun v5 hv5 => ?_)
    refine gw_put (C := RX0) (T := TX0) (N := 15) (ty := .int) hx hb hts inwX0 tyX0 tyX0_ok nmX0 hown hK hP hD hS 0 10 rfl rfl rfl (by decide) (hts _ a43) (fun _ h9 => h9) rfl (by decide +kernel) rfl rfl dX0_takeStep_24 (fun H locs hP hD hS => ?_)
    obtain ⟨sg6, esg6⟩ : ∃ z : Nat → Nat → Int32, z = gw_u sg0 0 (upd (sg0 0) 10 v5) := ⟨_, rfl⟩
    rw [← esg6] at hP hD
    have hk : KG 8 9 11 sg0 sg6 := by rw [esg6]; exact hk.wa 0 (by omega) (by omega) _
    refine lv_aload_n hx hb dX0_takeStep_27 rfl (lv_at hl 0 rfl) ?_
    refine lv_iload_n hx hb dX0_takeStep_28 rfl (lv_at hl 1 rfl) ?_
    refine lv_iconst (v := (nI 1)) hx hb dX0_takeStep_29 (by decide) ?_
    refine lv_iadd hx hb dX0_takeStep_30 ?_
    refine gw_top (y := (nI 1)) (by decide) ?_
    refine gc_go0 (va_runV (As := [.int (nI 1)]) (rest := []) ⟨hx, hb, hml, hown, hts⟩ (m_X0_tell1 l hl9 D cI cJ ad sg6 _  hk.1) (cwV 1 hts (gwV a45 a46 a47 a18 a48) rfl rfl rfl (by decide +kernel) ⟨by decide, by decide⟩) (gc_preV0 hK hP hD hS hA hE rfl rfl rfl) rfl rfl hl.1 rfl (lv_room (Nat.le_of_ble_eq_true rfl)) dX0_takeStep_31 ⟨by decide, by decide⟩) hD hS hA (fun v7 sg9 H locs hp10 hP hD hS => ?_)
    obtain ⟨hk1, rfl⟩ := hp10
    have hk := hk.trans hk1
    refine W.eq (g2 := F0 m 34 ls []) rfl ?_
    exact hret _ _ _ _ _ hP hS dX0_takeStep_34 (⟨hk, rfl⟩)
  · refine lv_aload_n hx hb dX0_takeStep_11 rfl (lv_at hl 0 rfl) ?_
    refine lv_iconst (v := (nI 1)) hx hb dX0_takeStep_12 (by decide) ?_
    refine gw_put (C := RX0) (T := TX0) (N := 15) (ty := .boolean) hx hb hts inwX0 tyX0 tyX0_ok nmX0 hown hK hP hD hS 0 11 rfl rfl rfl (by decide) (hts _ a49) (fun _ h9 => h9) rfl (by decide +kernel) rfl rfl dX0_takeStep_13 (fun H locs hP hD hS => ?_)
    obtain ⟨sg13, esg13⟩ : ∃ z : Nat → Nat → Int32, z = gw_u sg0 0 (upd (sg0 0) 11 (nI 1)) := ⟨_, rfl⟩
    rw [← esg13] at hP hD
    have hk : KG 8 9 11 sg0 sg13 := by rw [esg13]; exact hk.wa 0 (by omega) (by omega) _
    exact hret _ _ _ _ _ hP hS dX0_takeStep_16 (⟨hk, rfl⟩)
abbrev rmX0_tell0 : Room := { frames := 15, cells := 0, slots := 0, locals := 322 }
set_option maxRecDepth 100000 in
set_option maxHeartbeats 4000000 in
theorem m_X0_tell0 (l : Launch) (hl9 : l.stackTraces = false) (D : va_G) (cI : ClassId) (cJ : ClassId × ClassId) (ad : Nat → Nat) (sg0 : Nat → Nat → Int32) (sz : Nat) (hI : IvG 8 9 11 sg0) : gc_M l yX0_tellPatternsFrom wsX0_tellPatternsFrom rmX0_tell0 D vwCl (tyS cI cJ) cI cJ gxT gxN SS [.ref (ad 0), .int (nI 0)] ad sg0 sz 0 0 (fun v sg2 => KG 8 9 11 sg0 sg2 ∧ v = none) := by
  refine gc_Mv_of (cc := cX0_tellPatternsFrom) (maxL := 3) (by decide) rfl (Nat.le_of_ble_eq_true rfl) ?_
  intro p e s m below meth c A ls Q hin hE hret
  obtain ⟨⟨hx, hb, hml, hown, hts⟩, -, hlocks, -, hA, hP, hK, hD, hS, hl⟩ := hin
  have hts : ∀ w ∈ wsAll, w.before ([.ref (ad 0), .int (nI 0)] : List Value).toArray s = true := fun w h => hts w (List.mem_cons_of_mem _ h)
  have hl : lv_has ls 3 [(0, .ref (ad 0)), (1, .int (nI 0))] := hl
  have hk := KG.refl hI
  have c69 : ∀ (sg : Nat → Nat → Int32) (H : Heap) (locs : List Loc) (ls : Array Slot), (KG 8 9 11 sg0 sg) → va_P D vwCl (gw cI cJ ad sg SS) H → va_D A (gw cI cJ ad sg SS) → va_S A s.heap H locs → lv_has ls 3 [(0, .ref (ad 0)), (1, .int (nI 0))] → W p l e rmX0_tell0 s m ([.ref (ad 0), .int (nI 0)] : List Value).toArray below meth c H locs 0 0 Q (F0 m 69 ls []) := by
    intro sg H locs ls hk hP hD hS hl
    refine lv_aload_n hx hb dX0_tellPatternsFrom_69 rfl (lv_at hl 0 rfl) ?_
    refine lv_iload_n hx hb dX0_tellPatternsFrom_70 rfl (lv_at hl 1 rfl) ?_
    refine gc_go0 (va_runV (As := [.int (nI 0)]) (rest := []) ⟨hx, hb, hml, hown, hts⟩ (m_X0_takeLogsBack l hl9 D cI cJ ad sg _ 0 (by omega) hk.1) (cwV 1 hts (gwV a50 a51 a52 a18 a53) rfl rfl rfl (by decide +kernel) ⟨by decide, by decide⟩) (gc_preV0 hK hP hD hS hA hE rfl rfl rfl) rfl rfl hl.1 rfl (lv_room (Nat.le_of_ble_eq_true rfl)) dX0_tellPatternsFrom_71 ⟨by decide, by decide⟩) hD hS hA (fun v1 sg3 H locs hp4 hP hD hS => ?_)
    obtain ⟨hk1, rfl⟩ := hp4
    have hk := hk.trans hk1
    refine W.eq (g2 := F0 m 74 ls []) rfl ?_
    exact hret _ _ _ _ _ hP hS dX0_tellPatternsFrom_74 (⟨hk, rfl⟩)
  have c29 : ∀ (n9 : Nat) (i : Nat) (sg : Nat → Nat → Int32) (H : Heap) (locs : List Loc) (ls : Array Slot), 13 - i = n9 → i ≤ 13 → (KG 8 9 11 sg0 sg) → va_P D vwCl (gw cI cJ ad sg SS) H → va_D A (gw cI cJ ad sg SS) → va_S A s.heap H locs → lv_has ls 3 [(2, .int (nI i)), (0, .ref (ad 0)), (1, .int (nI 0))] → W p l e rmX0_tell0 s m ([.ref (ad 0), .int (nI 0)] : List Value).toArray below meth c H locs 0 0 Q (F0 m 29 ls []) := by
    intro n9
    induction n9 using Nat.strongRecOn with
    | ind n9 ih =>
    intro i sg H locs ls hn h1 hk hP hD hS hl
    subst hn
    refine lv_iload_n hx hb dX0_tellPatternsFrom_29 rfl (lv_at hl 0 rfl) ?_
    refine lv_bipush (v := (nI 12)) hx hb dX0_tellPatternsFrom_30 (by decide) ?_
    refine lv_icmp_gt (tgt := 69) hx hb dX0_tellPatternsFrom_32 (by decide) (fun hc7 => ?_) (fun hc7 => ?_)
    · have hc7 : 12 < i := (nI_ltI (a := 12) (b := i) (by omega) (by omega)).mp hc7
      exact c69  _ _ _ _  hk hP hD hS (lv_sub hl [1, 2] rfl)
    · have hc7 : ¬ (12 < i) := fun q => hc7 ((nI_ltI (a := 12) (b := i) (by omega) (by omega)).mpr q)
      refine lv_aload_n hx hb dX0_tellPatternsFrom_35 rfl (lv_at hl 1 rfl) ?_
      refine gw_geti (C := RX0) (T := TX0) (N := 15) hx hb hts inwX0 hown hK hP 0 11 rfl rfl rfl (by decide) (hts _ a49) (fun _ h9 => h9) dX0_tellPatternsFrom_36 ?_
      refine lv_topi (fun v8 hv8 => ?_)
      refine lv_if_ne (tgt := 69) hx hb dX0_tellPatternsFrom_39 (by decide) (fun hc9 => ?_) (fun hc9 => ?_)
      · exact c69  _ _ _ _  hk hP hD hS (lv_sub hl [1, 2] rfl)
      · refine lv_aload_n hx hb dX0_tellPatternsFrom_42 rfl (lv_at hl 1 rfl) ?_
        refine lv_iload_n hx hb dX0_tellPatternsFrom_43 rfl (lv_at hl 2 rfl) ?_
        refine gc_go0 (va_runV (As := [.int (nI 0)]) (rest := []) ⟨hx, hb, hml, hown, hts⟩ (m_X0_oneLogMoreFits l hl9 D cI cJ ad sg _ 0 (by omega) hk.1) (cwV 1 hts (gwV a54 a55 a56 a18 a57) rfl rfl rfl (by decide +kernel) ⟨by decide, by decide⟩) (gc_preV0 hK hP hD hS hA hE rfl rfl rfl) rfl rfl hl.1 rfl (lv_room (Nat.le_of_ble_eq_true rfl)) dX0_tellPatternsFrom_44 ⟨by decide, by decide⟩) hD hS hA (fun v10 sg12 H locs hp13 hP hD hS => ?_)
        obtain ⟨hk1, r16, rfl⟩ := hp13
        have hk := hk.trans hk1
        refine W.eq (g2 := F0 m 47 ls [.int r16]) rfl ?_
        refine lv_if_ne (tgt := 53) hx hb dX0_tellPatternsFrom_47 (by decide) (fun hc17 => ?_) (fun hc17 => ?_)
        · refine lv_aload_n hx hb dX0_tellPatternsFrom_53 rfl (lv_at hl 1 rfl) ?_
          refine lv_iload_n hx hb dX0_tellPatternsFrom_54 rfl (lv_at hl 2 rfl) ?_
          refine gc_go0 (va_runV (As := [.int (nI 0)]) (rest := []) ⟨hx, hb, hml, hown, hts⟩ (m_X0_addLog l hl9 D cI cJ ad sg12 _ 0 (by omega) hk.1) (cwV 1 hts (gwV a58 a59 a60 a18 a61) rfl rfl rfl (by decide +kernel) ⟨by decide, by decide⟩) (gc_preV0 hK hP hD hS hA hE rfl rfl rfl) rfl rfl hl.1 rfl (lv_room (Nat.le_of_ble_eq_true rfl)) dX0_tellPatternsFrom_55 ⟨by decide, by decide⟩) hD hS hA (fun v18 sg20 H locs hp21 hP hD hS => ?_)
          obtain ⟨hk1, rfl⟩ := hp21
          have hk := hk.trans hk1
          refine W.eq (g2 := F0 m 58 ls []) rfl ?_
          refine lv_aload_n hx hb dX0_tellPatternsFrom_58 rfl (lv_at hl 1 rfl) ?_
          refine lv_iload_n hx hb dX0_tellPatternsFrom_59 rfl (lv_at hl 2 rfl) ?_
          refine gc_go0 (va_runV (As := [.int (nI 0)]) (rest := []) ⟨hx, hb, hml, hown, hts⟩ (m_X0_step0 l hl9 D cI cJ ad sg20 _  hk.1) (cwV 1 hts (gwV a62 a63 a64 a18 a65) rfl rfl rfl (by decide +kernel) ⟨by decide, by decide⟩) (gc_preV0 hK hP hD hS hA hE rfl rfl rfl) rfl rfl hl.1 rfl (lv_room (Nat.le_of_ble_eq_true rfl)) dX0_tellPatternsFrom_60 ⟨by decide, by decide⟩) hD hS hA (fun v24 sg26 H locs hp27 hP hD hS => ?_)
          obtain ⟨hk1, rfl⟩ := hp27
          have hk := hk.trans hk1
          refine W.eq (g2 := F0 m 63 ls []) rfl ?_
          refine lv_iinc (k := 0) (v := (nI (i + 1))) (lv' := [(2, .int (nI (i + 1))), (0, .ref (ad 0)), (1, .int (nI 0))]) hx hb dX0_tellPatternsFrom_63 hl rfl (nI_1 _) (by decide) rfl (fun ls hl => ?_)
          refine lv_goto (tgt := 29) hx hb dX0_tellPatternsFrom_66 (by decide) ?_
          exact ih _ (by omega) (i + 1) _ _ _ _ rfl (by omega) hk hP hD hS (lv_sub hl [0, 1, 2] rfl)
        · refine lv_goto (tgt := 69) hx hb dX0_tellPatternsFrom_50 (by decide) ?_
          exact c69  _ _ _ _  hk hP hD hS (lv_sub hl [1, 2] rfl)
  have c22 : ∀ (sg : Nat → Nat → Int32) (H : Heap) (locs : List Loc) (ls : Array Slot), (KG 8 9 11 sg0 sg) → va_P D vwCl (gw cI cJ ad sg SS) H → va_D A (gw cI cJ ad sg SS) → va_S A s.heap H locs → lv_has ls 3 [(0, .ref (ad 0)), (1, .int (nI 0))] → W p l e rmX0_tell0 s m ([.ref (ad 0), .int (nI 0)] : List Value).toArray below meth c H locs 0 0 Q (F0 m 22 ls []) := by
    intro sg H locs ls hk hP hD hS hl
    refine lv_aload_n hx hb dX0_tellPatternsFrom_22 rfl (lv_at hl 0 rfl) ?_
    refine lv_iload_n hx hb dX0_tellPatternsFrom_23 rfl (lv_at hl 1 rfl) ?_
    refine gc_go0 (va_runV (As := [.int (nI 0)]) (rest := []) ⟨hx, hb, hml, hown, hts⟩ (m_X0_step0 l hl9 D cI cJ ad sg _  hk.1) (cwV 1 hts (gwV a62 a63 a64 a18 a65) rfl rfl rfl (by decide +kernel) ⟨by decide, by decide⟩) (gc_preV0 hK hP hD hS hA hE rfl rfl rfl) rfl rfl hl.1 rfl (lv_room (Nat.le_of_ble_eq_true rfl)) dX0_tellPatternsFrom_24 ⟨by decide, by decide⟩) hD hS hA (fun v30 sg32 H locs hp33 hP hD hS => ?_)
    obtain ⟨hk1, rfl⟩ := hp33
    have hk := hk.trans hk1
    refine W.eq (g2 := F0 m 27 ls []) rfl ?_
    refine lv_iconst (v := (nI 1)) hx hb dX0_tellPatternsFrom_27 (by decide) ?_
    refine lv_istore_n (lv' := [(2, .int (nI 1)), (0, .ref (ad 0)), (1, .int (nI 0))]) hx hb dX0_tellPatternsFrom_28 rfl hl (by decide) rfl (fun ls hl => ?_)
    exact c29 _ 1 _ _ _ _ rfl (by omega) hk hP hD hS (lv_sub hl [0, 1, 2] rfl)
  have c17 : ∀ (sg : Nat → Nat → Int32) (H : Heap) (locs : List Loc) (ls : Array Slot), (KG 8 9 11 sg0 sg) → va_P D vwCl (gw cI cJ ad sg SS) H → va_D A (gw cI cJ ad sg SS) → va_S A s.heap H locs → lv_has ls 3 [(0, .ref (ad 0)), (1, .int (nI 0))] → W p l e rmX0_tell0 s m ([.ref (ad 0), .int (nI 0)] : List Value).toArray below meth c H locs 0 0 Q (F0 m 17 ls []) := by
    intro sg H locs ls hk hP hD hS hl
    refine lv_aload_n hx hb dX0_tellPatternsFrom_17 rfl (lv_at hl 0 rfl) ?_
    refine gc_go0 (va_runV (As := []) (rest := []) ⟨hx, hb, hml, hown, hts⟩ (m_X0_lookAtPlan l hl9 D cI cJ ad sg _  hk.1) (cwV 0 hts (gwV a39 a40 a41 a18 a42) rfl rfl rfl (by decide +kernel) ⟨by decide, by decide⟩) (gc_preV0 hK hP hD hS hA hE rfl rfl rfl) rfl rfl hl.1 rfl (lv_room (Nat.le_of_ble_eq_true rfl)) dX0_tellPatternsFrom_18 ⟨by decide, by decide⟩) hD hS hA (fun v36 sg38 H locs hp39 hP hD hS => ?_)
    obtain ⟨hk1, rfl⟩ := hp39
    have hk := hk.trans hk1
    refine W.eq (g2 := F0 m 21 ls []) rfl ?_
    exact hret _ _ _ _ _ hP hS dX0_tellPatternsFrom_21 (⟨hk, rfl⟩)
  refine lv_iload_n hx hb dX0_tellPatternsFrom_0 rfl (lv_at hl 1 rfl) ?_
  refine lv_aload_n hx hb dX0_tellPatternsFrom_1 rfl (lv_at hl 0 rfl) ?_
  refine gw_getr (C := RX0) (T := TX0) (N := 15) hx hb hts inwX0 hown hK hP 0 0 8 rfl rfl rfl (by decide) (hts _ a6) (fun _ h9 => h9) dX0_tellPatternsFrom_2 ?_
  refine gw_getiN (C := RX1) (T := TX1) (N := 12) hx hb hts inwX1 hown hK hP 8 9 rfl rfl rfl (by decide) (hE.nest _ (.fieldLinkNest RX0 81 RX1 "patterns" "I" RX2) (by decide +kernel) rfl) (fun _ h9 => h9) dX0_tellPatternsFrom_5 ?_
  obtain ⟨N42, hN42, eN42⟩ := hk.1.1
  refine gw_top (y := (nI N42)) (eN42) ?_
  refine lv_icmp_ge (tgt := 17) hx hb dX0_tellPatternsFrom_8 (by decide) (fun hc43 => ?_) (fun hc43 => ?_)
  · have hc43 : N42 ≤ 0 := (nI_leI (a := N42) (b := 0) (by omega) (by omega)).mp hc43
    exact c17  _ _ _ _  hk hP hD hS (lv_sub hl [0, 1] rfl)
  · have hc43 : ¬ (N42 ≤ 0) := fun q => hc43 ((nI_leI (a := N42) (b := 0) (by omega) (by omega)).mpr q)
    refine lv_iload_n hx hb dX0_tellPatternsFrom_11 rfl (lv_at hl 1 rfl) ?_
    refine lv_bipush (v := (nI 6)) hx hb dX0_tellPatternsFrom_12 (by decide) ?_
    refine lv_icmp_lt (tgt := 22) hx hb dX0_tellPatternsFrom_14 (by decide) (fun hc44 => ?_) (fun hc44 => ?_)
    · exact c22  _ _ _ _  hk hP hD hS (lv_sub hl [0, 1] rfl)
    · exact absurd hc44 (by decide)
abbrev rmX0_goThroughPlans : Room := { frames := 16, cells := 0, slots := 0, locals := 344 }
set_option maxRecDepth 100000 in
set_option maxHeartbeats 4000000 in
theorem m_X0_goThroughPlans (l : Launch) (hl9 : l.stackTraces = false) (D : va_G) (cI : ClassId) (cJ : ClassId × ClassId) (ad : Nat → Nat) (sg0 : Nat → Nat → Int32) (sz : Nat) (x1 : Int32) (x2 : Int32) (hI : IvG 8 9 11 sg0) : gc_M l yX0_goThroughPlans wsX0_goThroughPlans rmX0_goThroughPlans D vwCl (tyS cI cJ) cI cJ gxT gxN SS [.ref (ad 0), .int x1, .int x2] ad sg0 sz 0 0 (fun v sg2 => KG 8 9 11 sg0 sg2 ∧ v = none) := by
  refine gc_Mv_of (cc := cX0_goThroughPlans) (maxL := 3) (by decide) rfl (Nat.le_of_ble_eq_true rfl) ?_
  intro p e s m below meth c A ls Q hin hE hret
  obtain ⟨⟨hx, hb, hml, hown, hts⟩, -, hlocks, -, hA, hP, hK, hD, hS, hl⟩ := hin
  have hts : ∀ w ∈ wsAll, w.before ([.ref (ad 0), .int x1, .int x2] : List Value).toArray s = true := fun w h => hts w (List.mem_cons_of_mem _ h)
  have hl : lv_has ls 3 [(0, .ref (ad 0)), (1, .int x1), (2, .int x2)] := hl
  have hk := KG.refl hI
  refine lv_aload_n hx hb dX0_goThroughPlans_0 rfl (lv_at hl 0 rfl) ?_
  refine gc_go0 (va_runV (As := []) (rest := []) ⟨hx, hb, hml, hown, hts⟩ (m_X0_startWithEmptyPlan l hl9 D cI cJ ad sg0 _  hk.1) (cwV 0 hts (gwV a66 a67 a68 a18 a69) rfl rfl rfl (by decide +kernel) ⟨by decide, by decide⟩) (gc_preV0 hK hP hD hS hA hE rfl rfl rfl) rfl rfl hl.1 rfl (lv_room (Nat.le_of_ble_eq_true rfl)) dX0_goThroughPlans_1 ⟨by decide, by decide⟩) hD hS hA (fun v1 sg3 H locs hp4 hP hD hS => ?_)
  obtain ⟨hk1, rfl⟩ := hp4
  have hk := hk.trans hk1
  refine W.eq (g2 := F0 m 4 ls []) rfl ?_
  refine lv_aload_n hx hb dX0_goThroughPlans_4 rfl (lv_at hl 0 rfl) ?_
  refine lv_iload_n hx hb dX0_goThroughPlans_5 rfl (lv_at hl 2 rfl) ?_
  refine gc_go0 (va_runV (As := [.int x2]) (rest := []) ⟨hx, hb, hml, hown, hts⟩ (m_X0_takeOrders l hl9 D cI cJ ad sg3 _ x2 hk.1) (cwV 1 hts (gwV a70 a71 a72 a18 a73) rfl rfl rfl (by decide +kernel) ⟨by decide, by decide⟩) (gc_preV0 hK hP hD hS hA hE rfl rfl rfl) rfl rfl hl.1 rfl (lv_room (Nat.le_of_ble_eq_true rfl)) dX0_goThroughPlans_6 ⟨by decide, by decide⟩) hD hS hA (fun v7 sg9 H locs hp10 hP hD hS => ?_)
  obtain ⟨hk1, rfl⟩ := hp10
  have hk := hk.trans hk1
  refine W.eq (g2 := F0 m 9 ls []) rfl ?_
  refine lv_aload_n hx hb dX0_goThroughPlans_9 rfl (lv_at hl 0 rfl) ?_
  refine lv_iload_n hx hb dX0_goThroughPlans_10 rfl (lv_at hl 1 rfl) ?_
  refine gw_put (C := RX0) (T := TX0) (N := 15) (ty := .int) hx hb hts inwX0 tyX0 tyX0_ok nmX0 hown hK hP hD hS 0 9 rfl rfl rfl (by decide) (hts _ a44) (fun _ h9 => h9) rfl (by decide +kernel) rfl rfl dX0_goThroughPlans_11 (fun H locs hP hD hS => ?_)
  obtain ⟨sg13, esg13⟩ : ∃ z : Nat → Nat → Int32, z = gw_u sg9 0 (upd (sg9 0) 9 x1) := ⟨_, rfl⟩
  rw [← esg13] at hP hD
  have hk : KG 8 9 11 sg0 sg13 := by rw [esg13]; exact hk.wa 0 (by omega) (by omega) _
  refine lv_aload_n hx hb dX0_goThroughPlans_14 rfl (lv_at hl 0 rfl) ?_
  refine lv_iconst (v := (nI 0)) hx hb dX0_goThroughPlans_15 (by decide) ?_
  refine gw_put (C := RX0) (T := TX0) (N := 15) (ty := .int) hx hb hts inwX0 tyX0 tyX0_ok nmX0 hown hK hP hD hS 0 10 rfl rfl rfl (by decide) (hts _ a43) (fun _ h9 => h9) rfl (by decide +kernel) rfl rfl dX0_goThroughPlans_16 (fun H locs hP hD hS => ?_)
  obtain ⟨sg14, esg14⟩ : ∃ z : Nat → Nat → Int32, z = gw_u sg13 0 (upd (sg13 0) 10 (nI 0)) := ⟨_, rfl⟩
  rw [← esg14] at hP hD
  have hk : KG 8 9 11 sg0 sg14 := by rw [esg14]; exact hk.wa 0 (by omega) (by omega) _
  refine lv_aload_n hx hb dX0_goThroughPlans_19 rfl (lv_at hl 0 rfl) ?_
  refine lv_iconst (v := (nI 0)) hx hb dX0_goThroughPlans_20 (by decide) ?_
  refine gw_put (C := RX0) (T := TX0) (N := 15) (ty := .boolean) hx hb hts inwX0 tyX0 tyX0_ok nmX0 hown hK hP hD hS 0 11 rfl rfl rfl (by decide) (hts _ a49) (fun _ h9 => h9) rfl (by decide +kernel) rfl rfl dX0_goThroughPlans_21 (fun H locs hP hD hS => ?_)
  obtain ⟨sg15, esg15⟩ : ∃ z : Nat → Nat → Int32, z = gw_u sg14 0 (upd (sg14 0) 11 (nI 0)) := ⟨_, rfl⟩
  rw [← esg15] at hP hD
  have hk : KG 8 9 11 sg0 sg15 := by rw [esg15]; exact hk.wa 0 (by omega) (by omega) _
  refine lv_aload_n hx hb dX0_goThroughPlans_24 rfl (lv_at hl 0 rfl) ?_
  refine lv_iconst (v := (nI 0)) hx hb dX0_goThroughPlans_25 (by decide) ?_
  refine gw_put (C := RX0) (T := TX0) (N := 15) (ty := .boolean) hx hb hts inwX0 tyX0 tyX0_ok nmX0 hown hK hP hD hS 0 12 rfl rfl rfl (by decide) (hts _ a24) (fun _ h9 => h9) rfl (by decide +kernel) rfl rfl dX0_goThroughPlans_26 (fun H locs hP hD hS => ?_)
  obtain ⟨sg16, esg16⟩ : ∃ z : Nat → Nat → Int32, z = gw_u sg15 0 (upd (sg15 0) 12 (nI 0)) := ⟨_, rfl⟩
  rw [← esg16] at hP hD
  have hk : KG 8 9 11 sg0 sg16 := by rw [esg16]; exact hk.wa 0 (by omega) (by omega) _
  refine lv_aload_n hx hb dX0_goThroughPlans_29 rfl (lv_at hl 0 rfl) ?_
  refine lv_iconst (v := (nI 0)) hx hb dX0_goThroughPlans_30 (by decide) ?_
  refine gc_go0 (va_runV (As := [.int (nI 0)]) (rest := []) ⟨hx, hb, hml, hown, hts⟩ (m_X0_tell0 l hl9 D cI cJ ad sg16 _  hk.1) (cwV 1 hts (gwV a45 a46 a47 a18 a48) rfl rfl rfl (by decide +kernel) ⟨by decide, by decide⟩) (gc_preV0 hK hP hD hS hA hE rfl rfl rfl) rfl rfl hl.1 rfl (lv_room (Nat.le_of_ble_eq_true rfl)) dX0_goThroughPlans_31 ⟨by decide, by decide⟩) hD hS hA (fun v17 sg19 H locs hp20 hP hD hS => ?_)
  obtain ⟨hk1, rfl⟩ := hp20
  have hk := hk.trans hk1
  refine W.eq (g2 := F0 m 34 ls []) rfl ?_
  exact hret _ _ _ _ _ hP hS dX0_goThroughPlans_34 (⟨hk, rfl⟩)
