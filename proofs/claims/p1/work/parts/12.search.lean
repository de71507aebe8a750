abbrev rmX0_startWithEmptyPlan : Room := { frames := 0, cells := 0, slots := 0, locals := 0 }
set_option maxRecDepth 100000 in
set_option maxHeartbeats 4000000 in
theorem m_X0_startWithEmptyPlan (l : Launch) (hl9 : l.stackTraces = false) (D : va_G) (cI : ClassId) (cJ : ClassId × ClassId) (ad : Nat → Nat) (sg0 : Nat → Nat → Int32) (sz : Nat) (hk : ZSS sg0) : gc_M l yX0_startWithEmptyPlan wsX0_startWithEmptyPlan rmX0_startWithEmptyPlan D vwCl (tyS cI cJ) cI cJ gxT gxN SS [.ref (ad 0)] ad sg0 sz 0 0 (fun v sg2 => v = none ∧ ZSS sg2) := by
  refine gc_Mv_of (cc := cX0_startWithEmptyPlan) (maxL := 2) (by decide) rfl (Nat.le_of_ble_eq_true rfl) ?_
  intro p e s m below meth c A ls Q hin hE hret
  obtain ⟨⟨hx, hb, hml, hown, hts⟩, -, hlocks, -, hA, hP, hK, hD, hS, hl⟩ := hin
  have hts : ∀ w ∈ wsAll, w.before ([.ref (ad 0)] : List Value).toArray s = true := fun w h => hts w (List.mem_cons_of_mem _ h)
  have hl : lv_has ls 2 [(0, .ref (ad 0))] := hl
  have c51 : ∀ (n9 : Nat) (i : Nat) (sg : Nat → Nat → Int32) (H : Heap) (locs : List Loc) (ls : Array Slot), 4 - i = n9 → i ≤ 4 → ZSS sg → va_P D vwCl (gw cI cJ ad sg SS) H → va_D A (gw cI cJ ad sg SS) → va_S A s.heap H locs → lv_has ls 2 [(1, .int (nI i)), (0, .ref (ad 0))] → W p l e rmX0_startWithEmptyPlan s m ([.ref (ad 0)] : List Value).toArray below meth c H locs 0 0 Q (F0 m 51 ls []) := by
    intro n9
    induction n9 using Nat.strongRecOn with
    | ind n9 ih =>
    intro i sg H locs ls hn h1 hk hP hD hS hl
    subst hn
    refine lv_iload_n hx hb dX0_startWithEmptyPlan_51 rfl (lv_at hl 0 rfl) ?_
    refine lv_iconst (v := (nI 4)) hx hb dX0_startWithEmptyPlan_52 (by decide) ?_
    refine lv_icmp_ge (tgt := 77) hx hb dX0_startWithEmptyPlan_53 (by decide) (fun hc1 => ?_) (fun hc1 => ?_)
    · have hc1 : 4 ≤ i := (nI_leI (a := 4) (b := i) (by omega) (by omega)).mp hc1
      refine lv_aload_n hx hb dX0_startWithEmptyPlan_77 rfl (lv_at hl 1 rfl) ?_
      refine lv_aload_n hx hb dX0_startWithEmptyPlan_78 rfl (lv_at hl 1 rfl) ?_
      refine gw_getr (C := RX0) (T := TX0) (N := 15) hx hb hts inwX0 hown hK hP 0 0 8 rfl rfl rfl (by decide) (hts _ a21) (fun _ h9 => h9) dX0_startWithEmptyPlan_79 ?_
      refine gw_getiN (C := RX1) (T := TX1) (N := 12) hx hb hts inwX1 hown hK hP 8 10 rfl rfl rfl (by decide) (hE.nest _ (.fieldLinkNest RX0 69 RX1 "minutesADay" "I" RX2) (by decide +kernel) rfl) (fun _ h9 => h9) dX0_startWithEmptyPlan_82 ?_
      refine lv_topi (fun v2 hv2 => ?_)
      refine gw_put (C := RX0) (T := TX0) (N := 15) (ty := .int) hx hb hts inwX0 tyX0 tyX0_ok nmX0 hown hK hP hD hS 0 4 rfl rfl rfl (by decide) (hts _ a22) (fun _ h9 => h9) rfl (by decide +kernel) rfl rfl dX0_startWithEmptyPlan_85 (fun H locs hP hD hS => ?_)
      obtain ⟨sg3, esg3⟩ : ∃ z : Nat → Nat → Int32, z = gw_u sg 0 (upd (sg 0) 4 v2) := ⟨_, rfl⟩
      rw [← esg3] at hP hD
      have hk : ZSS sg3 := by rw [esg3]; exact hk.wf (by decide) _
      refine lv_aload_n hx hb dX0_startWithEmptyPlan_88 rfl (lv_at hl 1 rfl) ?_
      refine lv_iconst (v := (nI 0)) hx hb dX0_startWithEmptyPlan_89 (by decide) ?_
      refine gw_put (C := RX0) (T := TX0) (N := 15) (ty := .int) hx hb hts inwX0 tyX0 tyX0_ok nmX0 hown hK hP hD hS 0 5 rfl rfl rfl (by decide) (hts _ a23) (fun _ h9 => h9) rfl (by decide +kernel) rfl rfl dX0_startWithEmptyPlan_90 (fun H locs hP hD hS => ?_)
      obtain ⟨sg4, esg4⟩ : ∃ z : Nat → Nat → Int32, z = gw_u sg3 0 (upd (sg3 0) 5 (nI 0)) := ⟨_, rfl⟩
      rw [← esg4] at hP hD
      have hk : ZSS sg4 := by rw [esg4]; exact hk.wc
      exact hret _ _ _ _ _ hP hS dX0_startWithEmptyPlan_93 (⟨rfl, hk⟩)
    · have hc1 : ¬ (4 ≤ i) := fun q => hc1 ((nI_leI (a := 4) (b := i) (by omega) (by omega)).mpr q)
      refine lv_aload_n hx hb dX0_startWithEmptyPlan_56 rfl (lv_at hl 1 rfl) ?_
      refine gw_getr (C := RX0) (T := TX0) (N := 15) hx hb hts inwX0 hown hK hP 0 3 3 rfl rfl rfl (by decide) (hts _ a24) (fun _ h9 => h9) dX0_startWithEmptyPlan_57 ?_
      refine lv_iload_n hx hb dX0_startWithEmptyPlan_60 rfl (lv_at hl 0 rfl) ?_
      refine lv_aload_n hx hb dX0_startWithEmptyPlan_61 rfl (lv_at hl 1 rfl) ?_
      refine gw_getr (C := RX0) (T := TX0) (N := 15) hx hb hts inwX0 hown hK hP 0 0 8 rfl rfl rfl (by decide) (hts _ a21) (fun _ h9 => h9) dX0_startWithEmptyPlan_62 ?_
      refine gw_getrN (C := RX1) (T := TX1) (N := 12) hx hb hts inwX1 hown hK hP 8 8 17 rfl rfl rfl (by decide) (hE.nest _ (.fieldLinkNest RX0 66 RX1 "stock" "[I" RX2) (by decide +kernel) rfl) (fun _ h9 => h9) dX0_startWithEmptyPlan_65 ?_
      refine lv_iload_n hx hb dX0_startWithEmptyPlan_68 rfl (lv_at hl 0 rfl) ?_
      refine gw_ald hx hb hK hP 17 0 (n := 4) rfl rfl (i := i) (by omega) (by decide) dX0_startWithEmptyPlan_69 ?_
      refine gw_top (y := (nI 0)) (hk.1 17 (by decide) (by decide) (by decide) _) ?_
      refine gw_ast hx hb hK hP hD hS 3 0 (n := 4) rfl rfl (i := i) (by omega) (by decide) dX0_startWithEmptyPlan_70 (fun H locs hP hD hS => ?_)
      obtain ⟨sg5, esg5⟩ : ∃ z : Nat → Nat → Int32, z = gw_u sg 3 (upd (sg 3) i (nI 0)) := ⟨_, rfl⟩
      rw [← esg5] at hP hD
      have hk : ZSS sg5 := by rw [esg5]; exact hk.wa 3 (by decide) (by decide) _
      refine lv_iinc (k := 0) (v := (nI (i + 1))) (lv' := [(1, .int (nI (i + 1))), (0, .ref (ad 0))]) hx hb dX0_startWithEmptyPlan_71 hl rfl (nI_1 _) (by decide) rfl (fun ls hl => ?_)
      refine lv_goto (tgt := 51) hx hb dX0_startWithEmptyPlan_74 (by decide) ?_
      exact ih _ (by omega) (i + 1) _ _ _ _ rfl (by omega) hk hP hD hS (lv_sub hl [0, 1] rfl)
  have c23 : ∀ (n9 : Nat) (i : Nat) (sg : Nat → Nat → Int32) (H : Heap) (locs : List Loc) (ls : Array Slot), 4 - i = n9 → i ≤ 4 → ZSS sg → va_P D vwCl (gw cI cJ ad sg SS) H → va_D A (gw cI cJ ad sg SS) → va_S A s.heap H locs → lv_has ls 2 [(1, .int (nI i)), (0, .ref (ad 0))] → W p l e rmX0_startWithEmptyPlan s m ([.ref (ad 0)] : List Value).toArray below meth c H locs 0 0 Q (F0 m 23 ls []) := by
    intro n9
    induction n9 using Nat.strongRecOn with
    | ind n9 ih =>
    intro i sg H locs ls hn h1 hk hP hD hS hl
    subst hn
    refine lv_iload_n hx hb dX0_startWithEmptyPlan_23 rfl (lv_at hl 0 rfl) ?_
    refine lv_iconst (v := (nI 4)) hx hb dX0_startWithEmptyPlan_24 (by decide) ?_
    refine lv_icmp_ge (tgt := 49) hx hb dX0_startWithEmptyPlan_25 (by decide) (fun hc6 => ?_) (fun hc6 => ?_)
    · have hc6 : 4 ≤ i := (nI_leI (a := 4) (b := i) (by omega) (by omega)).mp hc6
      refine lv_iconst (v := (nI 0)) hx hb dX0_startWithEmptyPlan_49 (by decide) ?_
      refine lv_istore_n (lv' := [(1, .int (nI 0)), (0, .ref (ad 0))]) hx hb dX0_startWithEmptyPlan_50 rfl hl (by decide) rfl (fun ls hl => ?_)
      exact c51 _ 0 _ _ _ _ rfl (by omega) hk hP hD hS (lv_sub hl [0, 1] rfl)
    · have hc6 : ¬ (4 ≤ i) := fun q => hc6 ((nI_leI (a := 4) (b := i) (by omega) (by omega)).mpr q)
      refine lv_aload_n hx hb dX0_startWithEmptyPlan_28 rfl (lv_at hl 1 rfl) ?_
      refine gw_getr (C := RX0) (T := TX0) (N := 15) hx hb hts inwX0 hown hK hP 0 2 2 rfl rfl rfl (by decide) (hts _ a25) (fun _ h9 => h9) dX0_startWithEmptyPlan_29 ?_
      refine lv_iload_n hx hb dX0_startWithEmptyPlan_32 rfl (lv_at hl 0 rfl) ?_
      refine lv_aload_n hx hb dX0_startWithEmptyPlan_33 rfl (lv_at hl 1 rfl) ?_
      refine gw_getr (C := RX0) (T := TX0) (N := 15) hx hb hts inwX0 hown hK hP 0 0 8 rfl rfl rfl (by decide) (hts _ a21) (fun _ h9 => h9) dX0_startWithEmptyPlan_34 ?_
      refine gw_getrN (C := RX1) (T := TX1) (N := 12) hx hb hts inwX1 hown hK hP 8 0 9 rfl rfl rfl (by decide) (hE.nest _ (.fieldLinkNest RX0 61 RX1 "logsLeft" "[I" RX2) (by decide +kernel) rfl) (fun _ h9 => h9) dX0_startWithEmptyPlan_37 ?_
      refine lv_iload_n hx hb dX0_startWithEmptyPlan_40 rfl (lv_at hl 0 rfl) ?_
      refine gw_ald hx hb hK hP 9 0 (n := 4) rfl rfl (i := i) (by omega) (by decide) dX0_startWithEmptyPlan_41 ?_
      refine gw_top (y := (nI 0)) (hk.1 9 (by decide) (by decide) (by decide) _) ?_
      refine gw_ast hx hb hK hP hD hS 2 0 (n := 4) rfl rfl (i := i) (by omega) (by decide) dX0_startWithEmptyPlan_42 (fun H locs hP hD hS => ?_)
      obtain ⟨sg7, esg7⟩ : ∃ z : Nat → Nat → Int32, z = gw_u sg 2 (upd (sg 2) i (nI 0)) := ⟨_, rfl⟩
      rw [← esg7] at hP hD
      have hk : ZSS sg7 := by rw [esg7]; exact hk.wa 2 (by decide) (by decide) _
      refine lv_iinc (k := 0) (v := (nI (i + 1))) (lv' := [(1, .int (nI (i + 1))), (0, .ref (ad 0))]) hx hb dX0_startWithEmptyPlan_43 hl rfl (nI_1 _) (by decide) rfl (fun ls hl => ?_)
      refine lv_goto (tgt := 23) hx hb dX0_startWithEmptyPlan_46 (by decide) ?_
      exact ih _ (by omega) (i + 1) _ _ _ _ rfl (by omega) hk hP hD hS (lv_sub hl [0, 1] rfl)
  have c2 : ∀ (n9 : Nat) (i : Nat) (sg : Nat → Nat → Int32) (H : Heap) (locs : List Loc) (ls : Array Slot), 6 - i = n9 → i ≤ 6 → ZSS sg → va_P D vwCl (gw cI cJ ad sg SS) H → va_D A (gw cI cJ ad sg SS) → va_S A s.heap H locs → lv_has ls 2 [(1, .int (nI i)), (0, .ref (ad 0))] → W p l e rmX0_startWithEmptyPlan s m ([.ref (ad 0)] : List Value).toArray below meth c H locs 0 0 Q (F0 m 2 ls []) := by
    intro n9
    induction n9 using Nat.strongRecOn with
    | ind n9 ih =>
    intro i sg H locs ls hn h1 hk hP hD hS hl
    subst hn
    refine lv_iload_n hx hb dX0_startWithEmptyPlan_2 rfl (lv_at hl 0 rfl) ?_
    refine lv_bipush (v := (nI 6)) hx hb dX0_startWithEmptyPlan_3 (by decide) ?_
    refine lv_icmp_ge (tgt := 21) hx hb dX0_startWithEmptyPlan_5 (by decide) (fun hc8 => ?_) (fun hc8 => ?_)
    · have hc8 : 6 ≤ i := (nI_leI (a := 6) (b := i) (by omega) (by omega)).mp hc8
      refine lv_iconst (v := (nI 0)) hx hb dX0_startWithEmptyPlan_21 (by decide) ?_
      refine lv_istore_n (lv' := [(1, .int (nI 0)), (0, .ref (ad 0))]) hx hb dX0_startWithEmptyPlan_22 rfl hl (by decide) rfl (fun ls hl => ?_)
      exact c23 _ 0 _ _ _ _ rfl (by omega) hk hP hD hS (lv_sub hl [0, 1] rfl)
    · have hc8 : ¬ (6 ≤ i) := fun q => hc8 ((nI_leI (a := 6) (b := i) (by omega) (by omega)).mpr q)
      refine lv_aload_n hx hb dX0_startWithEmptyPlan_8 rfl (lv_at hl 1 rfl) ?_
      refine gw_getr (C := RX0) (T := TX0) (N := 15) hx hb hts inwX0 hown hK hP 0 1 1 rfl rfl rfl (by decide) (hts _ a26) (fun _ h9 => h9) dX0_startWithEmptyPlan_9 ?_
      refine lv_iload_n hx hb dX0_startWithEmptyPlan_12 rfl (lv_at hl 0 rfl) ?_
      refine lv_iconst (v := (nI 0)) hx hb dX0_startWithEmptyPlan_13 (by decide) ?_
      refine gw_ast hx hb hK hP hD hS 1 0 (n := 6) rfl rfl (i := i) (by omega) (by decide) dX0_startWithEmptyPlan_14 (fun H locs hP hD hS => ?_)
      obtain ⟨sg9, esg9⟩ : ∃ z : Nat → Nat → Int32, z = gw_u sg 1 (upd (sg 1) i (nI 0)) := ⟨_, rfl⟩
      rw [← esg9] at hP hD
      have hk : ZSS sg9 := by rw [esg9]; exact hk.wa 1 (by decide) (by decide) _
      refine lv_iinc (k := 0) (v := (nI (i + 1))) (lv' := [(1, .int (nI (i + 1))), (0, .ref (ad 0))]) hx hb dX0_startWithEmptyPlan_15 hl rfl (nI_1 _) (by decide) rfl (fun ls hl => ?_)
      refine lv_goto (tgt := 2) hx hb dX0_startWithEmptyPlan_18 (by decide) ?_
      exact ih _ (by omega) (i + 1) _ _ _ _ rfl (by omega) hk hP hD hS (lv_sub hl [0, 1] rfl)
  refine lv_iconst (v := (nI 0)) hx hb dX0_startWithEmptyPlan_0 (by decide) ?_
  refine lv_istore_n (lv' := [(1, .int (nI 0)), (0, .ref (ad 0))]) hx hb dX0_startWithEmptyPlan_1 rfl hl (by decide) rfl (fun ls hl => ?_)
  exact c2 _ 0 _ _ _ _ rfl (by omega) hk hP hD hS (lv_sub hl [0, 1] rfl)
abbrev rmX0_takeOrders : Room := { frames := 0, cells := 0, slots := 0, locals := 0 }
set_option maxRecDepth 100000 in
set_option maxHeartbeats 4000000 in
theorem m_X0_takeOrders (l : Launch) (hl9 : l.stackTraces = false) (D : va_G) (cI : ClassId) (cJ : ClassId × ClassId) (ad : Nat → Nat) (sg0 : Nat → Nat → Int32) (sz : Nat) (x1 : Int32) (hk : ZSS sg0) : gc_M l yX0_takeOrders wsX0_takeOrders rmX0_takeOrders D vwCl (tyS cI cJ) cI cJ gxT gxN SS [.ref (ad 0), .int x1] ad sg0 sz 0 0 (fun v sg2 => v = none ∧ ZSS sg2) := by
  refine gc_Mv_of (cc := cX0_takeOrders) (maxL := 4) (by decide) rfl (Nat.le_of_ble_eq_true rfl) ?_
  intro p e s m below meth c A ls Q hin hE hret
  obtain ⟨⟨hx, hb, hml, hown, hts⟩, -, hlocks, -, hA, hP, hK, hD, hS, hl⟩ := hin
  have hts : ∀ w ∈ wsAll, w.before ([.ref (ad 0), .int x1] : List Value).toArray s = true := fun w h => hts w (List.mem_cons_of_mem _ h)
  have hl : lv_has ls 4 [(0, .ref (ad 0)), (1, .int x1)] := hl
  have c2 : ∀ (n9 : Nat) (i : Nat) (sg : Nat → Nat → Int32) (H : Heap) (locs : List Loc) (ls : Array Slot), 4 - i = n9 → i ≤ 4 → ZSS sg → va_P D vwCl (gw cI cJ ad sg SS) H → va_D A (gw cI cJ ad sg SS) → va_S A s.heap H locs → lv_has ls 4 [(2, .int (nI i)), (0, .ref (ad 0)), (1, .int x1)] → W p l e rmX0_takeOrders s m ([.ref (ad 0), .int x1] : List Value).toArray below meth c H locs 0 0 Q (F0 m 2 ls []) := by
    intro n9
    induction n9 using Nat.strongRecOn with
    | ind n9 ih =>
    intro i sg H locs ls hn h1 hk hP hD hS hl
    subst hn
    refine lv_iload_n hx hb dX0_takeOrders_2 rfl (lv_at hl 0 rfl) ?_
    refine lv_iconst (v := (nI 4)) hx hb dX0_takeOrders_3 (by decide) ?_
    refine lv_icmp_ge (tgt := 93) hx hb dX0_takeOrders_4 (by decide) (fun hc1 => ?_) (fun hc1 => ?_)
    · have hc1 : 4 ≤ i := (nI_leI (a := 4) (b := i) (by omega) (by omega)).mp hc1
      exact hret _ _ _ _ _ hP hS dX0_takeOrders_93 (⟨rfl, hk⟩)
    · have hc1 : ¬ (4 ≤ i) := fun q => hc1 ((nI_leI (a := 4) (b := i) (by omega) (by omega)).mpr q)
      refine lv_iload_n hx hb dX0_takeOrders_7 rfl (lv_at hl 0 rfl) ?_
      refine lv_iload_n hx hb dX0_takeOrders_8 rfl (lv_at hl 2 rfl) ?_
      refine lv_icmp_eq (tgt := 16) hx hb dX0_takeOrders_9 (by decide) (fun hc2 => ?_) (fun hc2 => ?_)
      · refine lv_iconst (v := (nI 0)) hx hb dX0_takeOrders_16 (by decide) ?_
        refine lv_istore_n (lv' := [(3, .int (nI 0)), (2, .int (nI i)), (0, .ref (ad 0)), (1, .int x1)]) hx hb dX0_takeOrders_17 rfl hl (by decide) rfl (fun ls hl => ?_)
        refine lv_aload_n hx hb dX0_takeOrders_18 rfl (lv_at hl 2 rfl) ?_
        refine gw_getr (C := RX0) (T := TX0) (N := 15) hx hb hts inwX0 hown hK hP 0 6 4 rfl rfl rfl (by decide) (hts _ a27) (fun _ h9 => h9) dX0_takeOrders_19 ?_
        refine lv_iload_n hx hb dX0_takeOrders_22 rfl (lv_at hl 1 rfl) ?_
        refine lv_iload_n hx hb dX0_takeOrders_23 rfl (lv_at hl 0 rfl) ?_
        refine lv_if_eq (tgt := 39) hx hb dX0_takeOrders_24 (by decide) (fun hc3 => ?_) (fun hc3 => ?_)
        · refine lv_iconst (v := (nI 0)) hx hb dX0_takeOrders_39 (by decide) ?_
          refine gw_ast hx hb hK hP hD hS 4 0 (n := 4) rfl rfl (i := i) (by omega) (by decide) dX0_takeOrders_40 (fun H locs hP hD hS => ?_)
          obtain ⟨sg4, esg4⟩ : ∃ z : Nat → Nat → Int32, z = gw_u sg 4 (upd (sg 4) i (nI 0)) := ⟨_, rfl⟩
          rw [← esg4] at hP hD
          have hk : ZSS sg4 := by rw [esg4]; exact hk.wa 4 (by decide) (by decide) _
          refine lv_aload_n hx hb dX0_takeOrders_41 rfl (lv_at hl 2 rfl) ?_
          refine gw_getr (C := RX0) (T := TX0) (N := 15) hx hb hts inwX0 hown hK hP 0 7 5 rfl rfl rfl (by decide) (hts _ a28) (fun _ h9 => h9) dX0_takeOrders_42 ?_
          refine lv_iload_n hx hb dX0_takeOrders_45 rfl (lv_at hl 1 rfl) ?_
          refine lv_iload_n hx hb dX0_takeOrders_46 rfl (lv_at hl 0 rfl) ?_
          refine lv_if_eq (tgt := 62) hx hb dX0_takeOrders_47 (by decide) (fun hc5 => ?_) (fun hc5 => ?_)
          · refine lv_iconst (v := (nI 0)) hx hb dX0_takeOrders_62 (by decide) ?_
            refine gw_ast hx hb hK hP hD hS 5 0 (n := 4) rfl rfl (i := i) (by omega) (by decide) dX0_takeOrders_63 (fun H locs hP hD hS => ?_)
            obtain ⟨sg6, esg6⟩ : ∃ z : Nat → Nat → Int32, z = gw_u sg4 5 (upd (sg4 5) i (nI 0)) := ⟨_, rfl⟩
            rw [← esg6] at hP hD
            have hk : ZSS sg6 := by rw [esg6]; exact hk.wa 5 (by decide) (by decide) _
            refine lv_aload_n hx hb dX0_takeOrders_64 rfl (lv_at hl 2 rfl) ?_
            refine gw_getr (C := RX0) (T := TX0) (N := 15) hx hb hts inwX0 hown hK hP 0 8 6 rfl rfl rfl (by decide) (hts _ a29) (fun _ h9 => h9) dX0_takeOrders_65 ?_
            refine lv_iload_n hx hb dX0_takeOrders_68 rfl (lv_at hl 1 rfl) ?_
            refine lv_iload_n hx hb dX0_takeOrders_69 rfl (lv_at hl 0 rfl) ?_
            refine lv_if_eq (tgt := 85) hx hb dX0_takeOrders_70 (by decide) (fun hc7 => ?_) (fun hc7 => ?_)
            · refine lv_iconst (v := (nI 0)) hx hb dX0_takeOrders_85 (by decide) ?_
              refine gw_ast hx hb hK hP hD hS 6 0 (n := 4) rfl rfl (i := i) (by omega) (by decide) dX0_takeOrders_86 (fun H locs hP hD hS => ?_)
              obtain ⟨sg8, esg8⟩ : ∃ z : Nat → Nat → Int32, z = gw_u sg6 6 (upd (sg6 6) i (nI 0)) := ⟨_, rfl⟩
              rw [← esg8] at hP hD
              have hk : ZSS sg8 := by rw [esg8]; exact hk.wa 6 (by decide) (by decide) _
              refine lv_iinc (k := 1) (v := (nI (i + 1))) (lv' := [(2, .int (nI (i + 1))), (3, .int (nI 0)), (0, .ref (ad 0)), (1, .int x1)]) hx hb dX0_takeOrders_87 hl rfl (nI_1 _) (by decide) rfl (fun ls hl => ?_)
              refine lv_goto (tgt := 2) hx hb dX0_takeOrders_90 (by decide) ?_
              exact ih _ (by omega) (i + 1) _ _ _ _ rfl (by omega) hk hP hD hS (lv_sub hl [0, 2, 3] rfl)
            · exact absurd hc7 (by decide)
          · exact absurd hc5 (by decide)
        · exact absurd hc3 (by decide)
      · refine lv_iconst (v := (nI 1)) hx hb dX0_takeOrders_12 (by decide) ?_
        refine lv_goto (tgt := 17) hx hb dX0_takeOrders_13 (by decide) ?_
        refine lv_istore_n (lv' := [(3, .int (nI 1)), (2, .int (nI i)), (0, .ref (ad 0)), (1, .int x1)]) hx hb dX0_takeOrders_17 rfl hl (by decide) rfl (fun ls hl => ?_)
        refine lv_aload_n hx hb dX0_takeOrders_18 rfl (lv_at hl 2 rfl) ?_
        refine gw_getr (C := RX0) (T := TX0) (N := 15) hx hb hts inwX0 hown hK hP 0 6 4 rfl rfl rfl (by decide) (hts _ a27) (fun _ h9 => h9) dX0_takeOrders_19 ?_
        refine lv_iload_n hx hb dX0_takeOrders_22 rfl (lv_at hl 1 rfl) ?_
        refine lv_iload_n hx hb dX0_takeOrders_23 rfl (lv_at hl 0 rfl) ?_
        refine lv_if_eq (tgt := 39) hx hb dX0_takeOrders_24 (by decide) (fun hc9 => ?_) (fun hc9 => ?_)
        · exact absurd hc9 (by decide)
        · refine lv_aload_n hx hb dX0_takeOrders_27 rfl (lv_at hl 2 rfl) ?_
          refine gw_getr (C := RX0) (T := TX0) (N := 15) hx hb hts inwX0 hown hK hP 0 0 8 rfl rfl rfl (by decide) (hts _ a21) (fun _ h9 => h9) dX0_takeOrders_28 ?_
          refine gw_getrN (C := RX1) (T := TX1) (N := 12) hx hb hts inwX1 hown hK hP 8 5 14 rfl rfl rfl (by decide) (hE.nest _ (.fieldLinkNest RX0 78 RX1 "least" "[I" RX2) (by decide +kernel) rfl) (fun _ h9 => h9) dX0_takeOrders_31 ?_
          refine lv_iload_n hx hb dX0_takeOrders_34 rfl (lv_at hl 1 rfl) ?_
          refine gw_ald hx hb hK hP 14 0 (n := 4) rfl rfl (i := i) (by omega) (by decide) dX0_takeOrders_35 ?_
          refine gw_top (y := (nI 0)) (hk.1 14 (by decide) (by decide) (by decide) _) ?_
          refine lv_goto (tgt := 40) hx hb dX0_takeOrders_36 (by decide) ?_
          refine gw_ast hx hb hK hP hD hS 4 0 (n := 4) rfl rfl (i := i) (by omega) (by decide) dX0_takeOrders_40 (fun H locs hP hD hS => ?_)
          obtain ⟨sg10, esg10⟩ : ∃ z : Nat → Nat → Int32, z = gw_u sg 4 (upd (sg 4) i (nI 0)) := ⟨_, rfl⟩
          rw [← esg10] at hP hD
          have hk : ZSS sg10 := by rw [esg10]; exact hk.wa 4 (by decide) (by decide) _
          refine lv_aload_n hx hb dX0_takeOrders_41 rfl (lv_at hl 2 rfl) ?_
          refine gw_getr (C := RX0) (T := TX0) (N := 15) hx hb hts inwX0 hown hK hP 0 7 5 rfl rfl rfl (by decide) (hts _ a28) (fun _ h9 => h9) dX0_takeOrders_42 ?_
          refine lv_iload_n hx hb dX0_takeOrders_45 rfl (lv_at hl 1 rfl) ?_
          refine lv_iload_n hx hb dX0_takeOrders_46 rfl (lv_at hl 0 rfl) ?_
          refine lv_if_eq (tgt := 62) hx hb dX0_takeOrders_47 (by decide) (fun hc11 => ?_) (fun hc11 => ?_)
          · exact absurd hc11 (by decide)
          · refine lv_aload_n hx hb dX0_takeOrders_50 rfl (lv_at hl 2 rfl) ?_
            refine gw_getr (C := RX0) (T := TX0) (N := 15) hx hb hts inwX0 hown hK hP 0 0 8 rfl rfl rfl (by decide) (hts _ a21) (fun _ h9 => h9) dX0_takeOrders_51 ?_
            refine gw_getrN (C := RX1) (T := TX1) (N := 12) hx hb hts inwX1 hown hK hP 8 6 15 rfl rfl rfl (by decide) (hE.nest _ (.fieldLinkNest RX0 79 RX1 "most" "[I" RX2) (by decide +kernel) rfl) (fun _ h9 => h9) dX0_takeOrders_54 ?_
            refine lv_iload_n hx hb dX0_takeOrders_57 rfl (lv_at hl 1 rfl) ?_
            refine gw_ald hx hb hK hP 15 0 (n := 4) rfl rfl (i := i) (by omega) (by decide) dX0_takeOrders_58 ?_
            refine gw_top (y := (nI 0)) (hk.1 15 (by decide) (by decide) (by decide) _) ?_
            refine lv_goto (tgt := 63) hx hb dX0_takeOrders_59 (by decide) ?_
            refine gw_ast hx hb hK hP hD hS 5 0 (n := 4) rfl rfl (i := i) (by omega) (by decide) dX0_takeOrders_63 (fun H locs hP hD hS => ?_)
            obtain ⟨sg12, esg12⟩ : ∃ z : Nat → Nat → Int32, z = gw_u sg10 5 (upd (sg10 5) i (nI 0)) := ⟨_, rfl⟩
            rw [← esg12] at hP hD
            have hk : ZSS sg12 := by rw [esg12]; exact hk.wa 5 (by decide) (by decide) _
            refine lv_aload_n hx hb dX0_takeOrders_64 rfl (lv_at hl 2 rfl) ?_
            refine gw_getr (C := RX0) (T := TX0) (N := 15) hx hb hts inwX0 hown hK hP 0 8 6 rfl rfl rfl (by decide) (hts _ a29) (fun _ h9 => h9) dX0_takeOrders_65 ?_
            refine lv_iload_n hx hb dX0_takeOrders_68 rfl (lv_at hl 1 rfl) ?_
            refine lv_iload_n hx hb dX0_takeOrders_69 rfl (lv_at hl 0 rfl) ?_
            refine lv_if_eq (tgt := 85) hx hb dX0_takeOrders_70 (by decide) (fun hc13 => ?_) (fun hc13 => ?_)
            · exact absurd hc13 (by decide)
            · refine lv_aload_n hx hb dX0_takeOrders_73 rfl (lv_at hl 2 rfl) ?_
              refine gw_getr (C := RX0) (T := TX0) (N := 15) hx hb hts inwX0 hown hK hP 0 0 8 rfl rfl rfl (by decide) (hts _ a21) (fun _ h9 => h9) dX0_takeOrders_74 ?_
              refine gw_getrN (C := RX1) (T := TX1) (N := 12) hx hb hts inwX1 hown hK hP 8 7 16 rfl rfl rfl (by decide) (hE.nest _ (.fieldLinkNest RX0 80 RX1 "worth" "[I" RX2) (by decide +kernel) rfl) (fun _ h9 => h9) dX0_takeOrders_77 ?_
              refine lv_iload_n hx hb dX0_takeOrders_80 rfl (lv_at hl 1 rfl) ?_
              refine gw_ald hx hb hK hP 16 0 (n := 4) rfl rfl (i := i) (by omega) (by decide) dX0_takeOrders_81 ?_
              refine gw_top (y := (nI 0)) (hk.1 16 (by decide) (by decide) (by decide) _) ?_
              refine lv_goto (tgt := 86) hx hb dX0_takeOrders_82 (by decide) ?_
              refine gw_ast hx hb hK hP hD hS 6 0 (n := 4) rfl rfl (i := i) (by omega) (by decide) dX0_takeOrders_86 (fun H locs hP hD hS => ?_)
              obtain ⟨sg14, esg14⟩ : ∃ z : Nat → Nat → Int32, z = gw_u sg12 6 (upd (sg12 6) i (nI 0)) := ⟨_, rfl⟩
              rw [← esg14] at hP hD
              have hk : ZSS sg14 := by rw [esg14]; exact hk.wa 6 (by decide) (by decide) _
              refine lv_iinc (k := 1) (v := (nI (i + 1))) (lv' := [(2, .int (nI (i + 1))), (3, .int (nI 1)), (0, .ref (ad 0)), (1, .int x1)]) hx hb dX0_takeOrders_87 hl rfl (nI_1 _) (by decide) rfl (fun ls hl => ?_)
              refine lv_goto (tgt := 2) hx hb dX0_takeOrders_90 (by decide) ?_
              exact ih _ (by omega) (i + 1) _ _ _ _ rfl (by omega) hk hP hD hS (lv_sub hl [0, 2, 3] rfl)
  refine lv_iconst (v := (nI 0)) hx hb dX0_takeOrders_0 (by decide) ?_
  refine lv_istore_n (lv' := [(2, .int (nI 0)), (0, .ref (ad 0)), (1, .int x1)]) hx hb dX0_takeOrders_1 rfl hl (by decide) rfl (fun ls hl => ?_)
  exact c2 _ 0 _ _ _ _ rfl (by omega) hk hP hD hS (lv_sub hl [0, 1, 2] rfl)
abbrev rmX0_fillsOrders : Room := { frames := 0, cells := 0, slots := 0, locals := 0 }
set_option maxRecDepth 100000 in
set_option maxHeartbeats 4000000 in
theorem m_X0_fillsOrders (l : Launch) (hl9 : l.stackTraces = false) (D : va_G) (cI : ClassId) (cJ : ClassId × ClassId) (ad : Nat → Nat) (sg0 : Nat → Nat → Int32) (sz : Nat) (hk : ZSS sg0) : gc_M l yX0_fillsOrders wsX0_fillsOrders rmX0_fillsOrders D vwCl (tyS cI cJ) cI cJ gxT gxN SS [.ref (ad 0)] ad sg0 sz 0 0 (fun v sg2 => v = some (.int (nI 1)) ∧ sg2 = sg0) := by
  refine gc_Mz_of (cc := cX0_fillsOrders) (maxL := 2) (by decide) rfl (Nat.le_of_ble_eq_true rfl) ?_
  intro p e s m below meth c A ls Q hin hE hret
  obtain ⟨⟨hx, hb, hml, hown, hts⟩, -, hlocks, -, hA, hP, hK, hD, hS, hl⟩ := hin
  have hts : ∀ w ∈ wsAll, w.before ([.ref (ad 0)] : List Value).toArray s = true := fun w h => hts w (List.mem_cons_of_mem _ h)
  have hl : lv_has ls 2 [(0, .ref (ad 0))] := hl
  have c2 : ∀ (n9 : Nat) (i : Nat) (sg : Nat → Nat → Int32) (H : Heap) (locs : List Loc) (ls : Array Slot), 4 - i = n9 → i ≤ 4 → ZSS sg ∧ sg = sg0 → va_P D vwCl (gw cI cJ ad sg SS) H → va_D A (gw cI cJ ad sg SS) → va_S A s.heap H locs → lv_has ls 2 [(1, .int (nI i)), (0, .ref (ad 0))] → W p l e rmX0_fillsOrders s m ([.ref (ad 0)] : List Value).toArray below meth c H locs 0 0 Q (F0 m 2 ls []) := by
    intro n9
    induction n9 using Nat.strongRecOn with
    | ind n9 ih =>
    intro i sg H locs ls hn h1 hk hP hD hS hl
    subst hn
    refine lv_iload_n hx hb dX0_fillsOrders_2 rfl (lv_at hl 0 rfl) ?_
    refine lv_iconst (v := (nI 4)) hx hb dX0_fillsOrders_3 (by decide) ?_
    refine lv_icmp_ge (tgt := 30) hx hb dX0_fillsOrders_4 (by decide) (fun hc1 => ?_) (fun hc1 => ?_)
    · have hc1 : 4 ≤ i := (nI_leI (a := 4) (b := i) (by omega) (by omega)).mp hc1
      refine lv_iconst (v := (nI 1)) hx hb dX0_fillsOrders_30 (by decide) ?_
      exact hret _ _ _ _ _ _ hP hS dX0_fillsOrders_31 rfl (⟨rfl, hk.2⟩)
    · have hc1 : ¬ (4 ≤ i) := fun q => hc1 ((nI_leI (a := 4) (b := i) (by omega) (by omega)).mpr q)
      refine lv_aload_n hx hb dX0_fillsOrders_7 rfl (lv_at hl 1 rfl) ?_
      refine gw_getr (C := RX0) (T := TX0) (N := 15) hx hb hts inwX0 hown hK hP 0 3 3 rfl rfl rfl (by decide) (hts _ a24) (fun _ h9 => h9) dX0_fillsOrders_8 ?_
      refine lv_iload_n hx hb dX0_fillsOrders_11 rfl (lv_at hl 0 rfl) ?_
      refine gw_ald hx hb hK hP 3 0 (n := 4) rfl rfl (i := i) (by omega) (by decide) dX0_fillsOrders_12 ?_
      refine gw_top (y := (nI 0)) (hk.1.1 3 (by decide) (by decide) (by decide) _) ?_
      refine lv_aload_n hx hb dX0_fillsOrders_13 rfl (lv_at hl 1 rfl) ?_
      refine gw_getr (C := RX0) (T := TX0) (N := 15) hx hb hts inwX0 hown hK hP 0 6 4 rfl rfl rfl (by decide) (hts _ a27) (fun _ h9 => h9) dX0_fillsOrders_14 ?_
      refine lv_iload_n hx hb dX0_fillsOrders_17 rfl (lv_at hl 0 rfl) ?_
      refine gw_ald hx hb hK hP 4 0 (n := 4) rfl rfl (i := i) (by omega) (by decide) dX0_fillsOrders_18 ?_
      refine gw_top (y := (nI 0)) (hk.1.1 4 (by decide) (by decide) (by decide) _) ?_
      refine lv_icmp_ge (tgt := 24) hx hb dX0_fillsOrders_19 (by decide) (fun hc2 => ?_) (fun hc2 => ?_)
      · refine lv_iinc (k := 0) (v := (nI (i + 1))) (lv' := [(1, .int (nI (i + 1))), (0, .ref (ad 0))]) hx hb dX0_fillsOrders_24 hl rfl (nI_1 _) (by decide) rfl (fun ls hl => ?_)
        refine lv_goto (tgt := 2) hx hb dX0_fillsOrders_27 (by decide) ?_
        exact ih _ (by omega) (i + 1) _ _ _ _ rfl (by omega) hk hP hD hS (lv_sub hl [0, 1] rfl)
      · exact absurd hc2 (by decide)
  refine lv_iconst (v := (nI 0)) hx hb dX0_fillsOrders_0 (by decide) ?_
  refine lv_istore_n (lv' := [(1, .int (nI 0)), (0, .ref (ad 0))]) hx hb dX0_fillsOrders_1 rfl hl (by decide) rfl (fun ls hl => ?_)
  exact c2 _ 0 _ _ _ _ rfl (by omega) (⟨hk, rfl⟩) hP hD hS (lv_sub hl [0, 1] rfl)
abbrev rmX0_gainOfPlan : Room := { frames := 1, cells := 0, slots := 0, locals := 21 }
set_option maxRecDepth 100000 in
set_option maxHeartbeats 4000000 in
theorem m_X0_gainOfPlan (l : Launch) (hl9 : l.stackTraces = false) (D : va_G) (cI : ClassId) (cJ : ClassId × ClassId) (ad : Nat → Nat) (sg0 : Nat → Nat → Int32) (sz : Nat) (hk : ZSS sg0) : gc_M l yX0_gainOfPlan wsX0_gainOfPlan rmX0_gainOfPlan D vwCl (tyS cI cJ) cI cJ gxT gxN SS [.ref (ad 0)] ad sg0 sz 0 0 (fun v sg2 => v = some (.int (nI 0)) ∧ sg2 = sg0) := by
  refine gc_Mi_of (cc := cX0_gainOfPlan) (maxL := 3) (by decide) rfl (Nat.le_of_ble_eq_true rfl) ?_
  intro p e s m below meth c A ls Q hin hE hret
  obtain ⟨⟨hx, hb, hml, hown, hts⟩, -, hlocks, -, hA, hP, hK, hD, hS, hl⟩ := hin
  have hts : ∀ w ∈ wsAll, w.before ([.ref (ad 0)] : List Value).toArray s = true := fun w h => hts w (List.mem_cons_of_mem _ h)
  have hl : lv_has ls 3 [(0, .ref (ad 0))] := hl
  have c8 : ∀ (n9 : Nat) (i : Nat) (sg : Nat → Nat → Int32) (H : Heap) (locs : List Loc) (ls : Array Slot), 4 - i = n9 → i ≤ 4 → ZSS sg ∧ sg = sg0 → va_P D vwCl (gw cI cJ ad sg SS) H → va_D A (gw cI cJ ad sg SS) → va_S A s.heap H locs → lv_has ls 3 [(2, .int (nI i)), (1, .int (nI 0)), (0, .ref (ad 0))] → W p l e rmX0_gainOfPlan s m ([.ref (ad 0)] : List Value).toArray below meth c H locs 0 0 Q (F0 m 8 ls []) := by
    intro n9
    induction n9 using Nat.strongRecOn with
    | ind n9 ih =>
    intro i sg H locs ls hn h1 hk hP hD hS hl
    subst hn
    refine lv_iload_n hx hb dX0_gainOfPlan_8 rfl (lv_at hl 0 rfl) ?_
    refine lv_iconst (v := (nI 4)) hx hb dX0_gainOfPlan_9 (by decide) ?_
    refine lv_icmp_ge (tgt := 44) hx hb dX0_gainOfPlan_10 (by decide) (fun hc1 => ?_) (fun hc1 => ?_)
    · have hc1 : 4 ≤ i := (nI_leI (a := 4) (b := i) (by omega) (by omega)).mp hc1
      refine lv_iload_n hx hb dX0_gainOfPlan_44 rfl (lv_at hl 1 rfl) ?_
      exact hret _ _ _ _ _ _ hP hS dX0_gainOfPlan_45 (⟨rfl, hk.2⟩)
    · have hc1 : ¬ (4 ≤ i) := fun q => hc1 ((nI_leI (a := 4) (b := i) (by omega) (by omega)).mpr q)
      refine lv_iload_n hx hb dX0_gainOfPlan_13 rfl (lv_at hl 1 rfl) ?_
      refine lv_aload_n hx hb dX0_gainOfPlan_14 rfl (lv_at hl 2 rfl) ?_
      refine gw_getr (C := RX0) (T := TX0) (N := 15) hx hb hts inwX0 hown hK hP 0 8 6 rfl rfl rfl (by decide) (hts _ a29) (fun _ h9 => h9) dX0_gainOfPlan_15 ?_
      refine lv_iload_n hx hb dX0_gainOfPlan_18 rfl (lv_at hl 0 rfl) ?_
      refine gw_ald hx hb hK hP 6 0 (n := 4) rfl rfl (i := i) (by omega) (by decide) dX0_gainOfPlan_19 ?_
      refine gw_top (y := (nI 0)) (hk.1.1 6 (by decide) (by decide) (by decide) _) ?_
      refine lv_aload_n hx hb dX0_gainOfPlan_20 rfl (lv_at hl 2 rfl) ?_
      refine gw_getr (C := RX0) (T := TX0) (N := 15) hx hb hts inwX0 hown hK hP 0 3 3 rfl rfl rfl (by decide) (hts _ a24) (fun _ h9 => h9) dX0_gainOfPlan_21 ?_
      refine lv_iload_n hx hb dX0_gainOfPlan_24 rfl (lv_at hl 0 rfl) ?_
      refine gw_ald hx hb hK hP 3 0 (n := 4) rfl rfl (i := i) (by omega) (by decide) dX0_gainOfPlan_25 ?_
      refine gw_top (y := (nI 0)) (hk.1.1 3 (by decide) (by decide) (by decide) _) ?_
      refine lv_aload_n hx hb dX0_gainOfPlan_26 rfl (lv_at hl 2 rfl) ?_
      refine gw_getr (C := RX0) (T := TX0) (N := 15) hx hb hts inwX0 hown hK hP 0 7 5 rfl rfl rfl (by decide) (hts _ a28) (fun _ h9 => h9) dX0_gainOfPlan_27 ?_
      refine lv_iload_n hx hb dX0_gainOfPlan_30 rfl (lv_at hl 0 rfl) ?_
      refine gw_ald hx hb hK hP 5 0 (n := 4) rfl rfl (i := i) (by omega) (by decide) dX0_gainOfPlan_31 ?_
      refine gw_top (y := (nI 0)) (hk.1.1 5 (by decide) (by decide) (by decide) _) ?_
      refine va_mmin hx hb (hml.trans hl.1.symm) hown (hts _ a30) (hts _ a31) (hts _ a32) (hts _ a33) (by decide) (by decide) (by decide) (by decide) dX0_gainOfPlan_32 ?_
      refine gw_top (y := nI 0) (by decide) ?_
      refine lv_imul hx hb dX0_gainOfPlan_35 ?_
      refine gw_top (y := (nI 0)) (by decide) ?_
      refine lv_iadd hx hb dX0_gainOfPlan_36 ?_
      refine gw_top (y := (nI 0)) (by decide) ?_
      refine lv_istore_n (lv' := [(1, .int (nI 0)), (2, .int (nI i)), (0, .ref (ad 0))]) hx hb dX0_gainOfPlan_37 rfl hl (by decide) rfl (fun ls hl => ?_)
      refine lv_iinc (k := 1) (v := (nI (i + 1))) (lv' := [(2, .int (nI (i + 1))), (1, .int (nI 0)), (0, .ref (ad 0))]) hx hb dX0_gainOfPlan_38 hl rfl (nI_1 _) (by decide) rfl (fun ls hl => ?_)
      refine lv_goto (tgt := 8) hx hb dX0_gainOfPlan_41 (by decide) ?_
      exact ih _ (by omega) (i + 1) _ _ _ _ rfl (by omega) hk hP hD hS (lv_sub hl [0, 1, 2] rfl)
  refine lv_aload_n hx hb dX0_gainOfPlan_0 rfl (lv_at hl 0 rfl) ?_
  refine gw_geti (C := RX0) (T := TX0) (N := 15) hx hb hts inwX0 hown hK hP 0 5 rfl rfl rfl (by decide) (hts _ a23) (fun _ h9 => h9) dX0_gainOfPlan_1 ?_
  refine gw_top (y := (nI 0)) (hk.2.2) ?_
  refine lv_ineg hx hb dX0_gainOfPlan_4 ?_
  refine gw_top (y := (nI 0)) (by decide) ?_
  refine lv_istore_n (lv' := [(1, .int (nI 0)), (0, .ref (ad 0))]) hx hb dX0_gainOfPlan_5 rfl hl (by decide) rfl (fun ls hl => ?_)
  refine lv_iconst (v := (nI 0)) hx hb dX0_gainOfPlan_6 (by decide) ?_
  refine lv_istore_n (lv' := [(2, .int (nI 0)), (1, .int (nI 0)), (0, .ref (ad 0))]) hx hb dX0_gainOfPlan_7 rfl hl (by decide) rfl (fun ls hl => ?_)
  exact c8 _ 0 _ _ _ _ rfl (by omega) (⟨hk, rfl⟩) hP hD hS (lv_sub hl [0, 1, 2] rfl)
abbrev rmX0_lookAtPlan : Room := { frames := 2, cells := 0, slots := 0, locals := 43 }
set_option maxRecDepth 100000 in
set_option maxHeartbeats 4000000 in
theorem m_X0_lookAtPlan (l : Launch) (hl9 : l.stackTraces = false) (D : va_G) (cI : ClassId) (cJ : ClassId × ClassId) (ad : Nat → Nat) (sg0 : Nat → Nat → Int32) (sz : Nat) (hk : ZSS sg0) (hf0 : sg0 0 12 = nI 0) : gc_M l yX0_lookAtPlan wsX0_lookAtPlan rmX0_lookAtPlan D vwCl (tyS cI cJ) cI cJ gxT gxN SS [.ref (ad 0)] ad sg0 sz 0 0 (fun v sg2 => v = none ∧ ZSS sg2 ∧ sg2 0 12 = nI 1 ∧ sg2 0 13 = nI 0 ∧ sg2 0 11 = sg0 0 11) := by
  refine gc_Mv_of (cc := cX0_lookAtPlan) (maxL := 2) (by decide) rfl (Nat.le_of_ble_eq_true rfl) ?_
  intro p e s m below meth c A ls Q hin hE hret
  obtain ⟨⟨hx, hb, hml, hown, hts⟩, -, hlocks, -, hA, hP, hK, hD, hS, hl⟩ := hin
  have hts : ∀ w ∈ wsAll, w.before ([.ref (ad 0)] : List Value).toArray s = true := fun w h => hts w (List.mem_cons_of_mem _ h)
  have hl : lv_has ls 2 [(0, .ref (ad 0))] := hl
  refine lv_aload_n hx hb dX0_lookAtPlan_0 rfl (lv_at hl 0 rfl) ?_
  refine gc_go0 (va_runV (As := []) (rest := []) ⟨hx, hb, hml, hown, hts⟩ (m_X0_fillsOrders l hl9 D cI cJ ad sg0 _  hk) (cwV 0 hts (gwV a34 a35 a36 a37 a38) rfl rfl rfl (by decide +kernel) ⟨by decide, by decide⟩) (gc_preV0 hK hP hD hS hA hE rfl rfl rfl) rfl rfl hl.1 rfl (lv_room (Nat.le_of_ble_eq_true rfl)) dX0_lookAtPlan_1 ⟨by decide, by decide⟩) hD hS hA (fun v1 sg3 H locs hp4 hP hD hS => ?_)
  obtain ⟨rfl, hs9⟩ := hp4
  rw [hs9] at hP hD
  refine W.eq (g2 := F0 m 4 ls [.int (nI 1)]) rfl ?_
  refine lv_if_ne (tgt := 8) hx hb dX0_lookAtPlan_4 (by decide) (fun hc7 => ?_) (fun hc7 => ?_)
  · refine lv_aload_n hx hb dX0_lookAtPlan_8 rfl (lv_at hl 0 rfl) ?_
    refine gc_go0 (va_runV (As := []) (rest := []) ⟨hx, hb, hml, hown, hts⟩ (m_X0_gainOfPlan l hl9 D cI cJ ad sg0 _  hk) (cwV 0 hts (gwV a39 a40 a41 a37 a42) rfl rfl rfl (by decide +kernel) ⟨by decide, by decide⟩) (gc_preV0 hK hP hD hS hA hE rfl rfl rfl) rfl rfl hl.1 rfl (lv_room (Nat.le_of_ble_eq_true rfl)) dX0_lookAtPlan_9 ⟨by decide, by decide⟩) hD hS hA (fun v8 sg10 H locs hp11 hP hD hS => ?_)
    obtain ⟨rfl, hs9⟩ := hp11
    rw [hs9] at hP hD
    refine W.eq (g2 := F0 m 12 ls [.int (nI 0)]) rfl ?_
    refine lv_istore_n (lv' := [(1, .int (nI 0)), (0, .ref (ad 0))]) hx hb dX0_lookAtPlan_12 rfl hl (by decide) rfl (fun ls hl => ?_)
    refine lv_aload_n hx hb dX0_lookAtPlan_13 rfl (lv_at hl 1 rfl) ?_
    refine gw_geti (C := RX0) (T := TX0) (N := 15) hx hb hts inwX0 hown hK hP 0 12 rfl rfl rfl (by decide) (hts _ a43) (fun _ h9 => h9) dX0_lookAtPlan_14 ?_
    refine gw_top (y := (nI 0)) (hf0) ?_
    refine lv_if_eq (tgt := 28) hx hb dX0_lookAtPlan_17 (by decide) (fun hc14 => ?_) (fun hc14 => ?_)
    · refine lv_aload_n hx hb dX0_lookAtPlan_28 rfl (lv_at hl 1 rfl) ?_
      refine lv_iconst (v := (nI 1)) hx hb dX0_lookAtPlan_29 (by decide) ?_
      refine gw_put (C := RX0) (T := TX0) (N := 15) (ty := .boolean) hx hb hts inwX0 tyX0 tyX0_ok nmX0 hown hK hP hD hS 0 12 rfl rfl rfl (by decide) (hts _ a43) (fun _ h9 => h9) rfl (by decide +kernel) rfl rfl dX0_lookAtPlan_30 (fun H locs hP hD hS => ?_)
      obtain ⟨sg15, esg15⟩ : ∃ z : Nat → Nat → Int32, z = gw_u sg0 0 (upd (sg0 0) 12 (nI 1)) := ⟨_, rfl⟩
      rw [← esg15] at hP hD
      have hk : ZSS sg15 := by rw [esg15]; exact hk.wf (by decide) _
      refine lv_aload_n hx hb dX0_lookAtPlan_33 rfl (lv_at hl 1 rfl) ?_
      refine lv_iload_n hx hb dX0_lookAtPlan_34 rfl (lv_at hl 0 rfl) ?_
      refine gw_put (C := RX0) (T := TX0) (N := 15) (ty := .int) hx hb hts inwX0 tyX0 tyX0_ok nmX0 hown hK hP hD hS 0 13 rfl rfl rfl (by decide) (hts _ a44) (fun _ h9 => h9) rfl (by decide +kernel) rfl rfl dX0_lookAtPlan_35 (fun H locs hP hD hS => ?_)
      obtain ⟨sg16, esg16⟩ : ∃ z : Nat → Nat → Int32, z = gw_u sg15 0 (upd (sg15 0) 13 (nI 0)) := ⟨_, rfl⟩
      rw [← esg16] at hP hD
      have hk : ZSS sg16 := by rw [esg16]; exact hk.wf (by decide) _
      refine lv_aload_n hx hb dX0_lookAtPlan_38 rfl (lv_at hl 1 rfl) ?_
      refine gw_getr (C := RX0) (T := TX0) (N := 15) hx hb hts inwX0 hown hK hP 0 1 1 rfl rfl rfl (by decide) (hts _ a26) (fun _ h9 => h9) dX0_lookAtPlan_39 ?_
      refine lv_iconst (v := (nI 0)) hx hb dX0_lookAtPlan_42 (by decide) ?_
      refine lv_aload_n hx hb dX0_lookAtPlan_43 rfl (lv_at hl 1 rfl) ?_
      refine gw_getr (C := RX0) (T := TX0) (N := 15) hx hb hts inwX0 hown hK hP 0 14 7 rfl rfl rfl (by decide) (hts _ a45) (fun _ h9 => h9) dX0_lookAtPlan_44 ?_
      refine lv_iconst (v := (nI 0)) hx hb dX0_lookAtPlan_47 (by decide) ?_
      refine lv_bipush (v := (nI 6)) hx hb dX0_lookAtPlan_48 (by decide) ?_
      refine gw_cpy hx hb (hml.trans hl.1.symm) hown (hts _ a46) (hts _ a47) (hts _ a48) (hts _ a49) hK hP hD hS 1 7 0 rfl rfl rfl (by decide) (by decide) (by decide) (by decide) (by decide) dX0_lookAtPlan_50 (fun H locs hP hD hS => ?_)
      obtain ⟨sg17, esg17⟩ : ∃ z : Nat → Nat → Int32, z = gw_u sg16 7 (va_cpy (sg16 1) (sg16 7) 0 0 6) := ⟨_, rfl⟩
      rw [← esg17] at hP hD
      have hk : ZSS sg17 := by rw [esg17]; exact hk.wcp 1 7 _ (by decide) (by decide) (by decide) (by decide) (by decide) (by decide)
      exact hret _ _ _ _ _ hP hS dX0_lookAtPlan_53 (⟨rfl, hk, by simp [esg17, esg16, esg15, gw_u, upd], by simp [esg17, esg16, esg15, gw_u, upd], by simp [esg17, esg16, esg15, gw_u, upd]⟩)
    · exact absurd hc14 (by decide)
  · exact absurd hc7 (by decide)
abbrev rmX0_tellPatternsFrom : Room := { frames := 3, cells := 0, slots := 0, locals := 64 }
set_option maxRecDepth 100000 in
set_option maxHeartbeats 4000000 in
theorem m_X0_tellPatternsFrom (l : Launch) (hl9 : l.stackTraces = false) (D : va_G) (cI : ClassId) (cJ : ClassId × ClassId) (ad : Nat → Nat) (sg0 : Nat → Nat → Int32) (sz : Nat) (hk : ZSS sg0) (hf0 : sg0 0 12 = nI 0) : gc_M l yX0_tellPatternsFrom wsX0_tellPatternsFrom rmX0_tellPatternsFrom D vwCl (tyS cI cJ) cI cJ gxT gxN SS [.ref (ad 0), .int (nI 0)] ad sg0 sz 0 0 (fun v sg2 => v = none ∧ ZSS sg2 ∧ sg2 0 12 = nI 1 ∧ sg2 0 13 = nI 0 ∧ sg2 0 11 = sg0 0 11) := by
  refine gc_Mv_of (cc := cX0_tellPatternsFrom) (maxL := 3) (by decide) rfl (Nat.le_of_ble_eq_true rfl) ?_
  intro p e s m below meth c A ls Q hin hE hret
  obtain ⟨⟨hx, hb, hml, hown, hts⟩, -, hlocks, -, hA, hP, hK, hD, hS, hl⟩ := hin
  have hts : ∀ w ∈ wsAll, w.before ([.ref (ad 0), .int (nI 0)] : List Value).toArray s = true := fun w h => hts w (List.mem_cons_of_mem _ h)
  have hl : lv_has ls 3 [(0, .ref (ad 0)), (1, .int (nI 0))] := hl
  refine lv_iload_n hx hb dX0_tellPatternsFrom_0 rfl (lv_at hl 1 rfl) ?_
  refine lv_aload_n hx hb dX0_tellPatternsFrom_1 rfl (lv_at hl 0 rfl) ?_
  refine gw_getr (C := RX0) (T := TX0) (N := 15) hx hb hts inwX0 hown hK hP 0 0 8 rfl rfl rfl (by decide) (hts _ a21) (fun _ h9 => h9) dX0_tellPatternsFrom_2 ?_
  refine gw_getiN (C := RX1) (T := TX1) (N := 12) hx hb hts inwX1 hown hK hP 8 9 rfl rfl rfl (by decide) (hE.nest _ (.fieldLinkNest RX0 81 RX1 "patterns" "I" RX2) (by decide +kernel) rfl) (fun _ h9 => h9) dX0_tellPatternsFrom_5 ?_
  refine gw_top (y := (nI 0)) (hk.2.1) ?_
  refine lv_icmp_ge (tgt := 17) hx hb dX0_tellPatternsFrom_8 (by decide) (fun hc1 => ?_) (fun hc1 => ?_)
  · refine lv_aload_n hx hb dX0_tellPatternsFrom_17 rfl (lv_at hl 0 rfl) ?_
    refine gc_go0 (va_runV (As := []) (rest := []) ⟨hx, hb, hml, hown, hts⟩ (m_X0_lookAtPlan l hl9 D cI cJ ad sg0 _  hk hf0) (cwV 0 hts (gwV a50 a51 a52 a37 a53) rfl rfl rfl (by decide +kernel) ⟨by decide, by decide⟩) (gc_preV0 hK hP hD hS hA hE rfl rfl rfl) rfl rfl hl.1 rfl (lv_room (Nat.le_of_ble_eq_true rfl)) dX0_tellPatternsFrom_18 ⟨by decide, by decide⟩) hD hS hA (fun v2 sg4 H locs hp5 hP hD hS => ?_)
    obtain ⟨rfl, hq9⟩ := hp5
    refine W.eq (g2 := F0 m 21 ls []) rfl ?_
    exact hret _ _ _ _ _ hP hS dX0_tellPatternsFrom_21 (⟨rfl, hq9⟩)
  · exact absurd hc1 (by decide)
abbrev rmX0_goThroughPlans : Room := { frames := 4, cells := 0, slots := 0, locals := 86 }
set_option maxRecDepth 100000 in
set_option maxHeartbeats 4000000 in
theorem m_X0_goThroughPlans (l : Launch) (hl9 : l.stackTraces = false) (D : va_G) (cI : ClassId) (cJ : ClassId × ClassId) (ad : Nat → Nat) (sg0 : Nat → Nat → Int32) (sz : Nat) (x1 : Int32) (x2 : Int32) (hk : ZSS sg0) : gc_M l yX0_goThroughPlans wsX0_goThroughPlans rmX0_goThroughPlans D vwCl (tyS cI cJ) cI cJ gxT gxN SS [.ref (ad 0), .int x1, .int x2] ad sg0 sz 0 0 (fun v sg2 => v = none ∧ ZSS sg2 ∧ sg2 0 12 = nI 1 ∧ sg2 0 13 = nI 0 ∧ sg2 0 11 = nI 0) := by
  refine gc_Mv_of (cc := cX0_goThroughPlans) (maxL := 3) (by decide) rfl (Nat.le_of_ble_eq_true rfl) ?_
  intro p e s m below meth c A ls Q hin hE hret
  obtain ⟨⟨hx, hb, hml, hown, hts⟩, -, hlocks, -, hA, hP, hK, hD, hS, hl⟩ := hin
  have hts : ∀ w ∈ wsAll, w.before ([.ref (ad 0), .int x1, .int x2] : List Value).toArray s = true := fun w h => hts w (List.mem_cons_of_mem _ h)
  have hl : lv_has ls 3 [(0, .ref (ad 0)), (1, .int x1), (2, .int x2)] := hl
  refine lv_aload_n hx hb dX0_goThroughPlans_0 rfl (lv_at hl 0 rfl) ?_
  refine gc_go0 (va_runV (As := []) (rest := []) ⟨hx, hb, hml, hown, hts⟩ (m_X0_startWithEmptyPlan l hl9 D cI cJ ad sg0 _  hk) (cwV 0 hts (gwV a54 a55 a56 a37 a57) rfl rfl rfl (by decide +kernel) ⟨by decide, by decide⟩) (gc_preV0 hK hP hD hS hA hE rfl rfl rfl) rfl rfl hl.1 rfl (lv_room (Nat.le_of_ble_eq_true rfl)) dX0_goThroughPlans_1 ⟨by decide, by decide⟩) hD hS hA (fun v1 sg3 H locs hp4 hP hD hS => ?_)
  obtain ⟨rfl, hk⟩ := hp4
  refine W.eq (g2 := F0 m 4 ls []) rfl ?_
  refine lv_aload_n hx hb dX0_goThroughPlans_4 rfl (lv_at hl 0 rfl) ?_
  refine lv_iload_n hx hb dX0_goThroughPlans_5 rfl (lv_at hl 2 rfl) ?_
  refine gc_go0 (va_runV (As := [.int x2]) (rest := []) ⟨hx, hb, hml, hown, hts⟩ (m_X0_takeOrders l hl9 D cI cJ ad sg3 _ x2 hk) (cwV 1 hts (gwV a58 a59 a60 a37 a61) rfl rfl rfl (by decide +kernel) ⟨by decide, by decide⟩) (gc_preV0 hK hP hD hS hA hE rfl rfl rfl) rfl rfl hl.1 rfl (lv_room (Nat.le_of_ble_eq_true rfl)) dX0_goThroughPlans_6 ⟨by decide, by decide⟩) hD hS hA (fun v7 sg9 H locs hp10 hP hD hS => ?_)
  obtain ⟨rfl, hk⟩ := hp10
  refine W.eq (g2 := F0 m 9 ls []) rfl ?_
  refine lv_aload_n hx hb dX0_goThroughPlans_9 rfl (lv_at hl 0 rfl) ?_
  refine lv_iload_n hx hb dX0_goThroughPlans_10 rfl (lv_at hl 1 rfl) ?_
  refine gw_put (C := RX0) (T := TX0) (N := 15) (ty := .int) hx hb hts inwX0 tyX0 tyX0_ok nmX0 hown hK hP hD hS 0 9 rfl rfl rfl (by decide) (hts _ a62) (fun _ h9 => h9) rfl (by decide +kernel) rfl rfl dX0_goThroughPlans_11 (fun H locs hP hD hS => ?_)
  obtain ⟨sg13, esg13⟩ : ∃ z : Nat → Nat → Int32, z = gw_u sg9 0 (upd (sg9 0) 9 x1) := ⟨_, rfl⟩
  rw [← esg13] at hP hD
  have hk : ZSS sg13 := by rw [esg13]; exact hk.wf (by decide) _
  refine lv_aload_n hx hb dX0_goThroughPlans_14 rfl (lv_at hl 0 rfl) ?_
  refine lv_iconst (v := (nI 0)) hx hb dX0_goThroughPlans_15 (by decide) ?_
  refine gw_put (C := RX0) (T := TX0) (N := 15) (ty := .int) hx hb hts inwX0 tyX0 tyX0_ok nmX0 hown hK hP hD hS 0 10 rfl rfl rfl (by decide) (hts _ a63) (fun _ h9 => h9) rfl (by decide +kernel) rfl rfl dX0_goThroughPlans_16 (fun H locs hP hD hS => ?_)
  obtain ⟨sg14, esg14⟩ : ∃ z : Nat → Nat → Int32, z = gw_u sg13 0 (upd (sg13 0) 10 (nI 0)) := ⟨_, rfl⟩
  rw [← esg14] at hP hD
  have hk : ZSS sg14 := by rw [esg14]; exact hk.wf (by decide) _
  refine lv_aload_n hx hb dX0_goThroughPlans_19 rfl (lv_at hl 0 rfl) ?_
  refine lv_iconst (v := (nI 0)) hx hb dX0_goThroughPlans_20 (by decide) ?_
  refine gw_put (C := RX0) (T := TX0) (N := 15) (ty := .boolean) hx hb hts inwX0 tyX0 tyX0_ok nmX0 hown hK hP hD hS 0 11 rfl rfl rfl (by decide) (hts _ a64) (fun _ h9 => h9) rfl (by decide +kernel) rfl rfl dX0_goThroughPlans_21 (fun H locs hP hD hS => ?_)
  obtain ⟨sg15, esg15⟩ : ∃ z : Nat → Nat → Int32, z = gw_u sg14 0 (upd (sg14 0) 11 (nI 0)) := ⟨_, rfl⟩
  rw [← esg15] at hP hD
  have hk : ZSS sg15 := by rw [esg15]; exact hk.wf (by decide) _
  refine lv_aload_n hx hb dX0_goThroughPlans_24 rfl (lv_at hl 0 rfl) ?_
  refine lv_iconst (v := (nI 0)) hx hb dX0_goThroughPlans_25 (by decide) ?_
  refine gw_put (C := RX0) (T := TX0) (N := 15) (ty := .boolean) hx hb hts inwX0 tyX0 tyX0_ok nmX0 hown hK hP hD hS 0 12 rfl rfl rfl (by decide) (hts _ a43) (fun _ h9 => h9) rfl (by decide +kernel) rfl rfl dX0_goThroughPlans_26 (fun H locs hP hD hS => ?_)
  obtain ⟨sg16, esg16⟩ : ∃ z : Nat → Nat → Int32, z = gw_u sg15 0 (upd (sg15 0) 12 (nI 0)) := ⟨_, rfl⟩
  rw [← esg16] at hP hD
  have hk : ZSS sg16 := by rw [esg16]; exact hk.wf (by decide) _
  refine lv_aload_n hx hb dX0_goThroughPlans_29 rfl (lv_at hl 0 rfl) ?_
  refine lv_iconst (v := (nI 0)) hx hb dX0_goThroughPlans_30 (by decide) ?_
  refine gc_go0 (va_runV (As := [.int (nI 0)]) (rest := []) ⟨hx, hb, hml, hown, hts⟩ (m_X0_tellPatternsFrom l hl9 D cI cJ ad sg16 _  hk (by simp [esg16, esg15, esg14, esg13, gw_u, upd])) (cwV 1 hts (gwV a65 a66 a67 a37 a68) rfl rfl rfl (by decide +kernel) ⟨by decide, by decide⟩) (gc_preV0 hK hP hD hS hA hE rfl rfl rfl) rfl rfl hl.1 rfl (lv_room (Nat.le_of_ble_eq_true rfl)) dX0_goThroughPlans_31 ⟨by decide, by decide⟩) hD hS hA (fun v17 sg19 H locs hp20 hP hD hS => ?_)
  obtain ⟨rfl, hq9⟩ := hp20
  refine W.eq (g2 := F0 m 34 ls []) rfl ?_
  exact hret _ _ _ _ _ hP hS dX0_goThroughPlans_34 (⟨rfl, hq9.1, hq9.2.1, hq9.2.2.1, hq9.2.2.2.trans (by simp [esg16, esg15, esg14, esg13, gw_u, upd])⟩)
