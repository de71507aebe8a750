abbrev rmX1_boundOfGain : Room := { frames := 0, cells := 0, slots := 0, locals := 0 }
set_option maxRecDepth 100000 in
set_option maxHeartbeats 4000000 in
theorem m_X1_boundOfGain (l : Launch) (hl9 : l.stackTraces = false) (D : va_G) (cI : ClassId) (cJ : ClassId × ClassId) (ad : Nat → Nat) (sg0 : Nat → Nat → Int32) (sz : Nat) (hI : IvG 0 9 3 sg0) : gc_M l yX1_boundOfGain wsX1_boundOfGain rmX1_boundOfGain D vwCl (tyS cI cJ) cI cJ gxT gxN SY [.ref (ad 0)] ad sg0 sz 0 0 (fun v sg2 => KG 0 9 3 sg0 sg2 ∧ ∃ r : Int32, v = some (.int r)) := by
  refine gc_Mi_of (cc := cX1_boundOfGain) (maxL := 3) (by decide) rfl (Nat.le_of_ble_eq_true rfl) ?_
  intro p e s m below meth c A ls Q hin hE hret
  obtain ⟨⟨hx, hb, hml, hown, hts⟩, -, hlocks, -, hA, hP, hK, hD, hS, hl⟩ := hin
  have hts : ∀ w ∈ wsAll, w.before ([.ref (ad 0)] : List Value).toArray s = true := fun w h => hts w (List.mem_cons_of_mem _ h)
  have hl : lv_has ls 3 [(0, .ref (ad 0))] := hl
  have hk := KG.refl hI
  have c4 : ∀ (n9 : Nat) (i : Nat) (x1 : Int32) (sg : Nat → Nat → Int32) (H : Heap) (locs : List Loc) (ls : Array Slot), 4 - i = n9 → i ≤ 4 → (KG 0 9 3 sg0 sg) → va_P D vwCl (gw cI cJ ad sg SY) H → va_D A (gw cI cJ ad sg SY) → va_S A s.heap H locs → lv_has ls 3 [(2, .int (nI i)), (1, .int x1), (0, .ref (ad 0))] → W p l e rmX1_boundOfGain s m ([.ref (ad 0)] : List Value).toArray below meth c H locs 0 0 Q (F0 m 4 ls []) := by
    intro n9
    induction n9 using Nat.strongRecOn with
    | ind n9 ih =>
    intro i x1 sg H locs ls hn h1 hk hP hD hS hl
    subst hn
    refine lv_iload_n hx hb dX1_boundOfGain_4 rfl (lv_at hl 0 rfl) ?_
    refine lv_iconst (v := (nI 4)) hx hb dX1_boundOfGain_5 (by decide) ?_
    refine lv_icmp_ge (tgt := 31) hx hb dX1_boundOfGain_6 (by decide) (fun hc1 => ?_) (fun hc1 => ?_)
    · have hc1 : 4 ≤ i := (nI_leI (a := 4) (b := i) (by omega) (by omega)).mp hc1
      refine lv_iload_n hx hb dX1_boundOfGain_31 rfl (lv_at hl 1 rfl) ?_
      exact hret _ _ _ _ _ _ hP hS dX1_boundOfGain_32 (⟨hk, _, rfl⟩)
    · have hc1 : ¬ (4 ≤ i) := fun q => hc1 ((nI_leI (a := 4) (b := i) (by omega) (by omega)).mpr q)
      refine lv_iload_n hx hb dX1_boundOfGain_9 rfl (lv_at hl 1 rfl) ?_
      refine lv_aload_n hx hb dX1_boundOfGain_10 rfl (lv_at hl 2 rfl) ?_
      refine gw_getr (C := RX1) (T := TX1) (N := 12) hx hb hts inwX1 hown hK hP 0 7 8 rfl rfl rfl (by decide) (hts _ a74) (fun _ h9 => h9) dX1_boundOfGain_11 ?_
      refine lv_iload_n hx hb dX1_boundOfGain_14 rfl (lv_at hl 0 rfl) ?_
      refine gw_ald hx hb hK hP 8 0 (n := 4) rfl rfl (i := i) (by omega) (by decide) dX1_boundOfGain_15 ?_
      refine lv_topi (fun v2 hv2 => ?_)
      refine lv_aload_n hx hb dX1_boundOfGain_16 rfl (lv_at hl 2 rfl) ?_
      refine gw_getr (C := RX1) (T := TX1) (N := 12) hx hb hts inwX1 hown hK hP 0 6 7 rfl rfl rfl (by decide) (hts _ a75) (fun _ h9 => h9) dX1_boundOfGain_17 ?_
      refine lv_iload_n hx hb dX1_boundOfGain_20 rfl (lv_at hl 0 rfl) ?_
      refine gw_ald hx hb hK hP 7 0 (n := 4) rfl rfl (i := i) (by omega) (by decide) dX1_boundOfGain_21 ?_
      refine lv_topi (fun v3 hv3 => ?_)
      refine lv_imul hx hb dX1_boundOfGain_22 ?_
      refine lv_topi (fun v4 hv4 => ?_)
      refine lv_iadd hx hb dX1_boundOfGain_23 ?_
      refine lv_topi (fun v5 hv5 => ?_)
      refine lv_istore_n (lv' := [(1, .int v5), (2, .int (nI i)), (0, .ref (ad 0))]) hx hb dX1_boundOfGain_24 rfl hl (by decide) rfl (fun ls hl => ?_)
      refine lv_iinc (k := 1) (v := (nI (i + 1))) (lv' := [(2, .int (nI (i + 1))), (1, .int v5), (0, .ref (ad 0))]) hx hb dX1_boundOfGain_25 hl rfl (nI_1 _) (by decide) rfl (fun ls hl => ?_)
      refine lv_goto (tgt := 4) hx hb dX1_boundOfGain_28 (by decide) ?_
      exact ih _ (by omega) (i + 1) v5 _ _ _ _ rfl (by omega) hk hP hD hS (lv_sub hl [0, 1, 2] rfl)
  refine lv_iconst (v := (nI 0)) hx hb dX1_boundOfGain_0 (by decide) ?_
  refine lv_istore_n (lv' := [(1, .int (nI 0)), (0, .ref (ad 0))]) hx hb dX1_boundOfGain_1 rfl hl (by decide) rfl (fun ls hl => ?_)
  refine lv_iconst (v := (nI 0)) hx hb dX1_boundOfGain_2 (by decide) ?_
  refine lv_istore_n (lv' := [(2, .int (nI 0)), (1, .int (nI 0)), (0, .ref (ad 0))]) hx hb dX1_boundOfGain_3 rfl hl (by decide) rfl (fun ls hl => ?_)
  exact c4 _ 0 (nI 0) _ _ _ _ rfl (by omega) hk hP hD hS (lv_sub hl [0, 1, 2] rfl)
abbrev rmX1_patternsUsedIn : Room := { frames := 0, cells := 0, slots := 0, locals := 0 }
set_option maxRecDepth 100000 in
set_option maxHeartbeats 4000000 in
theorem m_X1_patternsUsedIn (l : Launch) (hl9 : l.stackTraces = false) (D : va_G) (cI : ClassId) (cJ : ClassId × ClassId) (ad : Nat → Nat) (sg0 : Nat → Nat → Int32) (sz : Nat) (hI : IvG 0 9 3 sg0) : gc_M l yX1_patternsUsedIn wsX1_patternsUsedIn rmX1_patternsUsedIn D vwCl (tyS cI cJ) cI cJ gxT gxN SY [.ref (ad 0), .ref (ad 16)] ad sg0 sz 0 0 (fun v sg2 => KG 0 9 3 sg0 sg2 ∧ ∃ r : Int32, v = some (.int r)) := by
  refine gc_Mi_of (cc := cX1_patternsUsedIn) (maxL := 4) (by decide) rfl (Nat.le_of_ble_eq_true rfl) ?_
  intro p e s m below meth c A ls Q hin hE hret
  obtain ⟨⟨hx, hb, hml, hown, hts⟩, -, hlocks, -, hA, hP, hK, hD, hS, hl⟩ := hin
  have hts : ∀ w ∈ wsAll, w.before ([.ref (ad 0), .ref (ad 16)] : List Value).toArray s = true := fun w h => hts w (List.mem_cons_of_mem _ h)
  have hl : lv_has ls 4 [(0, .ref (ad 0)), (1, .ref (ad 16))] := hl
  have hk := KG.refl hI
  have c4 : ∀ (n9 : Nat) (i : Nat) (x2 : Int32) (sg : Nat → Nat → Int32) (H : Heap) (locs : List Loc) (ls : Array Slot), 6 - i = n9 → i ≤ 6 → (KG 0 9 3 sg0 sg) → va_P D vwCl (gw cI cJ ad sg SY) H → va_D A (gw cI cJ ad sg SY) → va_S A s.heap H locs → lv_has ls 4 [(3, .int (nI i)), (2, .int x2), (0, .ref (ad 0)), (1, .ref (ad 16))] → W p l e rmX1_patternsUsedIn s m ([.ref (ad 0), .ref (ad 16)] : List Value).toArray below meth c H locs 0 0 Q (F0 m 4 ls []) := by
    intro n9
    induction n9 using Nat.strongRecOn with
    | ind n9 ih =>
    intro i x2 sg H locs ls hn h1 hk hP hD hS hl
    subst hn
    refine lv_iload_n hx hb dX1_patternsUsedIn_4 rfl (lv_at hl 0 rfl) ?_
    refine lv_aload_n hx hb dX1_patternsUsedIn_5 rfl (lv_at hl 2 rfl) ?_
    refine gw_geti (C := RX1) (T := TX1) (N := 12) hx hb hts inwX1 hown hK hP 0 9 rfl rfl rfl (by decide) (hts _ a76) (fun _ h9 => h9) dX1_patternsUsedIn_6 ?_
    obtain ⟨N1, hN1, eN1⟩ := hk.1.1
    refine gw_top (y := (nI N1)) (eN1) ?_
    refine lv_icmp_ge (tgt := 27) hx hb dX1_patternsUsedIn_9 (by decide) (fun hc2 => ?_) (fun hc2 => ?_)
    · have hc2 : N1 ≤ i := (nI_leI (a := N1) (b := i) (by omega) (by omega)).mp hc2
      refine lv_iload_n hx hb dX1_patternsUsedIn_27 rfl (lv_at hl 1 rfl) ?_
      exact hret _ _ _ _ _ _ hP hS dX1_patternsUsedIn_28 (⟨hk, _, rfl⟩)
    · have hc2 : ¬ (N1 ≤ i) := fun q => hc2 ((nI_leI (a := N1) (b := i) (by omega) (by omega)).mpr q)
      refine lv_aload_n hx hb dX1_patternsUsedIn_12 rfl (lv_at hl 3 rfl) ?_
      refine lv_iload_n hx hb dX1_patternsUsedIn_13 rfl (lv_at hl 0 rfl) ?_
      refine gw_ald hx hb hK hP 16 0 (n := 6) rfl rfl (i := i) (by omega) (by decide) dX1_patternsUsedIn_14 ?_
      refine lv_topi (fun v3 hv3 => ?_)
      refine lv_if_le (tgt := 21) hx hb dX1_patternsUsedIn_15 (by decide) (fun hc4 => ?_) (fun hc4 => ?_)
      · refine lv_iinc (k := 0) (v := (nI (i + 1))) (lv' := [(3, .int (nI (i + 1))), (2, .int x2), (0, .ref (ad 0)), (1, .ref (ad 16))]) hx hb dX1_patternsUsedIn_21 hl rfl (nI_1 _) (by decide) rfl (fun ls hl => ?_)
        refine lv_goto (tgt := 4) hx hb dX1_patternsUsedIn_24 (by decide) ?_
        exact ih _ (by omega) (i + 1) x2 _ _ _ _ rfl (by omega) hk hP hD hS (lv_sub hl [0, 1, 2, 3] rfl)
      · refine lv_iinc (k := 1) (v := (x2 + 1)) (lv' := [(2, .int (x2 + 1)), (3, .int (nI i)), (0, .ref (ad 0)), (1, .ref (ad 16))]) hx hb dX1_patternsUsedIn_18 hl rfl rfl (by decide) rfl (fun ls hl => ?_)
        refine lv_iinc (k := 1) (v := (nI (i + 1))) (lv' := [(3, .int (nI (i + 1))), (2, .int (x2 + 1)), (0, .ref (ad 0)), (1, .ref (ad 16))]) hx hb dX1_patternsUsedIn_21 hl rfl (nI_1 _) (by decide) rfl (fun ls hl => ?_)
        refine lv_goto (tgt := 4) hx hb dX1_patternsUsedIn_24 (by decide) ?_
        exact ih _ (by omega) (i + 1) (x2 + 1) _ _ _ _ rfl (by omega) hk hP hD hS (lv_sub hl [0, 1, 2, 3] rfl)
  refine lv_iconst (v := (nI 0)) hx hb dX1_patternsUsedIn_0 (by decide) ?_
  refine lv_istore_n (lv' := [(2, .int (nI 0)), (0, .ref (ad 0)), (1, .ref (ad 16))]) hx hb dX1_patternsUsedIn_1 rfl hl (by decide) rfl (fun ls hl => ?_)
  refine lv_iconst (v := (nI 0)) hx hb dX1_patternsUsedIn_2 (by decide) ?_
  refine lv_istore_n (lv' := [(3, .int (nI 0)), (2, .int (nI 0)), (0, .ref (ad 0)), (1, .ref (ad 16))]) hx hb dX1_patternsUsedIn_3 rfl hl (by decide) rfl (fun ls hl => ?_)
  exact c4 _ 0 (nI 0) _ _ _ _ rfl (by omega) hk hP hD hS (lv_sub hl [0, 1, 2, 3] rfl)
abbrev rmX1_minutesOf : Room := { frames := 1, cells := 0, slots := 0, locals := 23 }
set_option maxRecDepth 100000 in
set_option maxHeartbeats 4000000 in
theorem m_X1_minutesOf (l : Launch) (hl9 : l.stackTraces = false) (D : va_G) (cI : ClassId) (cJ : ClassId × ClassId) (ad : Nat → Nat) (sg0 : Nat → Nat → Int32) (sz : Nat) (hI : IvG 0 9 3 sg0) : gc_M l yX1_minutesOf wsX1_minutesOf rmX1_minutesOf D vwCl (tyS cI cJ) cI cJ gxT gxN SY [.ref (ad 0), .ref (ad 16)] ad sg0 sz 0 0 (fun v sg2 => KG 0 9 3 sg0 sg2 ∧ ∃ r : Int32, v = some (.int r)) := by
  refine gc_Mi_of (cc := cX1_minutesOf) (maxL := 4) (by decide) rfl (Nat.le_of_ble_eq_true rfl) ?_
  intro p e s m below meth c A ls Q hin hE hret
  obtain ⟨⟨hx, hb, hml, hown, hts⟩, -, hlocks, -, hA, hP, hK, hD, hS, hl⟩ := hin
  have hts : ∀ w ∈ wsAll, w.before ([.ref (ad 0), .ref (ad 16)] : List Value).toArray s = true := fun w h => hts w (List.mem_cons_of_mem _ h)
  have hl : lv_has ls 4 [(0, .ref (ad 0)), (1, .ref (ad 16))] := hl
  have hk := KG.refl hI
  have c4 : ∀ (n9 : Nat) (i : Nat) (x2 : Int32) (sg : Nat → Nat → Int32) (H : Heap) (locs : List Loc) (ls : Array Slot), 6 - i = n9 → i ≤ 6 → (KG 0 9 3 sg0 sg) → va_P D vwCl (gw cI cJ ad sg SY) H → va_D A (gw cI cJ ad sg SY) → va_S A s.heap H locs → lv_has ls 4 [(3, .int (nI i)), (2, .int x2), (0, .ref (ad 0)), (1, .ref (ad 16))] → W p l e rmX1_minutesOf s m ([.ref (ad 0), .ref (ad 16)] : List Value).toArray below meth c H locs 0 0 Q (F0 m 4 ls []) := by
    intro n9
    induction n9 using Nat.strongRecOn with
    | ind n9 ih =>
    intro i x2 sg H locs ls hn h1 hk hP hD hS hl
    subst hn
    refine lv_iload_n hx hb dX1_minutesOf_4 rfl (lv_at hl 0 rfl) ?_
    refine lv_aload_n hx hb dX1_minutesOf_5 rfl (lv_at hl 2 rfl) ?_
    refine gw_geti (C := RX1) (T := TX1) (N := 12) hx hb hts inwX1 hown hK hP 0 9 rfl rfl rfl (by decide) (hts _ a76) (fun _ h9 => h9) dX1_minutesOf_6 ?_
    obtain ⟨N1, hN1, eN1⟩ := hk.1.1
    refine gw_top (y := (nI N1)) (eN1) ?_
    refine lv_icmp_ge (tgt := 31) hx hb dX1_minutesOf_9 (by decide) (fun hc2 => ?_) (fun hc2 => ?_)
    · have hc2 : N1 ≤ i := (nI_leI (a := N1) (b := i) (by omega) (by omega)).mp hc2
      refine lv_iload_n hx hb dX1_minutesOf_31 rfl (lv_at hl 1 rfl) ?_
      refine lv_aload_n hx hb dX1_minutesOf_32 rfl (lv_at hl 2 rfl) ?_
      refine lv_aload_n hx hb dX1_minutesOf_33 rfl (lv_at hl 3 rfl) ?_
      refine gc_go0 (va_runV (As := [.ref (ad 16)]) (rest := [.int x2]) ⟨hx, hb, hml, hown, hts⟩ (m_X1_patternsUsedIn l hl9 D cI cJ ad sg _  hk.1) (cwV 1 hts (gwV a77 a78 a79 a80 a81) rfl rfl rfl (by decide +kernel) ⟨by decide, by decide⟩) (gc_preV0 hK hP hD hS hA hE rfl rfl rfl) rfl rfl hl.1 rfl (lv_room (Nat.le_of_ble_eq_true rfl)) dX1_minutesOf_34 ⟨by decide, by decide⟩) hD hS hA (fun v3 sg5 H locs hp6 hP hD hS => ?_)
      obtain ⟨hk1, r9, rfl⟩ := hp6
      have hk := hk.trans hk1
      refine W.eq (g2 := F0 m 37 ls [.int r9, .int x2]) rfl ?_
      refine lv_aload_n hx hb dX1_minutesOf_37 rfl (lv_at hl 2 rfl) ?_
      refine gw_geti (C := RX1) (T := TX1) (N := 12) hx hb hts inwX1 hown hK hP 0 11 rfl rfl rfl (by decide) (hts _ a82) (fun _ h9 => h9) dX1_minutesOf_38 ?_
      refine lv_topi (fun v10 hv10 => ?_)
      refine lv_imul hx hb dX1_minutesOf_41 ?_
      refine lv_topi (fun v11 hv11 => ?_)
      refine lv_iadd hx hb dX1_minutesOf_42 ?_
      refine lv_topi (fun v12 hv12 => ?_)
      exact hret _ _ _ _ _ _ hP hS dX1_minutesOf_43 (⟨hk, _, rfl⟩)
    · have hc2 : ¬ (N1 ≤ i) := fun q => hc2 ((nI_leI (a := N1) (b := i) (by omega) (by omega)).mpr q)
      refine lv_iload_n hx hb dX1_minutesOf_12 rfl (lv_at hl 1 rfl) ?_
      refine lv_aload_n hx hb dX1_minutesOf_13 rfl (lv_at hl 3 rfl) ?_
      refine lv_iload_n hx hb dX1_minutesOf_14 rfl (lv_at hl 0 rfl) ?_
      refine gw_ald hx hb hK hP 16 0 (n := 6) rfl rfl (i := i) (by omega) (by decide) dX1_minutesOf_15 ?_
      refine lv_topi (fun v13 hv13 => ?_)
      refine lv_aload_n hx hb dX1_minutesOf_16 rfl (lv_at hl 2 rfl) ?_
      refine gw_getr (C := RX1) (T := TX1) (N := 12) hx hb hts inwX1 hown hK hP 0 3 4 rfl rfl rfl (by decide) (hts _ a83) (fun _ h9 => h9) dX1_minutesOf_17 ?_
      refine lv_iload_n hx hb dX1_minutesOf_20 rfl (lv_at hl 0 rfl) ?_
      refine gw_ald hx hb hK hP 4 0 (n := 6) rfl rfl (i := i) (by omega) (by decide) dX1_minutesOf_21 ?_
      refine lv_topi (fun v14 hv14 => ?_)
      refine lv_imul hx hb dX1_minutesOf_22 ?_
      refine lv_topi (fun v15 hv15 => ?_)
      refine lv_iadd hx hb dX1_minutesOf_23 ?_
      refine lv_topi (fun v16 hv16 => ?_)
      refine lv_istore_n (lv' := [(2, .int v16), (3, .int (nI i)), (0, .ref (ad 0)), (1, .ref (ad 16))]) hx hb dX1_minutesOf_24 rfl hl (by decide) rfl (fun ls hl => ?_)
      refine lv_iinc (k := 1) (v := (nI (i + 1))) (lv' := [(3, .int (nI (i + 1))), (2, .int v16), (0, .ref (ad 0)), (1, .ref (ad 16))]) hx hb dX1_minutesOf_25 hl rfl (nI_1 _) (by decide) rfl (fun ls hl => ?_)
      refine lv_goto (tgt := 4) hx hb dX1_minutesOf_28 (by decide) ?_
      exact ih _ (by omega) (i + 1) v16 _ _ _ _ rfl (by omega) hk hP hD hS (lv_sub hl [0, 1, 2, 3] rfl)
  refine lv_iconst (v := (nI 0)) hx hb dX1_minutesOf_0 (by decide) ?_
  refine lv_istore_n (lv' := [(2, .int (nI 0)), (0, .ref (ad 0)), (1, .ref (ad 16))]) hx hb dX1_minutesOf_1 rfl hl (by decide) rfl (fun ls hl => ?_)
  refine lv_iconst (v := (nI 0)) hx hb dX1_minutesOf_2 (by decide) ?_
  refine lv_istore_n (lv' := [(3, .int (nI 0)), (2, .int (nI 0)), (0, .ref (ad 0)), (1, .ref (ad 16))]) hx hb dX1_minutesOf_3 rfl hl (by decide) rfl (fun ls hl => ?_)
  exact c4 _ 0 (nI 0) _ _ _ _ rfl (by omega) hk hP hD hS (lv_sub hl [0, 1, 2, 3] rfl)
abbrev rmX1_madeBy : Room := { frames := 0, cells := 0, slots := 0, locals := 0 }
set_option maxRecDepth 100000 in
set_option maxHeartbeats 4000000 in
theorem m_X1_madeBy (l : Launch) (hl9 : l.stackTraces = false) (D : va_G) (cI : ClassId) (cJ : ClassId × ClassId) (ad : Nat → Nat) (sg0 : Nat → Nat → Int32) (sz : Nat) (pr : Nat) (hpr : pr < 4) (hI : IvG 0 9 3 sg0) : gc_M l yX1_madeBy wsX1_madeBy rmX1_madeBy D vwCl (tyS cI cJ) cI cJ gxT gxN SY [.ref (ad 0), .ref (ad 16), .int (nI pr)] ad sg0 sz 0 0 (fun v sg2 => KG 0 9 3 sg0 sg2 ∧ ∃ r : Int32, v = some (.int r)) := by
  refine gc_Mi_of (cc := cX1_madeBy) (maxL := 5) (by decide) rfl (Nat.le_of_ble_eq_true rfl) ?_
  intro p e s m below meth c A ls Q hin hE hret
  obtain ⟨⟨hx, hb, hml, hown, hts⟩, -, hlocks, -, hA, hP, hK, hD, hS, hl⟩ := hin
  have hts : ∀ w ∈ wsAll, w.before ([.ref (ad 0), .ref (ad 16), .int (nI pr)] : List Value).toArray s = true := fun w h => hts w (List.mem_cons_of_mem _ h)
  have hl : lv_has ls 5 [(0, .ref (ad 0)), (1, .ref (ad 16)), (2, .int (nI pr))] := hl
  have hk := KG.refl hI
  have c10 : ∀ (n9 : Nat) (i : Nat) (x3 : Int32) (sg : Nat → Nat → Int32) (H : Heap) (locs : List Loc) (ls : Array Slot), 6 - i = n9 → i ≤ 6 → (KG 0 9 3 sg0 sg) → va_P D vwCl (gw cI cJ ad sg SY) H → va_D A (gw cI cJ ad sg SY) → va_S A s.heap H locs → lv_has ls 5 [(4, .int (nI i)), (3, .int x3), (0, .ref (ad 0)), (1, .ref (ad 16)), (2, .int (nI pr))] → W p l e rmX1_madeBy s m ([.ref (ad 0), .ref (ad 16), .int (nI pr)] : List Value).toArray below meth c H locs 0 0 Q (F0 m 10 ls []) := by
    intro n9
    induction n9 using Nat.strongRecOn with
    | ind n9 ih =>
    intro i x3 sg H locs ls hn h1 hk hP hD hS hl
    subst hn
    refine lv_iload hx hb dX1_madeBy_10 (lv_at hl 0 rfl) ?_
    refine lv_aload_n hx hb dX1_madeBy_12 rfl (lv_at hl 2 rfl) ?_
    refine gw_geti (C := RX1) (T := TX1) (N := 12) hx hb hts inwX1 hown hK hP 0 9 rfl rfl rfl (by decide) (hts _ a76) (fun _ h9 => h9) dX1_madeBy_13 ?_
    obtain ⟨N1, hN1, eN1⟩ := hk.1.1
    refine gw_top (y := (nI N1)) (eN1) ?_
    refine lv_icmp_ge (tgt := 42) hx hb dX1_madeBy_16 (by decide) (fun hc2 => ?_) (fun hc2 => ?_)
    · have hc2 : N1 ≤ i := (nI_leI (a := N1) (b := i) (by omega) (by omega)).mp hc2
      refine lv_iload_n hx hb dX1_madeBy_42 rfl (lv_at hl 1 rfl) ?_
      exact hret _ _ _ _ _ _ hP hS dX1_madeBy_43 (⟨hk, _, rfl⟩)
    · have hc2 : ¬ (N1 ≤ i) := fun q => hc2 ((nI_leI (a := N1) (b := i) (by omega) (by omega)).mpr q)
      refine lv_iload_n hx hb dX1_madeBy_19 rfl (lv_at hl 1 rfl) ?_
      refine lv_aload_n hx hb dX1_madeBy_20 rfl (lv_at hl 3 rfl) ?_
      refine lv_iload hx hb dX1_madeBy_21 (lv_at hl 0 rfl) ?_
      refine gw_ald hx hb hK hP 16 0 (n := 6) rfl rfl (i := i) (by omega) (by decide) dX1_madeBy_23 ?_
      refine lv_topi (fun v3 hv3 => ?_)
      refine lv_aload_n hx hb dX1_madeBy_24 rfl (lv_at hl 2 rfl) ?_
      refine gw_getr (C := RX1) (T := TX1) (N := 12) hx hb hts inwX1 hown hK hP 0 4 5 rfl rfl rfl (by decide) (hts _ a84) (fun _ h9 => h9) dX1_madeBy_25 ?_
      refine lv_iload hx hb dX1_madeBy_28 (lv_at hl 0 rfl) ?_
      refine gw_aald hx hb hK hP 5 1 (n := 6) (b := 10) rfl rfl rfl (i := i) (by omega) (by decide) dX1_madeBy_30 ?_
      refine lv_iload_n hx hb dX1_madeBy_31 rfl (lv_at hl 4 rfl) ?_
      refine gw_ald hx hb hK hP (10 + i) 0 (n := 4) (rowSY _ (by omega)) rfl (i := pr) (by omega) (by decide) dX1_madeBy_32 ?_
      refine lv_topi (fun v4 hv4 => ?_)
      refine lv_imul hx hb dX1_madeBy_33 ?_
      refine lv_topi (fun v5 hv5 => ?_)
      refine lv_iadd hx hb dX1_madeBy_34 ?_
      refine lv_topi (fun v6 hv6 => ?_)
      refine lv_istore_n (lv' := [(3, .int v6), (4, .int (nI i)), (0, .ref (ad 0)), (1, .ref (ad 16)), (2, .int (nI pr))]) hx hb dX1_madeBy_35 rfl hl (by decide) rfl (fun ls hl => ?_)
      refine lv_iinc (k := 1) (v := (nI (i + 1))) (lv' := [(4, .int (nI (i + 1))), (3, .int v6), (0, .ref (ad 0)), (1, .ref (ad 16)), (2, .int (nI pr))]) hx hb dX1_madeBy_36 hl rfl (nI_1 _) (by decide) rfl (fun ls hl => ?_)
      refine lv_goto (tgt := 10) hx hb dX1_madeBy_39 (by decide) ?_
      exact ih _ (by omega) (i + 1) v6 _ _ _ _ rfl (by omega) hk hP hD hS (lv_sub hl [0, 1, 2, 3, 4] rfl)
  refine lv_aload_n hx hb dX1_madeBy_0 rfl (lv_at hl 0 rfl) ?_
  refine gw_getr (C := RX1) (T := TX1) (N := 12) hx hb hts inwX1 hown hK hP 0 8 9 rfl rfl rfl (by decide) (hts _ a85) (fun _ h9 => h9) dX1_madeBy_1 ?_
  refine lv_iload_n hx hb dX1_madeBy_4 rfl (lv_at hl 2 rfl) ?_
  refine gw_ald hx hb hK hP 9 0 (n := 4) rfl rfl (i := pr) (by omega) (by decide) dX1_madeBy_5 ?_
  refine lv_topi (fun v7 hv7 => ?_)
  refine lv_istore_n (lv' := [(3, .int v7), (0, .ref (ad 0)), (1, .ref (ad 16)), (2, .int (nI pr))]) hx hb dX1_madeBy_6 rfl hl (by decide) rfl (fun ls hl => ?_)
  refine lv_iconst (v := (nI 0)) hx hb dX1_madeBy_7 (by decide) ?_
  refine lv_istore (lv' := [(4, .int (nI 0)), (3, .int v7), (0, .ref (ad 0)), (1, .ref (ad 16)), (2, .int (nI pr))]) hx hb dX1_madeBy_8 hl (by decide) rfl (fun ls hl => ?_)
  exact c10 _ 0 v7 _ _ _ _ rfl (by omega) hk hP hD hS (lv_sub hl [0, 1, 2, 3, 4] rfl)
abbrev rmX1_doPlan : Room := { frames := 1, cells := 0, slots := 0, locals := 24 }
set_option maxRecDepth 100000 in
set_option maxHeartbeats 4000000 in
theorem m_X1_doPlan (l : Launch) (hl9 : l.stackTraces = false) (D : va_G) (cI : ClassId) (cJ : ClassId × ClassId) (ad : Nat → Nat) (sg0 : Nat → Nat → Int32) (sz : Nat) (hI : IvG 0 9 3 sg0) : gc_M l yX1_doPlan wsX1_doPlan rmX1_doPlan D vwCl (tyS cI cJ) cI cJ gxT gxN SY [.ref (ad 0), .ref (ad 16)] ad sg0 sz 0 0 (fun v sg2 => KG 0 9 3 sg0 sg2 ∧ v = none) := by
  refine gc_Mv_of (cc := cX1_doPlan) (maxL := 4) (by decide) rfl (Nat.le_of_ble_eq_true rfl) ?_
  intro p e s m below meth c A ls Q hin hE hret
  obtain ⟨⟨hx, hb, hml, hown, hts⟩, -, hlocks, -, hA, hP, hK, hD, hS, hl⟩ := hin
  have hts : ∀ w ∈ wsAll, w.before ([.ref (ad 0), .ref (ad 16)] : List Value).toArray s = true := fun w h => hts w (List.mem_cons_of_mem _ h)
  have hl : lv_has ls 4 [(0, .ref (ad 0)), (1, .ref (ad 16))] := hl
  have hk := KG.refl hI
  have c40 : ∀ (n9 : Nat) (i : Nat) (sg : Nat → Nat → Int32) (H : Heap) (locs : List Loc) (ls : Array Slot), 6 - i = n9 → i ≤ 6 → (KG 0 9 3 sg0 sg) → va_P D vwCl (gw cI cJ ad sg SY) H → va_D A (gw cI cJ ad sg SY) → va_S A s.heap H locs → lv_has ls 4 [(2, .int (nI i)), (0, .ref (ad 0)), (1, .ref (ad 16))] → W p l e rmX1_doPlan s m ([.ref (ad 0), .ref (ad 16)] : List Value).toArray below meth c H locs 0 0 Q (F0 m 40 ls []) := by
    intro n9
    induction n9 using Nat.strongRecOn with
    | ind n9 ih =>
    intro i sg H locs ls hn h1 hk hP hD hS hl
    subst hn
    refine lv_iload_n hx hb dX1_doPlan_40 rfl (lv_at hl 0 rfl) ?_
    refine lv_aload_n hx hb dX1_doPlan_41 rfl (lv_at hl 1 rfl) ?_
    refine gw_geti (C := RX1) (T := TX1) (N := 12) hx hb hts inwX1 hown hK hP 0 9 rfl rfl rfl (by decide) (hts _ a76) (fun _ h9 => h9) dX1_doPlan_42 ?_
    obtain ⟨N1, hN1, eN1⟩ := hk.1.1
    refine gw_top (y := (nI N1)) (eN1) ?_
    refine lv_icmp_ge (tgt := 71) hx hb dX1_doPlan_45 (by decide) (fun hc2 => ?_) (fun hc2 => ?_)
    · have hc2 : N1 ≤ i := (nI_leI (a := N1) (b := i) (by omega) (by omega)).mp hc2
      exact hret _ _ _ _ _ hP hS dX1_doPlan_71 (⟨hk, rfl⟩)
    · have hc2 : ¬ (N1 ≤ i) := fun q => hc2 ((nI_leI (a := N1) (b := i) (by omega) (by omega)).mpr q)
      refine lv_aload_n hx hb dX1_doPlan_48 rfl (lv_at hl 1 rfl) ?_
      refine gw_getr (C := RX1) (T := TX1) (N := 12) hx hb hts inwX1 hown hK hP 0 0 1 rfl rfl rfl (by decide) (hts _ a86) (fun _ h9 => h9) dX1_doPlan_49 ?_
      refine lv_aload_n hx hb dX1_doPlan_52 rfl (lv_at hl 1 rfl) ?_
      refine gw_getr (C := RX1) (T := TX1) (N := 12) hx hb hts inwX1 hown hK hP 0 2 3 rfl rfl rfl (by decide) (hts _ a87) (fun _ h9 => h9) dX1_doPlan_53 ?_
      refine lv_iload_n hx hb dX1_doPlan_56 rfl (lv_at hl 0 rfl) ?_
      refine gw_ald hx hb hK hP 3 0 (n := 6) rfl rfl (i := i) (by omega) (by decide) dX1_doPlan_57 ?_
      obtain ⟨cf3, hcf3, ecf3⟩ := hk.1.2 i (by omega)
      refine gw_top (y := (nI cf3)) (ecf3) ?_
      refine lv_dup2_11 hx hb dX1_doPlan_58 rfl rfl ?_
      refine gw_ald hx hb hK hP 1 0 (n := 4) rfl rfl (i := cf3) (by omega) (by decide) dX1_doPlan_59 ?_
      refine lv_topi (fun v4 hv4 => ?_)
      refine lv_aload_n hx hb dX1_doPlan_60 rfl (lv_at hl 2 rfl) ?_
      refine lv_iload_n hx hb dX1_doPlan_61 rfl (lv_at hl 0 rfl) ?_
      refine gw_ald hx hb hK hP 16 0 (n := 6) rfl rfl (i := i) (by omega) (by decide) dX1_doPlan_62 ?_
      refine lv_topi (fun v5 hv5 => ?_)
      refine lv_isub hx hb dX1_doPlan_63 ?_
      refine lv_topi (fun v6 hv6 => ?_)
      refine gw_ast hx hb hK hP hD hS 1 0 (n := 4) rfl rfl (i := cf3) (by omega) (by decide) dX1_doPlan_64 (fun H locs hP hD hS => ?_)
      obtain ⟨sg7, esg7⟩ : ∃ z : Nat → Nat → Int32, z = gw_u sg 1 (upd (sg 1) cf3 v6) := ⟨_, rfl⟩
      rw [← esg7] at hP hD
      have hk : KG 0 9 3 sg0 sg7 := by rw [esg7]; exact hk.wa 1 (by omega) (by omega) _
      refine lv_iinc (k := 0) (v := (nI (i + 1))) (lv' := [(2, .int (nI (i + 1))), (0, .ref (ad 0)), (1, .ref (ad 16))]) hx hb dX1_doPlan_65 hl rfl (nI_1 _) (by decide) rfl (fun ls hl => ?_)
      refine lv_goto (tgt := 40) hx hb dX1_doPlan_68 (by decide) ?_
      exact ih _ (by omega) (i + 1) _ _ _ _ rfl (by omega) hk hP hD hS (lv_sub hl [0, 1, 2] rfl)
  have c2 : ∀ (n9 : Nat) (i : Nat) (sg : Nat → Nat → Int32) (H : Heap) (locs : List Loc) (ls : Array Slot), 4 - i = n9 → i ≤ 4 → (KG 0 9 3 sg0 sg) → va_P D vwCl (gw cI cJ ad sg SY) H → va_D A (gw cI cJ ad sg SY) → va_S A s.heap H locs → lv_has ls 4 [(2, .int (nI i)), (0, .ref (ad 0)), (1, .ref (ad 16))] → W p l e rmX1_doPlan s m ([.ref (ad 0), .ref (ad 16)] : List Value).toArray below meth c H locs 0 0 Q (F0 m 2 ls []) := by
    intro n9
    induction n9 using Nat.strongRecOn with
    | ind n9 ih =>
    intro i sg H locs ls hn h1 hk hP hD hS hl
    subst hn
    refine lv_iload_n hx hb dX1_doPlan_2 rfl (lv_at hl 0 rfl) ?_
    refine lv_iconst (v := (nI 4)) hx hb dX1_doPlan_3 (by decide) ?_
    refine lv_icmp_ge (tgt := 38) hx hb dX1_doPlan_4 (by decide) (fun hc8 => ?_) (fun hc8 => ?_)
    · have hc8 : 4 ≤ i := (nI_leI (a := 4) (b := i) (by omega) (by omega)).mp hc8
      refine lv_iconst (v := (nI 0)) hx hb dX1_doPlan_38 (by decide) ?_
      refine lv_istore_n (lv' := [(2, .int (nI 0)), (0, .ref (ad 0)), (1, .ref (ad 16))]) hx hb dX1_doPlan_39 rfl hl (by decide) rfl (fun ls hl => ?_)
      exact c40 _ 0 _ _ _ _ rfl (by omega) hk hP hD hS (lv_sub hl [0, 1, 2] rfl)
    · have hc8 : ¬ (4 ≤ i) := fun q => hc8 ((nI_leI (a := 4) (b := i) (by omega) (by omega)).mpr q)
      refine lv_aload_n hx hb dX1_doPlan_7 rfl (lv_at hl 1 rfl) ?_
      refine lv_aload_n hx hb dX1_doPlan_8 rfl (lv_at hl 2 rfl) ?_
      refine lv_iload_n hx hb dX1_doPlan_9 rfl (lv_at hl 0 rfl) ?_
      refine gc_go0 (va_runV (As := [.ref (ad 16), .int (nI i)]) (rest := []) ⟨hx, hb, hml, hown, hts⟩ (m_X1_madeBy l hl9 D cI cJ ad sg _ i (by omega) hk.1) (cwV 2 hts (gwV a88 a89 a90 a80 a91) rfl rfl rfl (by decide +kernel) ⟨by decide, by decide⟩) (gc_preV0 hK hP hD hS hA hE rfl rfl rfl) rfl rfl hl.1 rfl (lv_room (Nat.le_of_ble_eq_true rfl)) dX1_doPlan_10 ⟨by decide, by decide⟩) hD hS hA (fun v9 sg11 H locs hp12 hP hD hS => ?_)
      obtain ⟨hk1, r15, rfl⟩ := hp12
      have hk := hk.trans hk1
      refine W.eq (g2 := F0 m 13 ls [.int r15]) rfl ?_
      refine lv_istore_n (lv' := [(3, .int r15), (2, .int (nI i)), (0, .ref (ad 0)), (1, .ref (ad 16))]) hx hb dX1_doPlan_13 rfl hl (by decide) rfl (fun ls hl => ?_)
      refine lv_aload_n hx hb dX1_doPlan_14 rfl (lv_at hl 2 rfl) ?_
      refine gw_getr (C := RX1) (T := TX1) (N := 12) hx hb hts inwX1 hown hK hP 0 8 9 rfl rfl rfl (by decide) (hts _ a85) (fun _ h9 => h9) dX1_doPlan_15 ?_
      refine lv_iload_n hx hb dX1_doPlan_18 rfl (lv_at hl 1 rfl) ?_
      refine lv_iload_n hx hb dX1_doPlan_19 rfl (lv_at hl 0 rfl) ?_
      refine lv_iload_n hx hb dX1_doPlan_20 rfl (lv_at hl 0 rfl) ?_
      refine lv_aload_n hx hb dX1_doPlan_21 rfl (lv_at hl 2 rfl) ?_
      refine gw_getr (C := RX1) (T := TX1) (N := 12) hx hb hts inwX1 hown hK hP 0 6 7 rfl rfl rfl (by decide) (hts _ a75) (fun _ h9 => h9) dX1_doPlan_22 ?_
      refine lv_iload_n hx hb dX1_doPlan_25 rfl (lv_at hl 1 rfl) ?_
      refine gw_ald hx hb hK hP 7 0 (n := 4) rfl rfl (i := i) (by omega) (by decide) dX1_doPlan_26 ?_
      refine lv_topi (fun v16 hv16 => ?_)
      refine va_mmin hx hb (hml.trans hl.1.symm) hown (hts _ a92) (hts _ a21) (hts _ a22) (hts _ a23) (by decide) (Nat.le_of_ble_eq_true rfl) (by decide) (by decide) dX1_doPlan_27 ?_
      refine lv_topi (fun v17 hv17 => ?_)
      refine lv_isub hx hb dX1_doPlan_30 ?_
      refine lv_topi (fun v18 hv18 => ?_)
      refine gw_ast hx hb hK hP hD hS 9 0 (n := 4) rfl rfl (i := i) (by omega) (by decide) dX1_doPlan_31 (fun H locs hP hD hS => ?_)
      obtain ⟨sg19, esg19⟩ : ∃ z : Nat → Nat → Int32, z = gw_u sg11 9 (upd (sg11 9) i v18) := ⟨_, rfl⟩
      rw [← esg19] at hP hD
      have hk : KG 0 9 3 sg0 sg19 := by rw [esg19]; exact hk.wa 9 (by omega) (by omega) _
      refine lv_iinc (k := 1) (v := (nI (i + 1))) (lv' := [(2, .int (nI (i + 1))), (3, .int r15), (0, .ref (ad 0)), (1, .ref (ad 16))]) hx hb dX1_doPlan_32 hl rfl (nI_1 _) (by decide) rfl (fun ls hl => ?_)
      refine lv_goto (tgt := 2) hx hb dX1_doPlan_35 (by decide) ?_
      exact ih _ (by omega) (i + 1) _ _ _ _ rfl (by omega) hk hP hD hS (lv_sub hl [0, 2, 3] rfl)
  refine lv_iconst (v := (nI 0)) hx hb dX1_doPlan_0 (by decide) ?_
  refine lv_istore_n (lv' := [(2, .int (nI 0)), (0, .ref (ad 0)), (1, .ref (ad 16))]) hx hb dX1_doPlan_1 rfl hl (by decide) rfl (fun ls hl => ?_)
  exact c2 _ 0 _ _ _ _ rfl (by omega) hk hP hD hS (lv_sub hl [0, 1, 2] rfl)
