abbrev rmX3_lesser : Room := { frames := 0, cells := 0, slots := 0, locals := 0 }
set_option maxRecDepth 100000 in
set_option maxHeartbeats 4000000 in
theorem m_X3_lesser (l : Launch) (hl9 : l.stackTraces = false) (D : va_G) (cI : ClassId) (cJ : ClassId × ClassId) (ad : Nat → Nat) (sg0 : Nat → Nat → Int32) (sz : Nat) (x0 : Int32) (x1 : Int32) : gc_M l yX3_lesser wsX3_lesser rmX3_lesser D vwCl (tyS cI cJ) cI cJ gxT gxN SE [.int x0, .int x1] ad sg0 sz 0 0 (fun v sg2 => ∃ r : Int32, v = some (.int r)) := by
  refine gc_Mi_of (cc := cX3_lesser) (maxL := 2) (by decide) rfl (Nat.le_of_ble_eq_true rfl) ?_
  intro p e s m below meth c A ls Q hin hE hret
  obtain ⟨⟨hx, hb, hml, hown, hts⟩, -, hlocks, -, hA, hP, hK, hD, hS, hl⟩ := hin
  have hts : ∀ w ∈ wsAll, w.before ([.int x0, .int x1] : List Value).toArray s = true := fun w h => hts w (List.mem_cons_of_mem _ h)
  have hl : lv_has ls 2 [(0, .int x0), (1, .int x1)] := hl
  refine lv_iload_n hx hb dX3_lesser_0 rfl (lv_at hl 0 rfl) ?_
  refine lv_iload_n hx hb dX3_lesser_1 rfl (lv_at hl 1 rfl) ?_
  refine lv_icmp_ge (tgt := 9) hx hb dX3_lesser_2 (by decide) (fun hc1 => ?_) (fun hc1 => ?_)
  · refine lv_iload_n hx hb dX3_lesser_9 rfl (lv_at hl 1 rfl) ?_
    exact hret _ _ _ _ _ _ hP hS dX3_lesser_10 (⟨_, rfl⟩)
  · refine lv_iload_n hx hb dX3_lesser_5 rfl (lv_at hl 0 rfl) ?_
    refine lv_goto (tgt := 10) hx hb dX3_lesser_6 (by decide) ?_
    exact hret _ _ _ _ _ _ hP hS dX3_lesser_10 (⟨_, rfl⟩)
abbrev rmX3_minutesOf_count : Room := { frames := 0, cells := 0, slots := 0, locals := 0 }
set_option maxRecDepth 100000 in
set_option maxHeartbeats 4000000 in
theorem m_X3_minutesOf_count (l : Launch) (hl9 : l.stackTraces = false) (D : va_G) (cI : ClassId) (cJ : ClassId × ClassId) (ad : Nat → Nat) (sg0 : Nat → Nat → Int32) (sz : Nat) (mn : Nat) (hmn : mn < 7) (hI : IvM sg0) : gc_M l yX3_minutesOf wsX3_minutesOf rmX3_minutesOf_count D vwCl (tyS cI cJ) cI cJ gxT gxN SM [.ref (ad 0), .ref (ad 11), .int (nI mn)] ad sg0 sz 0 0 (fun v sg2 => sg2 = sg0 ∧ ∃ r : Int32, v = some (.int r)) := by
  refine gc_Mi_of (cc := cX3_minutesOf) (maxL := 5) (by decide) rfl (Nat.le_of_ble_eq_true rfl) ?_
  intro p e s m below meth c A ls Q hin hE hret
  obtain ⟨⟨hx, hb, hml, hown, hts⟩, -, hlocks, -, hA, hP, hK, hD, hS, hl⟩ := hin
  have hts : ∀ w ∈ wsAll, w.before ([.ref (ad 0), .ref (ad 11), .int (nI mn)] : List Value).toArray s = true := fun w h => hts w (List.mem_cons_of_mem _ h)
  have hl : lv_has ls 5 [(0, .ref (ad 0)), (1, .ref (ad 11)), (2, .int (nI mn))] := hl
  have hk : KM sg0 sg0 ∧ sg0 = sg0 := ⟨KM.refl hI, rfl⟩
  have c5 : ∀ (n9 : Nat) (i : Nat) (x3 : Int32) (sg : Nat → Nat → Int32) (H : Heap) (locs : List Loc) (ls : Array Slot), mn - i = n9 → i ≤ mn → (KM sg0 sg ∧ sg = sg0) → va_P D vwCl (gw cI cJ ad sg SM) H → va_D A (gw cI cJ ad sg SM) → va_S A s.heap H locs → lv_has ls 5 [(4, .int (nI i)), (3, .int x3), (0, .ref (ad 0)), (1, .ref (ad 11)), (2, .int (nI mn))] → W p l e rmX3_minutesOf_count s m ([.ref (ad 0), .ref (ad 11), .int (nI mn)] : List Value).toArray below meth c H locs 0 0 Q (F0 m 5 ls []) := by
    intro n9
    induction n9 using Nat.strongRecOn with
    | ind n9 ih =>
    intro i x3 sg H locs ls hn h1 hk hP hD hS hl
    subst hn
    refine lv_iload hx hb dX3_minutesOf_5 (lv_at hl 0 rfl) ?_
    refine lv_iload_n hx hb dX3_minutesOf_7 rfl (lv_at hl 4 rfl) ?_
    refine lv_icmp_ge (tgt := 48) hx hb dX3_minutesOf_8 (by decide) (fun hc1 => ?_) (fun hc1 => ?_)
    · have hc1 : mn ≤ i := (nI_leI (a := mn) (b := i) (by omega) (by omega)).mp hc1
      refine lv_iload_n hx hb dX3_minutesOf_48 rfl (lv_at hl 1 rfl) ?_
      exact hret _ _ _ _ _ _ hP hS dX3_minutesOf_49 (⟨hk.2, _, rfl⟩)
    · have hc1 : ¬ (mn ≤ i) := fun q => hc1 ((nI_leI (a := mn) (b := i) (by omega) (by omega)).mpr q)
      refine lv_iload_n hx hb dX3_minutesOf_11 rfl (lv_at hl 1 rfl) ?_
      refine lv_aload_n hx hb dX3_minutesOf_12 rfl (lv_at hl 3 rfl) ?_
      refine lv_iload hx hb dX3_minutesOf_13 (lv_at hl 0 rfl) ?_
      refine gw_ald hx hb hK hP 11 0 (n := 6) rfl rfl (i := i) (by omega) (by decide) dX3_minutesOf_15 ?_
      refine lv_topi (fun v2 hv2 => ?_)
      refine lv_aload_n hx hb dX3_minutesOf_16 rfl (lv_at hl 2 rfl) ?_
      refine gw_getr (C := RX3) (T := TX3) (N := 27) hx hb hts inwX3 hown hK hP 0 5 4 rfl rfl rfl (by decide) (hts _ a156) (fun _ h9 => h9) dX3_minutesOf_17 ?_
      refine lv_iload hx hb dX3_minutesOf_20 (lv_at hl 0 rfl) ?_
      refine gw_ald hx hb hK hP 4 0 (n := 6) rfl rfl (i := i) (by omega) (by decide) dX3_minutesOf_22 ?_
      refine lv_topi (fun v3 hv3 => ?_)
      refine lv_imul hx hb dX3_minutesOf_23 ?_
      refine lv_topi (fun v4 hv4 => ?_)
      refine lv_aload_n hx hb dX3_minutesOf_24 rfl (lv_at hl 3 rfl) ?_
      refine lv_iload hx hb dX3_minutesOf_25 (lv_at hl 0 rfl) ?_
      refine gw_ald hx hb hK hP 11 0 (n := 6) rfl rfl (i := i) (by omega) (by decide) dX3_minutesOf_27 ?_
      refine lv_topi (fun v5 hv5 => ?_)
      refine lv_if_le (tgt := 38) hx hb dX3_minutesOf_28 (by decide) (fun hc6 => ?_) (fun hc6 => ?_)
      · refine lv_iconst (v := (nI 0)) hx hb dX3_minutesOf_38 (by decide) ?_
        refine lv_iadd hx hb dX3_minutesOf_39 ?_
        refine lv_topi (fun v7 hv7 => ?_)
        refine lv_iadd hx hb dX3_minutesOf_40 ?_
        refine lv_topi (fun v8 hv8 => ?_)
        refine lv_istore_n (lv' := [(3, .int v8), (4, .int (nI i)), (0, .ref (ad 0)), (1, .ref (ad 11)), (2, .int (nI mn))]) hx hb dX3_minutesOf_41 rfl hl (by decide) rfl (fun ls hl => ?_)
        refine lv_iinc (k := 1) (v := (nI (i + 1))) (lv' := [(4, .int (nI (i + 1))), (3, .int v8), (0, .ref (ad 0)), (1, .ref (ad 11)), (2, .int (nI mn))]) hx hb dX3_minutesOf_42 hl rfl (nI_1 _) (by decide) rfl (fun ls hl => ?_)
        refine lv_goto (tgt := 5) hx hb dX3_minutesOf_45 (by decide) ?_
        exact ih _ (by omega) (i + 1) v8 _ _ _ _ rfl (by omega) hk hP hD hS (lv_sub hl [0, 1, 2, 3, 4] rfl)
      · refine lv_aload_n hx hb dX3_minutesOf_31 rfl (lv_at hl 2 rfl) ?_
        refine gw_geti (C := RX3) (T := TX3) (N := 27) hx hb hts inwX3 hown hK hP 0 12 rfl rfl rfl (by decide) (hts _ a148) (fun _ h9 => h9) dX3_minutesOf_32 ?_
        refine lv_topi (fun v9 hv9 => ?_)
        refine lv_goto (tgt := 39) hx hb dX3_minutesOf_35 (by decide) ?_
        refine lv_iadd hx hb dX3_minutesOf_39 ?_
        refine lv_topi (fun v10 hv10 => ?_)
        refine lv_iadd hx hb dX3_minutesOf_40 ?_
        refine lv_topi (fun v11 hv11 => ?_)
        refine lv_istore_n (lv' := [(3, .int v11), (4, .int (nI i)), (0, .ref (ad 0)), (1, .ref (ad 11)), (2, .int (nI mn))]) hx hb dX3_minutesOf_41 rfl hl (by decide) rfl (fun ls hl => ?_)
        refine lv_iinc (k := 1) (v := (nI (i + 1))) (lv' := [(4, .int (nI (i + 1))), (3, .int v11), (0, .ref (ad 0)), (1, .ref (ad 11)), (2, .int (nI mn))]) hx hb dX3_minutesOf_42 hl rfl (nI_1 _) (by decide) rfl (fun ls hl => ?_)
        refine lv_goto (tgt := 5) hx hb dX3_minutesOf_45 (by decide) ?_
        exact ih _ (by omega) (i + 1) v11 _ _ _ _ rfl (by omega) hk hP hD hS (lv_sub hl [0, 1, 2, 3, 4] rfl)
  refine lv_iconst (v := (nI 0)) hx hb dX3_minutesOf_0 (by decide) ?_
  refine lv_istore_n (lv' := [(3, .int (nI 0)), (0, .ref (ad 0)), (1, .ref (ad 11)), (2, .int (nI mn))]) hx hb dX3_minutesOf_1 rfl hl (by decide) rfl (fun ls hl => ?_)
  refine lv_iconst (v := (nI 0)) hx hb dX3_minutesOf_2 (by decide) ?_
  refine lv_istore (lv' := [(4, .int (nI 0)), (3, .int (nI 0)), (0, .ref (ad 0)), (1, .ref (ad 11)), (2, .int (nI mn))]) hx hb dX3_minutesOf_3 hl (by decide) rfl (fun ls hl => ?_)
  exact c5 _ 0 (nI 0) _ _ _ _ rfl (by omega) hk hP hD hS (lv_sub hl [0, 1, 2, 3, 4] rfl)
abbrev rmX3_madeOf_count : Room := { frames := 0, cells := 0, slots := 0, locals := 0 }
set_option maxRecDepth 100000 in
set_option maxHeartbeats 4000000 in
theorem m_X3_madeOf_count (l : Launch) (hl9 : l.stackTraces = false) (D : va_G) (cI : ClassId) (cJ : ClassId × ClassId) (ad : Nat → Nat) (sg0 : Nat → Nat → Int32) (sz : Nat) (pr : Nat) (hpr : pr < 4) (hI : IvM sg0) : gc_M l yX3_madeOf wsX3_madeOf rmX3_madeOf_count D vwCl (tyS cI cJ) cI cJ gxT gxN SM [.ref (ad 0), .ref (ad 11), .int (nI pr)] ad sg0 sz 0 0 (fun v sg2 => sg2 = sg0 ∧ ∃ r : Int32, v = some (.int r)) := by
  refine gc_Mi_of (cc := cX3_madeOf) (maxL := 5) (by decide) rfl (Nat.le_of_ble_eq_true rfl) ?_
  intro p e s m below meth c A ls Q hin hE hret
  obtain ⟨⟨hx, hb, hml, hown, hts⟩, -, hlocks, -, hA, hP, hK, hD, hS, hl⟩ := hin
  have hts : ∀ w ∈ wsAll, w.before ([.ref (ad 0), .ref (ad 11), .int (nI pr)] : List Value).toArray s = true := fun w h => hts w (List.mem_cons_of_mem _ h)
  have hl : lv_has ls 5 [(0, .ref (ad 0)), (1, .ref (ad 11)), (2, .int (nI pr))] := hl
  have hk : KM sg0 sg0 ∧ sg0 = sg0 := ⟨KM.refl hI, rfl⟩
  have c10 : ∀ (n9 : Nat) (i : Nat) (x3 : Int32) (sg : Nat → Nat → Int32) (H : Heap) (locs : List Loc) (ls : Array Slot), 6 - i = n9 → i ≤ 6 → (KM sg0 sg ∧ sg = sg0) → va_P D vwCl (gw cI cJ ad sg SM) H → va_D A (gw cI cJ ad sg SM) → va_S A s.heap H locs → lv_has ls 5 [(4, .int (nI i)), (3, .int x3), (0, .ref (ad 0)), (1, .ref (ad 11)), (2, .int (nI pr))] → W p l e rmX3_madeOf_count s m ([.ref (ad 0), .ref (ad 11), .int (nI pr)] : List Value).toArray below meth c H locs 0 0 Q (F0 m 10 ls []) := by
    intro n9
    induction n9 using Nat.strongRecOn with
    | ind n9 ih =>
    intro i x3 sg H locs ls hn h1 hk hP hD hS hl
    subst hn
    refine lv_iload hx hb dX3_madeOf_10 (lv_at hl 0 rfl) ?_
    refine lv_aload_n hx hb dX3_madeOf_12 rfl (lv_at hl 2 rfl) ?_
    refine gw_geti (C := RX3) (T := TX3) (N := 27) hx hb hts inwX3 hown hK hP 0 3 rfl rfl rfl (by decide) (hts _ a149) (fun _ h9 => h9) dX3_madeOf_13 ?_
    obtain ⟨N1, hN1, eN1⟩ := hk.1.1.1
    refine gw_top (y := (nI N1)) (eN1) ?_
    refine lv_icmp_ge (tgt := 44) hx hb dX3_madeOf_16 (by decide) (fun hc2 => ?_) (fun hc2 => ?_)
    · have hc2 : N1 ≤ i := (nI_leI (a := N1) (b := i) (by omega) (by omega)).mp hc2
      refine lv_iload_n hx hb dX3_madeOf_44 rfl (lv_at hl 1 rfl) ?_
      exact hret _ _ _ _ _ _ hP hS dX3_madeOf_45 (⟨hk.2, _, rfl⟩)
    · have hc2 : ¬ (N1 ≤ i) := fun q => hc2 ((nI_leI (a := N1) (b := i) (by omega) (by omega)).mpr q)
      refine lv_iload_n hx hb dX3_madeOf_19 rfl (lv_at hl 1 rfl) ?_
      refine lv_aload_n hx hb dX3_madeOf_20 rfl (lv_at hl 3 rfl) ?_
      refine lv_iload hx hb dX3_madeOf_21 (lv_at hl 0 rfl) ?_
      refine gw_ald hx hb hK hP 11 0 (n := 6) rfl rfl (i := i) (by omega) (by decide) dX3_madeOf_23 ?_
      refine lv_topi (fun v3 hv3 => ?_)
      refine lv_aload_n hx hb dX3_madeOf_24 rfl (lv_at hl 2 rfl) ?_
      refine gw_getr (C := RX3) (T := TX3) (N := 27) hx hb hts inwX3 hown hK hP 0 6 5 rfl rfl rfl (by decide) (hts _ a154) (fun _ h9 => h9) dX3_madeOf_25 ?_
      refine lv_iconst (v := (nI 4)) hx hb dX3_madeOf_28 (by decide) ?_
      refine lv_iload hx hb dX3_madeOf_29 (lv_at hl 0 rfl) ?_
      refine lv_imul hx hb dX3_madeOf_31 ?_
      refine gw_top (y := (nI (4 * i))) (nI_mul _ _) ?_
      refine lv_iload_n hx hb dX3_madeOf_32 rfl (lv_at hl 4 rfl) ?_
      refine lv_iadd hx hb dX3_madeOf_33 ?_
      refine gw_top (y := (nI ((4 * i) + pr))) (nI_add _ _) ?_
      refine gw_ald hx hb hK hP 5 0 (n := 24) rfl rfl (i := (4 * i) + pr) (by omega) (by decide) dX3_madeOf_34 ?_
      refine lv_topi (fun v4 hv4 => ?_)
      refine lv_imul hx hb dX3_madeOf_35 ?_
      refine lv_topi (fun v5 hv5 => ?_)
      refine lv_iadd hx hb dX3_madeOf_36 ?_
      refine lv_topi (fun v6 hv6 => ?_)
      refine lv_istore_n (lv' := [(3, .int v6), (4, .int (nI i)), (0, .ref (ad 0)), (1, .ref (ad 11)), (2, .int (nI pr))]) hx hb dX3_madeOf_37 rfl hl (by decide) rfl (fun ls hl => ?_)
      refine lv_iinc (k := 1) (v := (nI (i + 1))) (lv' := [(4, .int (nI (i + 1))), (3, .int v6), (0, .ref (ad 0)), (1, .ref (ad 11)), (2, .int (nI pr))]) hx hb dX3_madeOf_38 hl rfl (nI_1 _) (by decide) rfl (fun ls hl => ?_)
      refine lv_goto (tgt := 10) hx hb dX3_madeOf_41 (by decide) ?_
      exact ih _ (by omega) (i + 1) v6 _ _ _ _ rfl (by omega) hk hP hD hS (lv_sub hl [0, 1, 2, 3, 4] rfl)
  refine lv_aload_n hx hb dX3_madeOf_0 rfl (lv_at hl 0 rfl) ?_
  refine gw_getr (C := RX3) (T := TX3) (N := 27) hx hb hts inwX3 hown hK hP 0 10 9 rfl rfl rfl (by decide) (hts _ a157) (fun _ h9 => h9) dX3_madeOf_1 ?_
  refine lv_iload_n hx hb dX3_madeOf_4 rfl (lv_at hl 2 rfl) ?_
  refine gw_ald hx hb hK hP 9 0 (n := 4) rfl rfl (i := pr) (by omega) (by decide) dX3_madeOf_5 ?_
  refine lv_topi (fun v7 hv7 => ?_)
  refine lv_istore_n (lv' := [(3, .int v7), (0, .ref (ad 0)), (1, .ref (ad 11)), (2, .int (nI pr))]) hx hb dX3_madeOf_6 rfl hl (by decide) rfl (fun ls hl => ?_)
  refine lv_iconst (v := (nI 0)) hx hb dX3_madeOf_7 (by decide) ?_
  refine lv_istore (lv' := [(4, .int (nI 0)), (3, .int v7), (0, .ref (ad 0)), (1, .ref (ad 11)), (2, .int (nI pr))]) hx hb dX3_madeOf_8 hl (by decide) rfl (fun ls hl => ?_)
  exact c10 _ 0 v7 _ _ _ _ rfl (by omega) hk hP hD hS (lv_sub hl [0, 1, 2, 3, 4] rfl)
abbrev rmX3_minutesOf_plan : Room := { frames := 0, cells := 0, slots := 0, locals := 0 }
set_option maxRecDepth 100000 in
set_option maxHeartbeats 4000000 in
theorem m_X3_minutesOf_plan (l : Launch) (hl9 : l.stackTraces = false) (D : va_G) (cI : ClassId) (cJ : ClassId × ClassId) (ad : Nat → Nat) (sg0 : Nat → Nat → Int32) (sz : Nat) (mn : Nat) (hmn : mn < 7) (hI : IvM sg0) : gc_M l yX3_minutesOf wsX3_minutesOf rmX3_minutesOf_plan D vwCl (tyS cI cJ) cI cJ gxT gxN SM [.ref (ad 0), .ref (ad 10), .int (nI mn)] ad sg0 sz 0 0 (fun v sg2 => sg2 = sg0 ∧ ∃ r : Int32, v = some (.int r)) := by
  refine gc_Mi_of (cc := cX3_minutesOf) (maxL := 5) (by decide) rfl (Nat.le_of_ble_eq_true rfl) ?_
  intro p e s m below meth c A ls Q hin hE hret
  obtain ⟨⟨hx, hb, hml, hown, hts⟩, -, hlocks, -, hA, hP, hK, hD, hS, hl⟩ := hin
  have hts : ∀ w ∈ wsAll, w.before ([.ref (ad 0), .ref (ad 10), .int (nI mn)] : List Value).toArray s = true := fun w h => hts w (List.mem_cons_of_mem _ h)
  have hl : lv_has ls 5 [(0, .ref (ad 0)), (1, .ref (ad 10)), (2, .int (nI mn))] := hl
  have hk : KM sg0 sg0 ∧ sg0 = sg0 := ⟨KM.refl hI, rfl⟩
  have c5 : ∀ (n9 : Nat) (i : Nat) (x3 : Int32) (sg : Nat → Nat → Int32) (H : Heap) (locs : List Loc) (ls : Array Slot), mn - i = n9 → i ≤ mn → (KM sg0 sg ∧ sg = sg0) → va_P D vwCl (gw cI cJ ad sg SM) H → va_D A (gw cI cJ ad sg SM) → va_S A s.heap H locs → lv_has ls 5 [(4, .int (nI i)), (3, .int x3), (0, .ref (ad 0)), (1, .ref (ad 10)), (2, .int (nI mn))] → W p l e rmX3_minutesOf_plan s m ([.ref (ad 0), .ref (ad 10), .int (nI mn)] : List Value).toArray below meth c H locs 0 0 Q (F0 m 5 ls []) := by
    intro n9
    induction n9 using Nat.strongRecOn with
    | ind n9 ih =>
    intro i x3 sg H locs ls hn h1 hk hP hD hS hl
    subst hn
    refine lv_iload hx hb dX3_minutesOf_5 (lv_at hl 0 rfl) ?_
    refine lv_iload_n hx hb dX3_minutesOf_7 rfl (lv_at hl 4 rfl) ?_
    refine lv_icmp_ge (tgt := 48) hx hb dX3_minutesOf_8 (by decide) (fun hc1 => ?_) (fun hc1 => ?_)
    · have hc1 : mn ≤ i := (nI_leI (a := mn) (b := i) (by omega) (by omega)).mp hc1
      refine lv_iload_n hx hb dX3_minutesOf_48 rfl (lv_at hl 1 rfl) ?_
      exact hret _ _ _ _ _ _ hP hS dX3_minutesOf_49 (⟨hk.2, _, rfl⟩)
    · have hc1 : ¬ (mn ≤ i) := fun q => hc1 ((nI_leI (a := mn) (b := i) (by omega) (by omega)).mpr q)
      refine lv_iload_n hx hb dX3_minutesOf_11 rfl (lv_at hl 1 rfl) ?_
      refine lv_aload_n hx hb dX3_minutesOf_12 rfl (lv_at hl 3 rfl) ?_
      refine lv_iload hx hb dX3_minutesOf_13 (lv_at hl 0 rfl) ?_
      refine gw_ald hx hb hK hP 10 0 (n := 6) rfl rfl (i := i) (by omega) (by decide) dX3_minutesOf_15 ?_
      refine lv_topi (fun v2 hv2 => ?_)
      refine lv_aload_n hx hb dX3_minutesOf_16 rfl (lv_at hl 2 rfl) ?_
      refine gw_getr (C := RX3) (T := TX3) (N := 27) hx hb hts inwX3 hown hK hP 0 5 4 rfl rfl rfl (by decide) (hts _ a156) (fun _ h9 => h9) dX3_minutesOf_17 ?_
      refine lv_iload hx hb dX3_minutesOf_20 (lv_at hl 0 rfl) ?_
      refine gw_ald hx hb hK hP 4 0 (n := 6) rfl rfl (i := i) (by omega) (by decide) dX3_minutesOf_22 ?_
      refine lv_topi (fun v3 hv3 => ?_)
      refine lv_imul hx hb dX3_minutesOf_23 ?_
      refine lv_topi (fun v4 hv4 => ?_)
      refine lv_aload_n hx hb dX3_minutesOf_24 rfl (lv_at hl 3 rfl) ?_
      refine lv_iload hx hb dX3_minutesOf_25 (lv_at hl 0 rfl) ?_
      refine gw_ald hx hb hK hP 10 0 (n := 6) rfl rfl (i := i) (by omega) (by decide) dX3_minutesOf_27 ?_
      refine lv_topi (fun v5 hv5 => ?_)
      refine lv_if_le (tgt := 38) hx hb dX3_minutesOf_28 (by decide) (fun hc6 => ?_) (fun hc6 => ?_)
      · refine lv_iconst (v := (nI 0)) hx hb dX3_minutesOf_38 (by decide) ?_
        refine lv_iadd hx hb dX3_minutesOf_39 ?_
        refine lv_topi (fun v7 hv7 => ?_)
        refine lv_iadd hx hb dX3_minutesOf_40 ?_
        refine lv_topi (fun v8 hv8 => ?_)
        refine lv_istore_n (lv' := [(3, .int v8), (4, .int (nI i)), (0, .ref (ad 0)), (1, .ref (ad 10)), (2, .int (nI mn))]) hx hb dX3_minutesOf_41 rfl hl (by decide) rfl (fun ls hl => ?_)
        refine lv_iinc (k := 1) (v := (nI (i + 1))) (lv' := [(4, .int (nI (i + 1))), (3, .int v8), (0, .ref (ad 0)), (1, .ref (ad 10)), (2, .int (nI mn))]) hx hb dX3_minutesOf_42 hl rfl (nI_1 _) (by decide) rfl (fun ls hl => ?_)
        refine lv_goto (tgt := 5) hx hb dX3_minutesOf_45 (by decide) ?_
        exact ih _ (by omega) (i + 1) v8 _ _ _ _ rfl (by omega) hk hP hD hS (lv_sub hl [0, 1, 2, 3, 4] rfl)
      · refine lv_aload_n hx hb dX3_minutesOf_31 rfl (lv_at hl 2 rfl) ?_
        refine gw_geti (C := RX3) (T := TX3) (N := 27) hx hb hts inwX3 hown hK hP 0 12 rfl rfl rfl (by decide) (hts _ a148) (fun _ h9 => h9) dX3_minutesOf_32 ?_
        refine lv_topi (fun v9 hv9 => ?_)
        refine lv_goto (tgt := 39) hx hb dX3_minutesOf_35 (by decide) ?_
        refine lv_iadd hx hb dX3_minutesOf_39 ?_
        refine lv_topi (fun v10 hv10 => ?_)
        refine lv_iadd hx hb dX3_minutesOf_40 ?_
        refine lv_topi (fun v11 hv11 => ?_)
        refine lv_istore_n (lv' := [(3, .int v11), (4, .int (nI i)), (0, .ref (ad 0)), (1, .ref (ad 10)), (2, .int (nI mn))]) hx hb dX3_minutesOf_41 rfl hl (by decide) rfl (fun ls hl => ?_)
        refine lv_iinc (k := 1) (v := (nI (i + 1))) (lv' := [(4, .int (nI (i + 1))), (3, .int v11), (0, .ref (ad 0)), (1, .ref (ad 10)), (2, .int (nI mn))]) hx hb dX3_minutesOf_42 hl rfl (nI_1 _) (by decide) rfl (fun ls hl => ?_)
        refine lv_goto (tgt := 5) hx hb dX3_minutesOf_45 (by decide) ?_
        exact ih _ (by omega) (i + 1) v11 _ _ _ _ rfl (by omega) hk hP hD hS (lv_sub hl [0, 1, 2, 3, 4] rfl)
  refine lv_iconst (v := (nI 0)) hx hb dX3_minutesOf_0 (by decide) ?_
  refine lv_istore_n (lv' := [(3, .int (nI 0)), (0, .ref (ad 0)), (1, .ref (ad 10)), (2, .int (nI mn))]) hx hb dX3_minutesOf_1 rfl hl (by decide) rfl (fun ls hl => ?_)
  refine lv_iconst (v := (nI 0)) hx hb dX3_minutesOf_2 (by decide) ?_
  refine lv_istore (lv' := [(4, .int (nI 0)), (3, .int (nI 0)), (0, .ref (ad 0)), (1, .ref (ad 10)), (2, .int (nI mn))]) hx hb dX3_minutesOf_3 hl (by decide) rfl (fun ls hl => ?_)
  exact c5 _ 0 (nI 0) _ _ _ _ rfl (by omega) hk hP hD hS (lv_sub hl [0, 1, 2, 3, 4] rfl)
abbrev rmX3_madeOf_plan : Room := { frames := 0, cells := 0, slots := 0, locals := 0 }
set_option maxRecDepth 100000 in
set_option maxHeartbeats 4000000 in
theorem m_X3_madeOf_plan (l : Launch) (hl9 : l.stackTraces = false) (D : va_G) (cI : ClassId) (cJ : ClassId × ClassId) (ad : Nat → Nat) (sg0 : Nat → Nat → Int32) (sz : Nat) (pr : Nat) (hpr : pr < 4) (hI : IvM sg0) : gc_M l yX3_madeOf wsX3_madeOf rmX3_madeOf_plan D vwCl (tyS cI cJ) cI cJ gxT gxN SM [.ref (ad 0), .ref (ad 10), .int (nI pr)] ad sg0 sz 0 0 (fun v sg2 => sg2 = sg0 ∧ ∃ r : Int32, v = some (.int r)) := by
  refine gc_Mi_of (cc := cX3_madeOf) (maxL := 5) (by decide) rfl (Nat.le_of_ble_eq_true rfl) ?_
  intro p e s m below meth c A ls Q hin hE hret
  obtain ⟨⟨hx, hb, hml, hown, hts⟩, -, hlocks, -, hA, hP, hK, hD, hS, hl⟩ := hin
  have hts : ∀ w ∈ wsAll, w.before ([.ref (ad 0), .ref (ad 10), .int (nI pr)] : List Value).toArray s = true := fun w h => hts w (List.mem_cons_of_mem _ h)
  have hl : lv_has ls 5 [(0, .ref (ad 0)), (1, .ref (ad 10)), (2, .int (nI pr))] := hl
  have hk : KM sg0 sg0 ∧ sg0 = sg0 := ⟨KM.refl hI, rfl⟩
  have c10 : ∀ (n9 : Nat) (i : Nat) (x3 : Int32) (sg : Nat → Nat → Int32) (H : Heap) (locs : List Loc) (ls : Array Slot), 6 - i = n9 → i ≤ 6 → (KM sg0 sg ∧ sg = sg0) → va_P D vwCl (gw cI cJ ad sg SM) H → va_D A (gw cI cJ ad sg SM) → va_S A s.heap H locs → lv_has ls 5 [(4, .int (nI i)), (3, .int x3), (0, .ref (ad 0)), (1, .ref (ad 10)), (2, .int (nI pr))] → W p l e rmX3_madeOf_plan s m ([.ref (ad 0), .ref (ad 10), .int (nI pr)] : List Value).toArray below meth c H locs 0 0 Q (F0 m 10 ls []) := by
    intro n9
    induction n9 using Nat.strongRecOn with
    | ind n9 ih =>
    intro i x3 sg H locs ls hn h1 hk hP hD hS hl
    subst hn
    refine lv_iload hx hb dX3_madeOf_10 (lv_at hl 0 rfl) ?_
    refine lv_aload_n hx hb dX3_madeOf_12 rfl (lv_at hl 2 rfl) ?_
    refine gw_geti (C := RX3) (T := TX3) (N := 27) hx hb hts inwX3 hown hK hP 0 3 rfl rfl rfl (by decide) (hts _ a149) (fun _ h9 => h9) dX3_madeOf_13 ?_
    obtain ⟨N1, hN1, eN1⟩ := hk.1.1.1
    refine gw_top (y := (nI N1)) (eN1) ?_
    refine lv_icmp_ge (tgt := 44) hx hb dX3_madeOf_16 (by decide) (fun hc2 => ?_) (fun hc2 => ?_)
    · have hc2 : N1 ≤ i := (nI_leI (a := N1) (b := i) (by omega) (by omega)).mp hc2
      refine lv_iload_n hx hb dX3_madeOf_44 rfl (lv_at hl 1 rfl) ?_
      exact hret _ _ _ _ _ _ hP hS dX3_madeOf_45 (⟨hk.2, _, rfl⟩)
    · have hc2 : ¬ (N1 ≤ i) := fun q => hc2 ((nI_leI (a := N1) (b := i) (by omega) (by omega)).mpr q)
      refine lv_iload_n hx hb dX3_madeOf_19 rfl (lv_at hl 1 rfl) ?_
      refine lv_aload_n hx hb dX3_madeOf_20 rfl (lv_at hl 3 rfl) ?_
      refine lv_iload hx hb dX3_madeOf_21 (lv_at hl 0 rfl) ?_
      refine gw_ald hx hb hK hP 10 0 (n := 6) rfl rfl (i := i) (by omega) (by decide) dX3_madeOf_23 ?_
      refine lv_topi (fun v3 hv3 => ?_)
      refine lv_aload_n hx hb dX3_madeOf_24 rfl (lv_at hl 2 rfl) ?_
      refine gw_getr (C := RX3) (T := TX3) (N := 27) hx hb hts inwX3 hown hK hP 0 6 5 rfl rfl rfl (by decide) (hts _ a154) (fun _ h9 => h9) dX3_madeOf_25 ?_
      refine lv_iconst (v := (nI 4)) hx hb dX3_madeOf_28 (by decide) ?_
      refine lv_iload hx hb dX3_madeOf_29 (lv_at hl 0 rfl) ?_
      refine lv_imul hx hb dX3_madeOf_31 ?_
      refine gw_top (y := (nI (4 * i))) (nI_mul _ _) ?_
      refine lv_iload_n hx hb dX3_madeOf_32 rfl (lv_at hl 4 rfl) ?_
      refine lv_iadd hx hb dX3_madeOf_33 ?_
      refine gw_top (y := (nI ((4 * i) + pr))) (nI_add _ _) ?_
      refine gw_ald hx hb hK hP 5 0 (n := 24) rfl rfl (i := (4 * i) + pr) (by omega) (by decide) dX3_madeOf_34 ?_
      refine lv_topi (fun v4 hv4 => ?_)
      refine lv_imul hx hb dX3_madeOf_35 ?_
      refine lv_topi (fun v5 hv5 => ?_)
      refine lv_iadd hx hb dX3_madeOf_36 ?_
      refine lv_topi (fun v6 hv6 => ?_)
      refine lv_istore_n (lv' := [(3, .int v6), (4, .int (nI i)), (0, .ref (ad 0)), (1, .ref (ad 10)), (2, .int (nI pr))]) hx hb dX3_madeOf_37 rfl hl (by decide) rfl (fun ls hl => ?_)
      refine lv_iinc (k := 1) (v := (nI (i + 1))) (lv' := [(4, .int (nI (i + 1))), (3, .int v6), (0, .ref (ad 0)), (1, .ref (ad 10)), (2, .int (nI pr))]) hx hb dX3_madeOf_38 hl rfl (nI_1 _) (by decide) rfl (fun ls hl => ?_)
      refine lv_goto (tgt := 10) hx hb dX3_madeOf_41 (by decide) ?_
      exact ih _ (by omega) (i + 1) v6 _ _ _ _ rfl (by omega) hk hP hD hS (lv_sub hl [0, 1, 2, 3, 4] rfl)
  refine lv_aload_n hx hb dX3_madeOf_0 rfl (lv_at hl 0 rfl) ?_
  refine gw_getr (C := RX3) (T := TX3) (N := 27) hx hb hts inwX3 hown hK hP 0 10 9 rfl rfl rfl (by decide) (hts _ a157) (fun _ h9 => h9) dX3_madeOf_1 ?_
  refine lv_iload_n hx hb dX3_madeOf_4 rfl (lv_at hl 2 rfl) ?_
  refine gw_ald hx hb hK hP 9 0 (n := 4) rfl rfl (i := pr) (by omega) (by decide) dX3_madeOf_5 ?_
  refine lv_topi (fun v7 hv7 => ?_)
  refine lv_istore_n (lv' := [(3, .int v7), (0, .ref (ad 0)), (1, .ref (ad 10)), (2, .int (nI pr))]) hx hb dX3_madeOf_6 rfl hl (by decide) rfl (fun ls hl => ?_)
  refine lv_iconst (v := (nI 0)) hx hb dX3_madeOf_7 (by decide) ?_
  refine lv_istore (lv' := [(4, .int (nI 0)), (3, .int v7), (0, .ref (ad 0)), (1, .ref (ad 10)), (2, .int (nI pr))]) hx hb dX3_madeOf_8 hl (by decide) rfl (fun ls hl => ?_)
  exact c10 _ 0 v7 _ _ _ _ rfl (by omega) hk hP hD hS (lv_sub hl [0, 1, 2, 3, 4] rfl)
abbrev rmX3_fits : Room := { frames := 1, cells := 0, slots := 0, locals := 24 }
set_option maxRecDepth 100000 in
set_option maxHeartbeats 4000000 in
theorem m_X3_fits (l : Launch) (hl9 : l.stackTraces = false) (D : va_G) (cI : ClassId) (cJ : ClassId × ClassId) (ad : Nat → Nat) (sg0 : Nat → Nat → Int32) (sz : Nat) (mn : Nat) (hmn : mn < 7) (hI : IvM sg0) : gc_M l yX3_fits wsX3_fits rmX3_fits D vwCl (tyS cI cJ) cI cJ gxT gxN SM [.ref (ad 0), .int (nI mn)] ad sg0 sz 0 0 (fun v sg2 => sg2 = sg0 ∧ ∃ r : Int32, v = some (.int r)) := by
  refine gc_Mz_of (cc := cX3_fits) (maxL := 5) (by decide) rfl (Nat.le_of_ble_eq_true rfl) ?_
  intro p e s m below meth c A ls Q hin hE hret
  obtain ⟨⟨hx, hb, hml, hown, hts⟩, -, hlocks, -, hA, hP, hK, hD, hS, hl⟩ := hin
  have hts : ∀ w ∈ wsAll, w.before ([.ref (ad 0), .int (nI mn)] : List Value).toArray s = true := fun w h => hts w (List.mem_cons_of_mem _ h)
  have hl : lv_has ls 5 [(0, .ref (ad 0)), (1, .int (nI mn))] := hl
  have hk : KM sg0 sg0 ∧ sg0 = sg0 := ⟨KM.refl hI, rfl⟩
  have c30 : ∀ (cq : Nat), (∀ (x3 : Int32) (sg : Nat → Nat → Int32) (H : Heap) (locs : List Loc) (ls : Array Slot), (KM sg0 sg ∧ sg = sg0) → va_P D vwCl (gw cI cJ ad sg SM) H → va_D A (gw cI cJ ad sg SM) → va_S A s.heap H locs → lv_has ls 5 [(3, .int x3), (2, .int (nI cq)), (0, .ref (ad 0)), (1, .int (nI mn))] → W p l e rmX3_fits s m ([.ref (ad 0), .int (nI mn)] : List Value).toArray below meth c H locs 0 0 Q (F0 m 67 ls [])) → ∀ (n9 : Nat) (i : Nat) (x3 : Int32) (sg : Nat → Nat → Int32) (H : Heap) (locs : List Loc) (ls : Array Slot), mn - i = n9 → i ≤ mn → cq < 4 → (KM sg0 sg ∧ sg = sg0) → va_P D vwCl (gw cI cJ ad sg SM) H → va_D A (gw cI cJ ad sg SM) → va_S A s.heap H locs → lv_has ls 5 [(4, .int (nI i)), (3, .int x3), (2, .int (nI cq)), (0, .ref (ad 0)), (1, .int (nI mn))] → W p l e rmX3_fits s m ([.ref (ad 0), .int (nI mn)] : List Value).toArray below meth c H locs 0 0 Q (F0 m 30 ls []) := by
    intro cq hx9
    intro n9
    induction n9 using Nat.strongRecOn with
    | ind n9 ih =>
    intro i x3 sg H locs ls hn h1 h2 hk hP hD hS hl
    subst hn
    refine lv_iload hx hb dX3_fits_30 (lv_at hl 0 rfl) ?_
    refine lv_iload_n hx hb dX3_fits_32 rfl (lv_at hl 4 rfl) ?_
    refine lv_icmp_ge (tgt := 67) hx hb dX3_fits_33 (by decide) (fun hc1 => ?_) (fun hc1 => ?_)
    · have hc1 : mn ≤ i := (nI_leI (a := mn) (b := i) (by omega) (by omega)).mp hc1
      exact hx9 x3 _ _ _ _ hk hP hD hS (lv_sub hl [1, 2, 3, 4] rfl)
    · have hc1 : ¬ (mn ≤ i) := fun q => hc1 ((nI_leI (a := mn) (b := i) (by omega) (by omega)).mpr q)
      refine lv_iload_n hx hb dX3_fits_36 rfl (lv_at hl 1 rfl) ?_
      refine lv_aload_n hx hb dX3_fits_37 rfl (lv_at hl 3 rfl) ?_
      refine gw_getr (C := RX3) (T := TX3) (N := 27) hx hb hts inwX3 hown hK hP 0 4 3 rfl rfl rfl (by decide) (hts _ a155) (fun _ h9 => h9) dX3_fits_38 ?_
      refine lv_iload hx hb dX3_fits_41 (lv_at hl 0 rfl) ?_
      refine gw_ald hx hb hK hP 3 0 (n := 6) rfl rfl (i := i) (by omega) (by decide) dX3_fits_43 ?_
      obtain ⟨cf2, hcf2, ecf2⟩ := hk.1.1.2.1 i (by omega)
      refine gw_top (y := (nI cf2)) (ecf2) ?_
      refine lv_iload_n hx hb dX3_fits_44 rfl (lv_at hl 2 rfl) ?_
      refine lv_icmp_ne (tgt := 58) hx hb dX3_fits_45 (by decide) (fun hc3 => ?_) (fun hc3 => ?_)
      · have hc3 : ¬ (cf2 = cq) := fun q => hc3 ((nI_eq (a := cf2) (b := cq) (by omega) (by omega)).mpr q)
        refine lv_iconst (v := (nI 0)) hx hb dX3_fits_58 (by decide) ?_
        refine lv_iadd hx hb dX3_fits_59 ?_
        refine lv_topi (fun v4 hv4 => ?_)
        refine lv_istore_n (lv' := [(3, .int v4), (4, .int (nI i)), (2, .int (nI cq)), (0, .ref (ad 0)), (1, .int (nI mn))]) hx hb dX3_fits_60 rfl hl (by decide) rfl (fun ls hl => ?_)
        refine lv_iinc (k := 1) (v := (nI (i + 1))) (lv' := [(4, .int (nI (i + 1))), (3, .int v4), (2, .int (nI cq)), (0, .ref (ad 0)), (1, .int (nI mn))]) hx hb dX3_fits_61 hl rfl (nI_1 _) (by decide) rfl (fun ls hl => ?_)
        refine lv_goto (tgt := 30) hx hb dX3_fits_64 (by decide) ?_
        exact ih _ (by omega) (i + 1) v4 _ _ _ _ rfl (by omega) (by omega) hk hP hD hS (lv_sub hl [0, 1, 2, 3, 4] rfl)
      · have hc3 : cf2 = cq := (nI_eq (a := cf2) (b := cq) (by omega) (by omega)).mp hc3
        refine lv_aload_n hx hb dX3_fits_48 rfl (lv_at hl 3 rfl) ?_
        refine gw_getr (C := RX3) (T := TX3) (N := 27) hx hb hts inwX3 hown hK hP 0 21 11 rfl rfl rfl (by decide) (hts _ a158) (fun _ h9 => h9) dX3_fits_49 ?_
        refine lv_iload hx hb dX3_fits_52 (lv_at hl 0 rfl) ?_
        refine gw_ald hx hb hK hP 11 0 (n := 6) rfl rfl (i := i) (by omega) (by decide) dX3_fits_54 ?_
        refine lv_topi (fun v5 hv5 => ?_)
        refine lv_goto (tgt := 59) hx hb dX3_fits_55 (by decide) ?_
        refine lv_iadd hx hb dX3_fits_59 ?_
        refine lv_topi (fun v6 hv6 => ?_)
        refine lv_istore_n (lv' := [(3, .int v6), (4, .int (nI i)), (2, .int (nI cq)), (0, .ref (ad 0)), (1, .int (nI mn))]) hx hb dX3_fits_60 rfl hl (by decide) rfl (fun ls hl => ?_)
        refine lv_iinc (k := 1) (v := (nI (i + 1))) (lv' := [(4, .int (nI (i + 1))), (3, .int v6), (2, .int (nI cq)), (0, .ref (ad 0)), (1, .int (nI mn))]) hx hb dX3_fits_61 hl rfl (nI_1 _) (by decide) rfl (fun ls hl => ?_)
        refine lv_goto (tgt := 30) hx hb dX3_fits_64 (by decide) ?_
        exact ih _ (by omega) (i + 1) v6 _ _ _ _ rfl (by omega) (by omega) hk hP hD hS (lv_sub hl [0, 1, 2, 3, 4] rfl)
  have c20 : ∀ (n9 : Nat) (cq : Nat) (sg : Nat → Nat → Int32) (H : Heap) (locs : List Loc) (ls : Array Slot), 4 - cq = n9 → cq ≤ 4 → (KM sg0 sg ∧ sg = sg0) → va_P D vwCl (gw cI cJ ad sg SM) H → va_D A (gw cI cJ ad sg SM) → va_S A s.heap H locs → lv_has ls 5 [(2, .int (nI cq)), (0, .ref (ad 0)), (1, .int (nI mn))] → W p l e rmX3_fits s m ([.ref (ad 0), .int (nI mn)] : List Value).toArray below meth c H locs 0 0 Q (F0 m 20 ls []) := by
    intro n9
    induction n9 using Nat.strongRecOn with
    | ind n9 ih =>
    intro cq sg H locs ls hn h1 hk hP hD hS hl
    subst hn
    refine lv_iload_n hx hb dX3_fits_20 rfl (lv_at hl 0 rfl) ?_
    refine lv_iconst (v := (nI 4)) hx hb dX3_fits_21 (by decide) ?_
    refine lv_icmp_ge (tgt := 85) hx hb dX3_fits_22 (by decide) (fun hc7 => ?_) (fun hc7 => ?_)
    · have hc7 : 4 ≤ cq := (nI_leI (a := 4) (b := cq) (by omega) (by omega)).mp hc7
      refine lv_iconst (v := (nI 1)) hx hb dX3_fits_85 (by decide) ?_
      exact hret _ _ _ _ _ _ hP hS dX3_fits_86 rfl (⟨hk.2, _, rfl⟩)
    · have hc7 : ¬ (4 ≤ cq) := fun q => hc7 ((nI_leI (a := 4) (b := cq) (by omega) (by omega)).mpr q)
      refine lv_iconst (v := (nI 0)) hx hb dX3_fits_25 (by decide) ?_
      refine lv_istore_n (lv' := [(3, .int (nI 0)), (2, .int (nI cq)), (0, .ref (ad 0)), (1, .int (nI mn))]) hx hb dX3_fits_26 rfl hl (by decide) rfl (fun ls hl => ?_)
      refine lv_iconst (v := (nI 0)) hx hb dX3_fits_27 (by decide) ?_
      refine lv_istore (lv' := [(4, .int (nI 0)), (3, .int (nI 0)), (2, .int (nI cq)), (0, .ref (ad 0)), (1, .int (nI mn))]) hx hb dX3_fits_28 hl (by decide) rfl (fun ls hl => ?_)
      refine c30 cq (fun x3 sg H locs ls hk hP hD hS hl => ?_) _ 0 (nI 0) _ _ _ _ rfl (by omega) (by omega) hk hP hD hS (lv_sub hl [0, 1, 2, 3, 4] rfl)
      refine lv_iload_n hx hb dX3_fits_67 rfl (lv_at hl 0 rfl) ?_
      refine lv_aload_n hx hb dX3_fits_68 rfl (lv_at hl 2 rfl) ?_
      refine gw_getr (C := RX3) (T := TX3) (N := 27) hx hb hts inwX3 hown hK hP 0 1 1 rfl rfl rfl (by decide) (hts _ a138) (fun _ h9 => h9) dX3_fits_69 ?_
      refine lv_iload_n hx hb dX3_fits_72 rfl (lv_at hl 1 rfl) ?_
      refine gw_ald hx hb hK hP 1 0 (n := 4) rfl rfl (i := cq) (by omega) (by decide) dX3_fits_73 ?_
      refine lv_topi (fun v8 hv8 => ?_)
      refine lv_icmp_le (tgt := 79) hx hb dX3_fits_74 (by decide) (fun hc9 => ?_) (fun hc9 => ?_)
      · refine lv_iinc (k := 1) (v := (nI (cq + 1))) (lv' := [(2, .int (nI (cq + 1))), (3, .int x3), (0, .ref (ad 0)), (1, .int (nI mn))]) hx hb dX3_fits_79 hl rfl (nI_1 _) (by decide) rfl (fun ls hl => ?_)
        refine lv_goto (tgt := 20) hx hb dX3_fits_82 (by decide) ?_
        exact ih _ (by omega) (cq + 1) _ _ _ _ rfl (by omega) hk hP hD hS (lv_sub hl [0, 2, 3] rfl)
      · refine lv_iconst (v := (nI 0)) hx hb dX3_fits_77 (by decide) ?_
        exact hret _ _ _ _ _ _ hP hS dX3_fits_78 rfl (⟨hk.2, _, rfl⟩)
  refine lv_aload_n hx hb dX3_fits_0 rfl (lv_at hl 0 rfl) ?_
  refine lv_aload_n hx hb dX3_fits_1 rfl (lv_at hl 0 rfl) ?_
  refine gw_getr (C := RX3) (T := TX3) (N := 27) hx hb hts inwX3 hown hK hP 0 21 11 rfl rfl rfl (by decide) (hts _ a158) (fun _ h9 => h9) dX3_fits_2 ?_
  refine lv_iload_n hx hb dX3_fits_5 rfl (lv_at hl 1 rfl) ?_
  refine gc_go0 (va_runV (As := [.ref (ad 11), .int (nI mn)]) (rest := []) ⟨hx, hb, hml, hown, hts⟩ (m_X3_minutesOf_count l hl9 D cI cJ ad sg0 _ mn (by omega) hk.1.1) (cwV 2 hts (gwV a159 a160 a161 a135 a162) rfl rfl rfl (by decide +kernel) ⟨by decide, by decide⟩) (gc_preV0 hK hP hD hS hA hE rfl rfl rfl) rfl rfl hl.1 rfl (lv_room (Nat.le_of_ble_eq_true rfl)) dX3_fits_6 ⟨by decide, by decide⟩) hD hS hA (fun v10 sg12 H locs hp13 hP hD hS => ?_)
  obtain ⟨hs9, r16, rfl⟩ := hp13
  rw [hs9] at hP hD
  refine W.eq (g2 := F0 m 9 ls [.int r16]) rfl ?_
  refine lv_aload_n hx hb dX3_fits_9 rfl (lv_at hl 0 rfl) ?_
  refine gw_geti (C := RX3) (T := TX3) (N := 27) hx hb hts inwX3 hown hK hP 0 11 rfl rfl rfl (by decide) (hts _ a147) (fun _ h9 => h9) dX3_fits_10 ?_
  refine lv_topi (fun v17 hv17 => ?_)
  refine lv_icmp_le (tgt := 18) hx hb dX3_fits_13 (by decide) (fun hc18 => ?_) (fun hc18 => ?_)
  · refine lv_iconst (v := (nI 0)) hx hb dX3_fits_18 (by decide) ?_
    refine lv_istore_n (lv' := [(2, .int (nI 0)), (0, .ref (ad 0)), (1, .int (nI mn))]) hx hb dX3_fits_19 rfl hl (by decide) rfl (fun ls hl => ?_)
    exact c20 _ 0 _ _ _ _ rfl (by omega) hk hP hD hS (lv_sub hl [0, 1, 2] rfl)
  · refine lv_iconst (v := (nI 0)) hx hb dX3_fits_16 (by decide) ?_
    exact hret _ _ _ _ _ _ hP hS dX3_fits_17 rfl (⟨hk.2, _, rfl⟩)
abbrev rmX3_bound : Room := { frames := 0, cells := 0, slots := 0, locals := 0 }
set_option maxRecDepth 100000 in
set_option maxHeartbeats 4000000 in
theorem m_X3_bound (l : Launch) (hl9 : l.stackTraces = false) (D : va_G) (cI : ClassId) (cJ : ClassId × ClassId) (ad : Nat → Nat) (sg0 : Nat → Nat → Int32) (sz : Nat) (hI : IvM sg0) : gc_M l yX3_bound wsX3_bound rmX3_bound D vwCl (tyS cI cJ) cI cJ gxT gxN SM [.ref (ad 0)] ad sg0 sz 0 0 (fun v sg2 => sg2 = sg0 ∧ ∃ r : Int32, v = some (.int r)) := by
  refine gc_Mi_of (cc := cX3_bound) (maxL := 3) (by decide) rfl (Nat.le_of_ble_eq_true rfl) ?_
  intro p e s m below meth c A ls Q hin hE hret
  obtain ⟨⟨hx, hb, hml, hown, hts⟩, -, hlocks, -, hA, hP, hK, hD, hS, hl⟩ := hin
  have hts : ∀ w ∈ wsAll, w.before ([.ref (ad 0)] : List Value).toArray s = true := fun w h => hts w (List.mem_cons_of_mem _ h)
  have hl : lv_has ls 3 [(0, .ref (ad 0))] := hl
  have hk : KM sg0 sg0 ∧ sg0 = sg0 := ⟨KM.refl hI, rfl⟩
  have c4 : ∀ (n9 : Nat) (i : Nat) (x1 : Int32) (sg : Nat → Nat → Int32) (H : Heap) (locs : List Loc) (ls : Array Slot), 4 - i = n9 → i ≤ 4 → (KM sg0 sg ∧ sg = sg0) → va_P D vwCl (gw cI cJ ad sg SM) H → va_D A (gw cI cJ ad sg SM) → va_S A s.heap H locs → lv_has ls 3 [(2, .int (nI i)), (1, .int x1), (0, .ref (ad 0))] → W p l e rmX3_bound s m ([.ref (ad 0)] : List Value).toArray below meth c H locs 0 0 Q (F0 m 4 ls []) := by
    intro n9
    induction n9 using Nat.strongRecOn with
    | ind n9 ih =>
    intro i x1 sg H locs ls hn h1 hk hP hD hS hl
    subst hn
    refine lv_iload_n hx hb dX3_bound_4 rfl (lv_at hl 0 rfl) ?_
    refine lv_iconst (v := (nI 4)) hx hb dX3_bound_5 (by decide) ?_
    refine lv_icmp_ge (tgt := 31) hx hb dX3_bound_6 (by decide) (fun hc1 => ?_) (fun hc1 => ?_)
    · have hc1 : 4 ≤ i := (nI_leI (a := 4) (b := i) (by omega) (by omega)).mp hc1
      refine lv_iload_n hx hb dX3_bound_31 rfl (lv_at hl 1 rfl) ?_
      exact hret _ _ _ _ _ _ hP hS dX3_bound_32 (⟨hk.2, _, rfl⟩)
    · have hc1 : ¬ (4 ≤ i) := fun q => hc1 ((nI_leI (a := 4) (b := i) (by omega) (by omega)).mpr q)
      refine lv_iload_n hx hb dX3_bound_9 rfl (lv_at hl 1 rfl) ?_
      refine lv_aload_n hx hb dX3_bound_10 rfl (lv_at hl 2 rfl) ?_
      refine gw_getr (C := RX3) (T := TX3) (N := 27) hx hb hts inwX3 hown hK hP 0 9 8 rfl rfl rfl (by decide) (hts _ a146) (fun _ h9 => h9) dX3_bound_11 ?_
      refine lv_iload_n hx hb dX3_bound_14 rfl (lv_at hl 0 rfl) ?_
      refine gw_ald hx hb hK hP 8 0 (n := 4) rfl rfl (i := i) (by omega) (by decide) dX3_bound_15 ?_
      refine lv_topi (fun v2 hv2 => ?_)
      refine lv_aload_n hx hb dX3_bound_16 rfl (lv_at hl 2 rfl) ?_
      refine gw_getr (C := RX3) (T := TX3) (N := 27) hx hb hts inwX3 hown hK hP 0 8 7 rfl rfl rfl (by decide) (hts _ a145) (fun _ h9 => h9) dX3_bound_17 ?_
      refine lv_iload_n hx hb dX3_bound_20 rfl (lv_at hl 0 rfl) ?_
      refine gw_ald hx hb hK hP 7 0 (n := 4) rfl rfl (i := i) (by omega) (by decide) dX3_bound_21 ?_
      refine lv_topi (fun v3 hv3 => ?_)
      refine lv_imul hx hb dX3_bound_22 ?_
      refine lv_topi (fun v4 hv4 => ?_)
      refine lv_iadd hx hb dX3_bound_23 ?_
      refine lv_topi (fun v5 hv5 => ?_)
      refine lv_istore_n (lv' := [(1, .int v5), (2, .int (nI i)), (0, .ref (ad 0))]) hx hb dX3_bound_24 rfl hl (by decide) rfl (fun ls hl => ?_)
      refine lv_iinc (k := 1) (v := (nI (i + 1))) (lv' := [(2, .int (nI (i + 1))), (1, .int v5), (0, .ref (ad 0))]) hx hb dX3_bound_25 hl rfl (nI_1 _) (by decide) rfl (fun ls hl => ?_)
      refine lv_goto (tgt := 4) hx hb dX3_bound_28 (by decide) ?_
      exact ih _ (by omega) (i + 1) v5 _ _ _ _ rfl (by omega) hk hP hD hS (lv_sub hl [0, 1, 2] rfl)
  refine lv_iconst (v := (nI 0)) hx hb dX3_bound_0 (by decide) ?_
  refine lv_istore_n (lv' := [(1, .int (nI 0)), (0, .ref (ad 0))]) hx hb dX3_bound_1 rfl hl (by decide) rfl (fun ls hl => ?_)
  refine lv_iconst (v := (nI 0)) hx hb dX3_bound_2 (by decide) ?_
  refine lv_istore_n (lv' := [(2, .int (nI 0)), (1, .int (nI 0)), (0, .ref (ad 0))]) hx hb dX3_bound_3 rfl hl (by decide) rfl (fun ls hl => ?_)
  exact c4 _ 0 (nI 0) _ _ _ _ rfl (by omega) hk hP hD hS (lv_sub hl [0, 1, 2] rfl)
abbrev rmX3_look : Room := { frames := 1, cells := 0, slots := 0, locals := 24 }
set_option maxRecDepth 100000 in
set_option maxHeartbeats 4000000 in
theorem m_X3_look (l : Launch) (hl9 : l.stackTraces = false) (D : va_G) (cI : ClassId) (cJ : ClassId × ClassId) (ad : Nat → Nat) (sg0 : Nat → Nat → Int32) (sz : Nat) (hI : IvM sg0) : gc_M l yX3_look wsX3_look rmX3_look D vwCl (tyS cI cJ) cI cJ gxT gxN SM [.ref (ad 0)] ad sg0 sz 0 0 (fun v sg2 => (KM sg0 sg2 ∧ ∀ j : Nat, j ≠ 23 → j ≠ 26 → sg2 0 j = sg0 0 j) ∧ v = none) := by
  refine gc_Mv_of (cc := cX3_look) (maxL := 4) (by decide) rfl (Nat.le_of_ble_eq_true rfl) ?_
  intro p e s m below meth c A ls Q hin hE hret
  obtain ⟨⟨hx, hb, hml, hown, hts⟩, -, hlocks, -, hA, hP, hK, hD, hS, hl⟩ := hin
  have hts : ∀ w ∈ wsAll, w.before ([.ref (ad 0)] : List Value).toArray s = true := fun w h => hts w (List.mem_cons_of_mem _ h)
  have hl : lv_has ls 4 [(0, .ref (ad 0))] := hl
  have hk : KM sg0 sg0 ∧ ∀ j : Nat, j ≠ 23 → j ≠ 26 → sg0 0 j = sg0 0 j := ⟨KM.refl hI, fun _ _ _ => rfl⟩
  have c120 : ∀ (n9 : Nat) (i : Nat) (sg : Nat → Nat → Int32) (H : Heap) (locs : List Loc) (ls : Array Slot), 6 - i = n9 → i ≤ 6 → (KM sg0 sg ∧ ∀ j : Nat, j ≠ 23 → j ≠ 26 → sg 0 j = sg0 0 j) → va_P D vwCl (gw cI cJ ad sg SM) H → va_D A (gw cI cJ ad sg SM) → va_S A s.heap H locs → lv_has ls 4 [(2, .int (nI i)), (0, .ref (ad 0))] → W p l e rmX3_look s m ([.ref (ad 0)] : List Value).toArray below meth c H locs 0 0 Q (F0 m 120 ls []) := by
    intro n9
    induction n9 using Nat.strongRecOn with
    | ind n9 ih =>
    intro i sg H locs ls hn h1 hk hP hD hS hl
    subst hn
    refine lv_iload_n hx hb dX3_look_120 rfl (lv_at hl 0 rfl) ?_
    refine lv_bipush (v := (nI 6)) hx hb dX3_look_121 (by decide) ?_
    refine lv_icmp_ge (tgt := 156) hx hb dX3_look_123 (by decide) (fun hc1 => ?_) (fun hc1 => ?_)
    · have hc1 : 6 ≤ i := (nI_leI (a := 6) (b := i) (by omega) (by omega)).mp hc1
      exact hret _ _ _ _ _ hP hS dX3_look_156 (⟨hk, rfl⟩)
    · have hc1 : ¬ (6 ≤ i) := fun q => hc1 ((nI_leI (a := 6) (b := i) (by omega) (by omega)).mpr q)
      refine lv_aload_n hx hb dX3_look_126 rfl (lv_at hl 1 rfl) ?_
      refine gw_getr (C := RX3) (T := TX3) (N := 27) hx hb hts inwX3 hown hK hP 0 22 12 rfl rfl rfl (by decide) (hts _ a163) (fun _ h9 => h9) dX3_look_127 ?_
      refine lv_iload_n hx hb dX3_look_130 rfl (lv_at hl 0 rfl) ?_
      refine lv_iload_n hx hb dX3_look_131 rfl (lv_at hl 0 rfl) ?_
      refine lv_aload_n hx hb dX3_look_132 rfl (lv_at hl 1 rfl) ?_
      refine gw_geti (C := RX3) (T := TX3) (N := 27) hx hb hts inwX3 hown hK hP 0 3 rfl rfl rfl (by decide) (hts _ a149) (fun _ h9 => h9) dX3_look_133 ?_
      obtain ⟨N2, hN2, eN2⟩ := hk.1.1.1
      refine gw_top (y := (nI N2)) (eN2) ?_
      refine lv_icmp_ge (tgt := 148) hx hb dX3_look_136 (by decide) (fun hc3 => ?_) (fun hc3 => ?_)
      · have hc3 : N2 ≤ i := (nI_leI (a := N2) (b := i) (by omega) (by omega)).mp hc3
        refine lv_iconst (v := (nI 0)) hx hb dX3_look_148 (by decide) ?_
        refine gw_ast hx hb hK hP hD hS 12 0 (n := 6) rfl rfl (i := i) (by omega) (by decide) dX3_look_149 (fun H locs hP hD hS => ?_)
        obtain ⟨sg4, esg4⟩ : ∃ z : Nat → Nat → Int32, z = gw_u sg 12 (upd (sg 12) i (nI 0)) := ⟨_, rfl⟩
        rw [← esg4] at hP hD
        have hk : KM sg0 sg4 ∧ ∀ j : Nat, j ≠ 23 → j ≠ 26 → sg4 0 j = sg0 0 j := ⟨by rw [esg4]; exact hk.1.wa 12 (by decide) (by decide) _, fun j h1 h2 => by rw [esg4, gw_u_n _ _ (by decide)]; exact hk.2 j h1 h2⟩
        refine lv_iinc (k := 0) (v := (nI (i + 1))) (lv' := [(2, .int (nI (i + 1))), (0, .ref (ad 0))]) hx hb dX3_look_150 hl rfl (nI_1 _) (by decide) rfl (fun ls hl => ?_)
        refine lv_goto (tgt := 120) hx hb dX3_look_153 (by decide) ?_
        exact ih _ (by omega) (i + 1) _ _ _ _ rfl (by omega) hk hP hD hS (lv_sub hl [0, 1] rfl)
      · have hc3 : ¬ (N2 ≤ i) := fun q => hc3 ((nI_leI (a := N2) (b := i) (by omega) (by omega)).mpr q)
        refine lv_aload_n hx hb dX3_look_139 rfl (lv_at hl 1 rfl) ?_
        refine gw_getr (C := RX3) (T := TX3) (N := 27) hx hb hts inwX3 hown hK hP 0 21 11 rfl rfl rfl (by decide) (hts _ a158) (fun _ h9 => h9) dX3_look_140 ?_
        refine lv_iload_n hx hb dX3_look_143 rfl (lv_at hl 0 rfl) ?_
        refine gw_ald hx hb hK hP 11 0 (n := 6) rfl rfl (i := i) (by omega) (by decide) dX3_look_144 ?_
        refine lv_topi (fun v5 hv5 => ?_)
        refine lv_goto (tgt := 149) hx hb dX3_look_145 (by decide) ?_
        refine gw_ast hx hb hK hP hD hS 12 0 (n := 6) rfl rfl (i := i) (by omega) (by decide) dX3_look_149 (fun H locs hP hD hS => ?_)
        obtain ⟨sg6, esg6⟩ : ∃ z : Nat → Nat → Int32, z = gw_u sg 12 (upd (sg 12) i v5) := ⟨_, rfl⟩
        rw [← esg6] at hP hD
        have hk : KM sg0 sg6 ∧ ∀ j : Nat, j ≠ 23 → j ≠ 26 → sg6 0 j = sg0 0 j := ⟨by rw [esg6]; exact hk.1.wa 12 (by decide) (by decide) _, fun j h1 h2 => by rw [esg6, gw_u_n _ _ (by decide)]; exact hk.2 j h1 h2⟩
        refine lv_iinc (k := 0) (v := (nI (i + 1))) (lv' := [(2, .int (nI (i + 1))), (0, .ref (ad 0))]) hx hb dX3_look_150 hl rfl (nI_1 _) (by decide) rfl (fun ls hl => ?_)
        refine lv_goto (tgt := 120) hx hb dX3_look_153 (by decide) ?_
        exact ih _ (by omega) (i + 1) _ _ _ _ rfl (by omega) hk hP hD hS (lv_sub hl [0, 1] rfl)
  have c93 : ∀ (x1 : Int32) (sg : Nat → Nat → Int32) (H : Heap) (locs : List Loc) (ls : Array Slot), (KM sg0 sg ∧ ∀ j : Nat, j ≠ 23 → j ≠ 26 → sg 0 j = sg0 0 j) → va_P D vwCl (gw cI cJ ad sg SM) H → va_D A (gw cI cJ ad sg SM) → va_S A s.heap H locs → lv_has ls 4 [(1, .int x1), (0, .ref (ad 0))] → W p l e rmX3_look s m ([.ref (ad 0)] : List Value).toArray below meth c H locs 0 0 Q (F0 m 93 ls []) := by
    intro x1 sg H locs ls hk hP hD hS hl
    refine lv_aload_n hx hb dX3_look_93 rfl (lv_at hl 1 rfl) ?_
    refine gw_geti (C := RX3) (T := TX3) (N := 27) hx hb hts inwX3 hown hK hP 0 23 rfl rfl rfl (by decide) (hts _ a164) (fun _ h9 => h9) dX3_look_94 ?_
    refine lv_topi (fun v7 hv7 => ?_)
    refine lv_if_eq (tgt := 108) hx hb dX3_look_97 (by decide) (fun hc8 => ?_) (fun hc8 => ?_)
    · refine lv_aload_n hx hb dX3_look_108 rfl (lv_at hl 1 rfl) ?_
      refine lv_iconst (v := (nI 1)) hx hb dX3_look_109 (by decide) ?_
      refine gw_put (C := RX3) (T := TX3) (N := 27) (ty := .boolean) hx hb hts inwX3 tyX3 tyX3_ok nmX3 hown hK hP hD hS 0 23 rfl rfl rfl (by decide) (hts _ a164) (fun _ h9 => h9) rfl (by decide +kernel) rfl rfl dX3_look_110 (fun H locs hP hD hS => ?_)
      obtain ⟨sg9, esg9⟩ : ∃ z : Nat → Nat → Int32, z = gw_u sg 0 (upd (sg 0) 23 (nI 1)) := ⟨_, rfl⟩
      rw [← esg9] at hP hD
      have hk : KM sg0 sg9 ∧ ∀ j : Nat, j ≠ 23 → j ≠ 26 → sg9 0 j = sg0 0 j := ⟨by rw [esg9]; exact hk.1.wh (Or.inr rfl), fun j h1 h2 => by rw [esg9, m_upd _ h1]; exact hk.2 j h1 h2⟩
      refine lv_aload_n hx hb dX3_look_113 rfl (lv_at hl 1 rfl) ?_
      refine lv_iload_n hx hb dX3_look_114 rfl (lv_at hl 0 rfl) ?_
      refine gw_put (C := RX3) (T := TX3) (N := 27) (ty := .int) hx hb hts inwX3 tyX3 tyX3_ok nmX3 hown hK hP hD hS 0 26 rfl rfl rfl (by decide) (hts _ a165) (fun _ h9 => h9) rfl (by decide +kernel) rfl rfl dX3_look_115 (fun H locs hP hD hS => ?_)
      obtain ⟨sg10, esg10⟩ : ∃ z : Nat → Nat → Int32, z = gw_u sg9 0 (upd (sg9 0) 26 x1) := ⟨_, rfl⟩
      rw [← esg10] at hP hD
      have hk : KM sg0 sg10 ∧ ∀ j : Nat, j ≠ 23 → j ≠ 26 → sg10 0 j = sg0 0 j := ⟨by rw [esg10]; exact hk.1.wf (by decide) (by decide) (by decide) _, fun j h1 h2 => by rw [esg10, m_upd _ h2]; exact hk.2 j h1 h2⟩
      refine lv_iconst (v := (nI 0)) hx hb dX3_look_118 (by decide) ?_
      refine lv_istore_n (lv' := [(2, .int (nI 0)), (1, .int x1), (0, .ref (ad 0))]) hx hb dX3_look_119 rfl hl (by decide) rfl (fun ls hl => ?_)
      exact c120 _ 0 _ _ _ _ rfl (by omega) hk hP hD hS (lv_sub hl [0, 2] rfl)
    · refine lv_iload_n hx hb dX3_look_100 rfl (lv_at hl 0 rfl) ?_
      refine lv_aload_n hx hb dX3_look_101 rfl (lv_at hl 1 rfl) ?_
      refine gw_geti (C := RX3) (T := TX3) (N := 27) hx hb hts inwX3 hown hK hP 0 26 rfl rfl rfl (by decide) (hts _ a165) (fun _ h9 => h9) dX3_look_102 ?_
      refine lv_topi (fun v11 hv11 => ?_)
      refine lv_icmp_le (tgt := 156) hx hb dX3_look_105 (by decide) (fun hc12 => ?_) (fun hc12 => ?_)
      · exact hret _ _ _ _ _ hP hS dX3_look_156 (⟨hk, rfl⟩)
      · refine lv_aload_n hx hb dX3_look_108 rfl (lv_at hl 1 rfl) ?_
        refine lv_iconst (v := (nI 1)) hx hb dX3_look_109 (by decide) ?_
        refine gw_put (C := RX3) (T := TX3) (N := 27) (ty := .boolean) hx hb hts inwX3 tyX3 tyX3_ok nmX3 hown hK hP hD hS 0 23 rfl rfl rfl (by decide) (hts _ a164) (fun _ h9 => h9) rfl (by decide +kernel) rfl rfl dX3_look_110 (fun H locs hP hD hS => ?_)
        obtain ⟨sg13, esg13⟩ : ∃ z : Nat → Nat → Int32, z = gw_u sg 0 (upd (sg 0) 23 (nI 1)) := ⟨_, rfl⟩
        rw [← esg13] at hP hD
        have hk : KM sg0 sg13 ∧ ∀ j : Nat, j ≠ 23 → j ≠ 26 → sg13 0 j = sg0 0 j := ⟨by rw [esg13]; exact hk.1.wh (Or.inr rfl), fun j h1 h2 => by rw [esg13, m_upd _ h1]; exact hk.2 j h1 h2⟩
        refine lv_aload_n hx hb dX3_look_113 rfl (lv_at hl 1 rfl) ?_
        refine lv_iload_n hx hb dX3_look_114 rfl (lv_at hl 0 rfl) ?_
        refine gw_put (C := RX3) (T := TX3) (N := 27) (ty := .int) hx hb hts inwX3 tyX3 tyX3_ok nmX3 hown hK hP hD hS 0 26 rfl rfl rfl (by decide) (hts _ a165) (fun _ h9 => h9) rfl (by decide +kernel) rfl rfl dX3_look_115 (fun H locs hP hD hS => ?_)
        obtain ⟨sg14, esg14⟩ : ∃ z : Nat → Nat → Int32, z = gw_u sg13 0 (upd (sg13 0) 26 x1) := ⟨_, rfl⟩
        rw [← esg14] at hP hD
        have hk : KM sg0 sg14 ∧ ∀ j : Nat, j ≠ 23 → j ≠ 26 → sg14 0 j = sg0 0 j := ⟨by rw [esg14]; exact hk.1.wf (by decide) (by decide) (by decide) _, fun j h1 h2 => by rw [esg14, m_upd _ h2]; exact hk.2 j h1 h2⟩
        refine lv_iconst (v := (nI 0)) hx hb dX3_look_118 (by decide) ?_
        refine lv_istore_n (lv' := [(2, .int (nI 0)), (1, .int x1), (0, .ref (ad 0))]) hx hb dX3_look_119 rfl hl (by decide) rfl (fun ls hl => ?_)
        exact c120 _ 0 _ _ _ _ rfl (by omega) hk hP hD hS (lv_sub hl [0, 2] rfl)
  have c58 : ∀ (n9 : Nat) (i : Nat) (x1 : Int32) (sg : Nat → Nat → Int32) (H : Heap) (locs : List Loc) (ls : Array Slot), 6 - i = n9 → i ≤ 6 → (KM sg0 sg ∧ ∀ j : Nat, j ≠ 23 → j ≠ 26 → sg 0 j = sg0 0 j) → va_P D vwCl (gw cI cJ ad sg SM) H → va_D A (gw cI cJ ad sg SM) → va_S A s.heap H locs → lv_has ls 4 [(2, .int (nI i)), (1, .int x1), (0, .ref (ad 0))] → W p l e rmX3_look s m ([.ref (ad 0)] : List Value).toArray below meth c H locs 0 0 Q (F0 m 58 ls []) := by
    intro n9
    induction n9 using Nat.strongRecOn with
    | ind n9 ih =>
    intro i x1 sg H locs ls hn h1 hk hP hD hS hl
    subst hn
    refine lv_iload_n hx hb dX3_look_58 rfl (lv_at hl 0 rfl) ?_
    refine lv_aload_n hx hb dX3_look_59 rfl (lv_at hl 2 rfl) ?_
    refine gw_geti (C := RX3) (T := TX3) (N := 27) hx hb hts inwX3 hown hK hP 0 3 rfl rfl rfl (by decide) (hts _ a149) (fun _ h9 => h9) dX3_look_60 ?_
    obtain ⟨N15, hN15, eN15⟩ := hk.1.1.1
    refine gw_top (y := (nI N15)) (eN15) ?_
    refine lv_icmp_ge (tgt := 93) hx hb dX3_look_63 (by decide) (fun hc16 => ?_) (fun hc16 => ?_)
    · have hc16 : N15 ≤ i := (nI_leI (a := N15) (b := i) (by omega) (by omega)).mp hc16
      exact c93 x1 _ _ _ _  hk hP hD hS (lv_sub hl [1, 2] rfl)
    · have hc16 : ¬ (N15 ≤ i) := fun q => hc16 ((nI_leI (a := N15) (b := i) (by omega) (by omega)).mpr q)
      refine lv_iload_n hx hb dX3_look_66 rfl (lv_at hl 1 rfl) ?_
      refine lv_aload_n hx hb dX3_look_67 rfl (lv_at hl 2 rfl) ?_
      refine gw_getr (C := RX3) (T := TX3) (N := 27) hx hb hts inwX3 hown hK hP 0 2 2 rfl rfl rfl (by decide) (hts _ a139) (fun _ h9 => h9) dX3_look_68 ?_
      refine lv_aload_n hx hb dX3_look_71 rfl (lv_at hl 2 rfl) ?_
      refine gw_getr (C := RX3) (T := TX3) (N := 27) hx hb hts inwX3 hown hK hP 0 4 3 rfl rfl rfl (by decide) (hts _ a155) (fun _ h9 => h9) dX3_look_72 ?_
      refine lv_iload_n hx hb dX3_look_75 rfl (lv_at hl 0 rfl) ?_
      refine gw_ald hx hb hK hP 3 0 (n := 6) rfl rfl (i := i) (by omega) (by decide) dX3_look_76 ?_
      obtain ⟨cf17, hcf17, ecf17⟩ := hk.1.1.2.1 i (by omega)
      refine gw_top (y := (nI cf17)) (ecf17) ?_
      refine gw_ald hx hb hK hP 2 0 (n := 4) rfl rfl (i := cf17) (by omega) (by decide) dX3_look_77 ?_
      refine lv_topi (fun v18 hv18 => ?_)
      refine lv_aload_n hx hb dX3_look_78 rfl (lv_at hl 2 rfl) ?_
      refine gw_getr (C := RX3) (T := TX3) (N := 27) hx hb hts inwX3 hown hK hP 0 21 11 rfl rfl rfl (by decide) (hts _ a158) (fun _ h9 => h9) dX3_look_79 ?_
      refine lv_iload_n hx hb dX3_look_82 rfl (lv_at hl 0 rfl) ?_
      refine gw_ald hx hb hK hP 11 0 (n := 6) rfl rfl (i := i) (by omega) (by decide) dX3_look_83 ?_
      refine lv_topi (fun v19 hv19 => ?_)
      refine lv_imul hx hb dX3_look_84 ?_
      refine lv_topi (fun v20 hv20 => ?_)
      refine lv_isub hx hb dX3_look_85 ?_
      refine lv_topi (fun v21 hv21 => ?_)
      refine lv_istore_n (lv' := [(1, .int v21), (2, .int (nI i)), (0, .ref (ad 0))]) hx hb dX3_look_86 rfl hl (by decide) rfl (fun ls hl => ?_)
      refine lv_iinc (k := 1) (v := (nI (i + 1))) (lv' := [(2, .int (nI (i + 1))), (1, .int v21), (0, .ref (ad 0))]) hx hb dX3_look_87 hl rfl (nI_1 _) (by decide) rfl (fun ls hl => ?_)
      refine lv_goto (tgt := 58) hx hb dX3_look_90 (by decide) ?_
      exact ih _ (by omega) (i + 1) v21 _ _ _ _ rfl (by omega) hk hP hD hS (lv_sub hl [0, 1, 2] rfl)
  have c4 : ∀ (n9 : Nat) (i : Nat) (x1 : Int32) (sg : Nat → Nat → Int32) (H : Heap) (locs : List Loc) (ls : Array Slot), 4 - i = n9 → i ≤ 4 → (KM sg0 sg ∧ ∀ j : Nat, j ≠ 23 → j ≠ 26 → sg 0 j = sg0 0 j) → va_P D vwCl (gw cI cJ ad sg SM) H → va_D A (gw cI cJ ad sg SM) → va_S A s.heap H locs → lv_has ls 4 [(2, .int (nI i)), (1, .int x1), (0, .ref (ad 0))] → W p l e rmX3_look s m ([.ref (ad 0)] : List Value).toArray below meth c H locs 0 0 Q (F0 m 4 ls []) := by
    intro n9
    induction n9 using Nat.strongRecOn with
    | ind n9 ih =>
    intro i x1 sg H locs ls hn h1 hk hP hD hS hl
    subst hn
    refine lv_iload_n hx hb dX3_look_4 rfl (lv_at hl 0 rfl) ?_
    refine lv_iconst (v := (nI 4)) hx hb dX3_look_5 (by decide) ?_
    refine lv_icmp_ge (tgt := 56) hx hb dX3_look_6 (by decide) (fun hc22 => ?_) (fun hc22 => ?_)
    · have hc22 : 4 ≤ i := (nI_leI (a := 4) (b := i) (by omega) (by omega)).mp hc22
      refine lv_iconst (v := (nI 0)) hx hb dX3_look_56 (by decide) ?_
      refine lv_istore_n (lv' := [(2, .int (nI 0)), (1, .int x1), (0, .ref (ad 0))]) hx hb dX3_look_57 rfl hl (by decide) rfl (fun ls hl => ?_)
      exact c58 _ 0 x1 _ _ _ _ rfl (by omega) hk hP hD hS (lv_sub hl [0, 1, 2] rfl)
    · have hc22 : ¬ (4 ≤ i) := fun q => hc22 ((nI_leI (a := 4) (b := i) (by omega) (by omega)).mpr q)
      refine lv_aload_n hx hb dX3_look_9 rfl (lv_at hl 2 rfl) ?_
      refine lv_aload_n hx hb dX3_look_10 rfl (lv_at hl 2 rfl) ?_
      refine gw_getr (C := RX3) (T := TX3) (N := 27) hx hb hts inwX3 hown hK hP 0 21 11 rfl rfl rfl (by decide) (hts _ a158) (fun _ h9 => h9) dX3_look_11 ?_
      refine lv_iload_n hx hb dX3_look_14 rfl (lv_at hl 0 rfl) ?_
      refine gc_go0 (va_runV (As := [.ref (ad 11), .int (nI i)]) (rest := []) ⟨hx, hb, hml, hown, hts⟩ (m_X3_madeOf_count l hl9 D cI cJ ad sg _ i (by omega) hk.1.1) (cwV 2 hts (gwV a166 a167 a168 a135 a169) rfl rfl rfl (by decide +kernel) ⟨by decide, by decide⟩) (gc_preV0 hK hP hD hS hA hE rfl rfl rfl) rfl rfl hl.1 rfl (lv_room (Nat.le_of_ble_eq_true rfl)) dX3_look_15 ⟨by decide, by decide⟩) hD hS hA (fun v23 sg25 H locs hp26 hP hD hS => ?_)
      obtain ⟨hs9, r29, rfl⟩ := hp26
      rw [hs9] at hP hD
      refine W.eq (g2 := F0 m 18 ls [.int r29]) rfl ?_
      refine lv_istore_n (lv' := [(3, .int r29), (2, .int (nI i)), (1, .int x1), (0, .ref (ad 0))]) hx hb dX3_look_18 rfl hl (by decide) rfl (fun ls hl => ?_)
      refine lv_iload_n hx hb dX3_look_19 rfl (lv_at hl 0 rfl) ?_
      refine lv_aload_n hx hb dX3_look_20 rfl (lv_at hl 3 rfl) ?_
      refine gw_getr (C := RX3) (T := TX3) (N := 27) hx hb hts inwX3 hown hK hP 0 7 6 rfl rfl rfl (by decide) (hts _ a144) (fun _ h9 => h9) dX3_look_21 ?_
      refine lv_iload_n hx hb dX3_look_24 rfl (lv_at hl 1 rfl) ?_
      refine gw_ald hx hb hK hP 6 0 (n := 4) rfl rfl (i := i) (by omega) (by decide) dX3_look_25 ?_
      refine lv_topi (fun v30 hv30 => ?_)
      refine lv_icmp_ge (tgt := 30) hx hb dX3_look_26 (by decide) (fun hc31 => ?_) (fun hc31 => ?_)
      · refine lv_iload_n hx hb dX3_look_30 rfl (lv_at hl 2 rfl) ?_
        refine lv_aload_n hx hb dX3_look_31 rfl (lv_at hl 3 rfl) ?_
        refine gw_getr (C := RX3) (T := TX3) (N := 27) hx hb hts inwX3 hown hK hP 0 9 8 rfl rfl rfl (by decide) (hts _ a146) (fun _ h9 => h9) dX3_look_32 ?_
        refine lv_iload_n hx hb dX3_look_35 rfl (lv_at hl 1 rfl) ?_
        refine gw_ald hx hb hK hP 8 0 (n := 4) rfl rfl (i := i) (by omega) (by decide) dX3_look_36 ?_
        refine lv_topi (fun v32 hv32 => ?_)
        refine lv_iload_n hx hb dX3_look_37 rfl (lv_at hl 0 rfl) ?_
        refine lv_aload_n hx hb dX3_look_38 rfl (lv_at hl 3 rfl) ?_
        refine gw_getr (C := RX3) (T := TX3) (N := 27) hx hb hts inwX3 hown hK hP 0 8 7 rfl rfl rfl (by decide) (hts _ a145) (fun _ h9 => h9) dX3_look_39 ?_
        refine lv_iload_n hx hb dX3_look_42 rfl (lv_at hl 1 rfl) ?_
        refine gw_ald hx hb hK hP 7 0 (n := 4) rfl rfl (i := i) (by omega) (by decide) dX3_look_43 ?_
        refine lv_topi (fun v33 hv33 => ?_)
        refine gc_go (pl := []) (S2 := SE) (ad := ad) (sg := sg) (va_runS (As := [.int r29, .int v33]) (rest := [.int v32, .int x1]) ⟨hx, hb, hml, hown, hts⟩ (m_X3_lesser l hl9 D cI cJ (fun j => ad (gw_p [] j)) (fun j => sg (gw_p [] j)) _ r29 v33 ) (cwS 2 hts (gwS a170 a171 a135 a172) rfl rfl rfl (by decide +kernel) ⟨by decide, by decide⟩) (gc_preS hK hP hD hS hA hE rfl) rfl rfl hl.1 rfl (lv_room (Nat.le_of_ble_eq_true rfl)) dX3_look_44 ⟨by decide, by decide⟩) hP hD hS hA rfl (fun v34 sp35 sg36 H locs hp37 ha38 hb39 hP hD hS => ?_)
        obtain ⟨r40, rfl⟩ := hp37
        rw [show sg36 = sg from funext (fun k => hb39 k (by simp))] at hP hD
        refine W.eq (g2 := F0 m 47 ls [.int r40, .int v32, .int x1]) rfl ?_
        refine lv_imul hx hb dX3_look_47 ?_
        refine lv_topi (fun v41 hv41 => ?_)
        refine lv_iadd hx hb dX3_look_48 ?_
        refine lv_topi (fun v42 hv42 => ?_)
        refine lv_istore_n (lv' := [(1, .int v42), (3, .int r29), (2, .int (nI i)), (0, .ref (ad 0))]) hx hb dX3_look_49 rfl hl (by decide) rfl (fun ls hl => ?_)
        refine lv_iinc (k := 2) (v := (nI (i + 1))) (lv' := [(2, .int (nI (i + 1))), (1, .int v42), (3, .int r29), (0, .ref (ad 0))]) hx hb dX3_look_50 hl rfl (nI_1 _) (by decide) rfl (fun ls hl => ?_)
        refine lv_goto (tgt := 4) hx hb dX3_look_53 (by decide) ?_
        exact ih _ (by omega) (i + 1) v42 _ _ _ _ rfl (by omega) hk hP hD hS (lv_sub hl [0, 1, 3] rfl)
      · exact hret _ _ _ _ _ hP hS dX3_look_29 (⟨hk, rfl⟩)
  refine lv_iconst (v := (nI 0)) hx hb dX3_look_0 (by decide) ?_
  refine lv_istore_n (lv' := [(1, .int (nI 0)), (0, .ref (ad 0))]) hx hb dX3_look_1 rfl hl (by decide) rfl (fun ls hl => ?_)
  refine lv_iconst (v := (nI 0)) hx hb dX3_look_2 (by decide) ?_
  refine lv_istore_n (lv' := [(2, .int (nI 0)), (1, .int (nI 0)), (0, .ref (ad 0))]) hx hb dX3_look_3 rfl hl (by decide) rfl (fun ls hl => ?_)
  exact c4 _ 0 (nI 0) _ _ _ _ rfl (by omega) hk hP hD hS (lv_sub hl [0, 1, 2] rfl)
abbrev rmX3_seek : Room := { frames := 2, cells := 0, slots := 0, locals := 48 }
set_option maxRecDepth 100000 in
set_option maxHeartbeats 4000000 in
theorem m_X3_seek (l : Launch) (hl9 : l.stackTraces = false) (D : va_G) (cI : ClassId) (cJ : ClassId × ClassId) (ad : Nat → Nat) (sg0 : Nat → Nat → Int32) (sz : Nat) (lim : Nat) (hlim : lim < 20001) (hI : IvM sg0) (N : Nat) (hN : N ≤ 6) (eN : sg0 0 3 = nI N) : gc_M l yX3_seek wsX3_seek rmX3_seek D vwCl (tyS cI cJ) cI cJ gxT gxN SM [.ref (ad 0), .int (nI lim)] ad sg0 sz 0 0 (fun v sg2 => KM sg0 sg2 ∧ v = none) := by
  refine gc_Mv_of (cc := cX3_seek) (maxL := 3) (by decide) rfl (Nat.le_of_ble_eq_true rfl) ?_
  intro p e s m below meth c A ls Q hin hE hret
  obtain ⟨⟨hx, hb, hml, hown, hts⟩, -, hlocks, -, hA, hP, hK, hD, hS, hl⟩ := hin
  have hts : ∀ w ∈ wsAll, w.before ([.ref (ad 0), .int (nI lim)] : List Value).toArray s = true := fun w h => hts w (List.mem_cons_of_mem _ h)
  have hl : lv_has ls 3 [(0, .ref (ad 0)), (1, .int (nI lim))] := hl
  have hk := KM.refl hI
  have c36 : ∀ (n9 : Nat) (told : Nat) (tk : Nat) (sg : Nat → Nat → Int32) (H : Heap) (locs : List Loc) (ls : Array Slot), 7 * (lim - tk) + told = n9 → tk ≤ lim → told ≤ N → (KM sg0 sg ∧ sg 0 25 = nI tk) → va_P D vwCl (gw cI cJ ad sg SM) H → va_D A (gw cI cJ ad sg SM) → va_S A s.heap H locs → lv_has ls 3 [(2, .int (nI told)), (0, .ref (ad 0)), (1, .int (nI lim))] → W p l e rmX3_seek s m ([.ref (ad 0), .int (nI lim)] : List Value).toArray below meth c H locs 0 0 Q (F0 m 36 ls []) := by
    intro n9
    induction n9 using Nat.strongRecOn with
    | ind n9 ih =>
    intro told tk sg H locs ls hn h1 h2 hk hP hD hS hl
    subst hn
    refine lv_iload_n hx hb dX3_seek_36 rfl (lv_at hl 0 rfl) ?_
    refine lv_if_le (tgt := 131) hx hb dX3_seek_37 (by decide) (fun hc1 => ?_) (fun hc1 => ?_)
    · rw [← nI_0] at hc1
      have hc1 : told ≤ 0 := (nI_leI (a := told) (b := 0) (by omega) (by omega)).mp hc1
      exact hret _ _ _ _ _ hP hS dX3_seek_131 (⟨hk.1, rfl⟩)
    · rw [← nI_0] at hc1
      have hc1 : ¬ (told ≤ 0) := fun q => hc1 ((nI_leI (a := told) (b := 0) (by omega) (by omega)).mpr q)
      refine lv_aload_n hx hb dX3_seek_40 rfl (lv_at hl 1 rfl) ?_
      refine gw_getr (C := RX3) (T := TX3) (N := 27) hx hb hts inwX3 hown hK hP 0 21 11 rfl rfl rfl (by decide) (hts _ a158) (fun _ h9 => h9) dX3_seek_41 ?_
      refine lv_iload_n hx hb dX3_seek_44 rfl (lv_at hl 0 rfl) ?_
      refine lv_iconst (v := (nI 1)) hx hb dX3_seek_45 (by decide) ?_
      refine lv_isub hx hb dX3_seek_46 ?_
      refine gw_top (y := (nI (told - 1))) (nI_sub1 (by omega)) ?_
      refine lv_dup2_11 hx hb dX3_seek_47 rfl rfl ?_
      refine gw_ald hx hb hK hP 11 0 (n := 6) rfl rfl (i := told - 1) (by omega) (by decide) dX3_seek_48 ?_
      refine lv_topi (fun v2 hv2 => ?_)
      refine lv_iconst (v := (nI 1)) hx hb dX3_seek_49 (by decide) ?_
      refine lv_iadd hx hb dX3_seek_50 ?_
      refine lv_topi (fun v3 hv3 => ?_)
      refine gw_ast hx hb hK hP hD hS 11 0 (n := 6) rfl rfl (i := told - 1) (by omega) (by decide) dX3_seek_51 (fun H locs hP hD hS => ?_)
      obtain ⟨sg4, esg4⟩ : ∃ z : Nat → Nat → Int32, z = gw_u sg 11 (upd (sg 11) (told - 1) v3) := ⟨_, rfl⟩
      rw [← esg4] at hP hD
      have hk : KM sg0 sg4 ∧ sg4 0 25 = nI tk := ⟨by rw [esg4]; exact hk.1.wa 11 (by decide) (by decide) _, by rw [esg4, gw_u_n _ _ (by decide)]; exact hk.2⟩
      refine lv_aload_n hx hb dX3_seek_52 rfl (lv_at hl 1 rfl) ?_
      refine gw_getr (C := RX3) (T := TX3) (N := 27) hx hb hts inwX3 hown hK hP 0 21 11 rfl rfl rfl (by decide) (hts _ a158) (fun _ h9 => h9) dX3_seek_53 ?_
      refine lv_iload_n hx hb dX3_seek_56 rfl (lv_at hl 0 rfl) ?_
      refine lv_iconst (v := (nI 1)) hx hb dX3_seek_57 (by decide) ?_
      refine lv_isub hx hb dX3_seek_58 ?_
      refine gw_top (y := (nI (told - 1))) (nI_sub1 (by omega)) ?_
      refine gw_ald hx hb hK hP 11 0 (n := 6) rfl rfl (i := told - 1) (by omega) (by decide) dX3_seek_59 ?_
      refine lv_topi (fun v5 hv5 => ?_)
      refine lv_bipush (v := (nI 12)) hx hb dX3_seek_60 (by decide) ?_
      refine lv_icmp_gt (tgt := 73) hx hb dX3_seek_62 (by decide) (fun hc6 => ?_) (fun hc6 => ?_)
      · refine lv_iinc (k := 0) (v := (nI (told - 1))) (lv' := [(2, .int (nI (told - 1))), (0, .ref (ad 0)), (1, .int (nI lim))]) hx hb dX3_seek_73 hl rfl (nI_m1 (by omega)) (by decide) rfl (fun ls hl => ?_)
        refine lv_goto (tgt := 36) hx hb dX3_seek_76 (by decide) ?_
        exact ih _ (by omega) (told - 1) tk _ _ _ _ rfl (by omega) (by omega) hk hP hD hS (lv_sub hl [0, 1, 2] rfl)
      · refine lv_aload_n hx hb dX3_seek_65 rfl (lv_at hl 1 rfl) ?_
        refine lv_iload_n hx hb dX3_seek_66 rfl (lv_at hl 0 rfl) ?_
        refine gc_go0 (va_runV (As := [.int (nI told)]) (rest := []) ⟨hx, hb, hml, hown, hts⟩ (m_X3_fits l hl9 D cI cJ ad sg4 _ told (by omega) hk.1.1) (cwV 1 hts (gwV a173 a174 a175 a135 a176) rfl rfl rfl (by decide +kernel) ⟨by decide, by decide⟩) (gc_preV0 hK hP hD hS hA hE rfl rfl rfl) rfl rfl hl.1 rfl (lv_room (Nat.le_of_ble_eq_true rfl)) dX3_seek_67 ⟨by decide, by decide⟩) hD hS hA (fun v7 sg9 H locs hp10 hP hD hS => ?_)
        obtain ⟨hs9, r13, rfl⟩ := hp10
        rw [hs9] at hP hD
        refine W.eq (g2 := F0 m 70 ls [.int r13]) rfl ?_
        refine lv_if_ne (tgt := 79) hx hb dX3_seek_70 (by decide) (fun hc14 => ?_) (fun hc14 => ?_)
        · refine lv_aload_n hx hb dX3_seek_79 rfl (lv_at hl 1 rfl) ?_
          refine gw_geti (C := RX3) (T := TX3) (N := 27) hx hb hts inwX3 hown hK hP 0 25 rfl rfl rfl (by decide) (hts _ a177) (fun _ h9 => h9) dX3_seek_80 ?_
          refine gw_top (y := (nI tk)) (hk.2) ?_
          refine lv_iload_n hx hb dX3_seek_83 rfl (lv_at hl 2 rfl) ?_
          refine lv_icmp_ne (tgt := 93) hx hb dX3_seek_84 (by decide) (fun hc15 => ?_) (fun hc15 => ?_)
          · have hc15 : ¬ (tk = lim) := fun q => hc15 ((nI_eq (a := tk) (b := lim) (by omega) (by omega)).mpr q)
            refine lv_aload_n hx hb dX3_seek_93 rfl (lv_at hl 1 rfl) ?_
            refine lv_dup hx hb dX3_seek_94 rfl ?_
            refine gw_geti (C := RX3) (T := TX3) (N := 27) hx hb hts inwX3 hown hK hP 0 25 rfl rfl rfl (by decide) (hts _ a177) (fun _ h9 => h9) dX3_seek_95 ?_
            refine gw_top (y := (nI tk)) (hk.2) ?_
            refine lv_iconst (v := (nI 1)) hx hb dX3_seek_98 (by decide) ?_
            refine lv_iadd hx hb dX3_seek_99 ?_
            refine gw_top (y := (nI (tk + 1))) (nI_add _ _) ?_
            refine gw_put (C := RX3) (T := TX3) (N := 27) (ty := .int) hx hb hts inwX3 tyX3 tyX3_ok nmX3 hown hK hP hD hS 0 25 rfl rfl rfl (by decide) (hts _ a177) (fun _ h9 => h9) rfl (by decide +kernel) rfl rfl dX3_seek_100 (fun H locs hP hD hS => ?_)
            obtain ⟨sg16, esg16⟩ : ∃ z : Nat → Nat → Int32, z = gw_u sg4 0 (upd (sg4 0) 25 (nI (tk + 1))) := ⟨_, rfl⟩
            rw [← esg16] at hP hD
            have hk : KM sg0 sg16 ∧ sg16 0 25 = nI (tk + 1) := ⟨by rw [esg16]; exact hk.1.wf (by decide) (by decide) (by decide) _, by rw [esg16, m_upd_s]⟩
            refine lv_iload_n hx hb dX3_seek_103 rfl (lv_at hl 0 rfl) ?_
            refine lv_aload_n hx hb dX3_seek_104 rfl (lv_at hl 1 rfl) ?_
            refine gw_geti (C := RX3) (T := TX3) (N := 27) hx hb hts inwX3 hown hK hP 0 3 rfl rfl rfl (by decide) (hts _ a149) (fun _ h9 => h9) dX3_seek_105 ?_
            refine gw_top (y := (nI N)) (hk.1.2.trans eN) ?_
            refine lv_icmp_ne (tgt := 118) hx hb dX3_seek_108 (by decide) (fun hc17 => ?_) (fun hc17 => ?_)
            · have hc17 : ¬ (told = N) := fun q => hc17 ((nI_eq (a := told) (b := N) (by omega) (by omega)).mpr q)
              refine lv_aload_n hx hb dX3_seek_118 rfl (lv_at hl 1 rfl) ?_
              refine gw_getr (C := RX3) (T := TX3) (N := 27) hx hb hts inwX3 hown hK hP 0 21 11 rfl rfl rfl (by decide) (hts _ a158) (fun _ h9 => h9) dX3_seek_119 ?_
              refine lv_iload_n hx hb dX3_seek_122 rfl (lv_at hl 0 rfl) ?_
              refine lv_iconst (v := (-1)) hx hb dX3_seek_123 (by decide) ?_
              refine gw_ast hx hb hK hP hD hS 11 0 (n := 6) rfl rfl (i := told) (by omega) (by decide) dX3_seek_124 (fun H locs hP hD hS => ?_)
              obtain ⟨sg18, esg18⟩ : ∃ z : Nat → Nat → Int32, z = gw_u sg16 11 (upd (sg16 11) told (-1)) := ⟨_, rfl⟩
              rw [← esg18] at hP hD
              have hk : KM sg0 sg18 ∧ sg18 0 25 = nI (tk + 1) := ⟨by rw [esg18]; exact hk.1.wa 11 (by decide) (by decide) _, by rw [esg18, gw_u_n _ _ (by decide)]; exact hk.2⟩
              refine lv_iinc (k := 0) (v := (nI (told + 1))) (lv' := [(2, .int (nI (told + 1))), (0, .ref (ad 0)), (1, .int (nI lim))]) hx hb dX3_seek_125 hl rfl (nI_1 _) (by decide) rfl (fun ls hl => ?_)
              refine lv_goto (tgt := 36) hx hb dX3_seek_128 (by decide) ?_
              exact ih _ (by omega) (told + 1) (tk + 1) _ _ _ _ rfl (by omega) (by omega) hk hP hD hS (lv_sub hl [0, 1, 2] rfl)
            · have hc17 : told = N := (nI_eq (a := told) (b := N) (by omega) (by omega)).mp hc17
              refine lv_aload_n hx hb dX3_seek_111 rfl (lv_at hl 1 rfl) ?_
              refine gc_go0 (va_runV (As := []) (rest := []) ⟨hx, hb, hml, hown, hts⟩ (m_X3_look l hl9 D cI cJ ad sg16 _  hk.1.1) (cwV 0 hts (gwV a178 a179 a180 a135 a181) rfl rfl rfl (by decide +kernel) ⟨by decide, by decide⟩) (gc_preV0 hK hP hD hS hA hE rfl rfl rfl) rfl rfl hl.1 rfl (lv_room (Nat.le_of_ble_eq_true rfl)) dX3_seek_112 ⟨by decide, by decide⟩) hD hS hA (fun v19 sg21 H locs hp22 hP hD hS => ?_)
              obtain ⟨hk1, rfl⟩ := hp22
              have hk : KM sg0 sg21 ∧ sg21 0 25 = nI (tk + 1) := ⟨hk.1.trans hk1.1, (hk1.2 25 (by decide) (by decide)).trans hk.2⟩
              refine W.eq (g2 := F0 m 115 ls []) rfl ?_
              refine lv_goto (tgt := 36) hx hb dX3_seek_115 (by decide) ?_
              exact ih _ (by omega) told (tk + 1) _ _ _ _ rfl (by omega) (by omega) hk hP hD hS (lv_sub hl [0, 1, 2] rfl)
          · have hc15 : tk = lim := (nI_eq (a := tk) (b := lim) (by omega) (by omega)).mp hc15
            refine lv_aload_n hx hb dX3_seek_87 rfl (lv_at hl 1 rfl) ?_
            refine lv_iconst (v := (nI 1)) hx hb dX3_seek_88 (by decide) ?_
            refine gw_put (C := RX3) (T := TX3) (N := 27) (ty := .boolean) hx hb hts inwX3 tyX3 tyX3_ok nmX3 hown hK hP hD hS 0 24 rfl rfl rfl (by decide) (hts _ a182) (fun _ h9 => h9) rfl (by decide +kernel) rfl rfl dX3_seek_89 (fun H locs hP hD hS => ?_)
            obtain ⟨sg25, esg25⟩ : ∃ z : Nat → Nat → Int32, z = gw_u sg4 0 (upd (sg4 0) 24 (nI 1)) := ⟨_, rfl⟩
            rw [← esg25] at hP hD
            have hk : KM sg0 sg25 ∧ sg25 0 25 = nI tk := ⟨by rw [esg25]; exact hk.1.ww (Or.inr rfl), by rw [esg25, m_upd _ (by decide)]; exact hk.2⟩
            exact hret _ _ _ _ _ hP hS dX3_seek_92 (⟨hk.1, rfl⟩)
        · refine lv_iinc (k := 0) (v := (nI (told - 1))) (lv' := [(2, .int (nI (told - 1))), (0, .ref (ad 0)), (1, .int (nI lim))]) hx hb dX3_seek_73 hl rfl (nI_m1 (by omega)) (by decide) rfl (fun ls hl => ?_)
          refine lv_goto (tgt := 36) hx hb dX3_seek_76 (by decide) ?_
          exact ih _ (by omega) (told - 1) tk _ _ _ _ rfl (by omega) (by omega) hk hP hD hS (lv_sub hl [0, 1, 2] rfl)
  refine lv_aload_n hx hb dX3_seek_0 rfl (lv_at hl 0 rfl) ?_
  refine lv_iconst (v := (nI 0)) hx hb dX3_seek_1 (by decide) ?_
  refine gw_put (C := RX3) (T := TX3) (N := 27) (ty := .boolean) hx hb hts inwX3 tyX3 tyX3_ok nmX3 hown hK hP hD hS 0 23 rfl rfl rfl (by decide) (hts _ a164) (fun _ h9 => h9) rfl (by decide +kernel) rfl rfl dX3_seek_2 (fun H locs hP hD hS => ?_)
  obtain ⟨sg26, esg26⟩ : ∃ z : Nat → Nat → Int32, z = gw_u sg0 0 (upd (sg0 0) 23 (nI 0)) := ⟨_, rfl⟩
  rw [← esg26] at hP hD
  have hk : KM sg0 sg26 := by rw [esg26]; exact hk.wh (Or.inl rfl)
  refine lv_aload_n hx hb dX3_seek_5 rfl (lv_at hl 0 rfl) ?_
  refine lv_iconst (v := (nI 0)) hx hb dX3_seek_6 (by decide) ?_
  refine gw_put (C := RX3) (T := TX3) (N := 27) (ty := .boolean) hx hb hts inwX3 tyX3 tyX3_ok nmX3 hown hK hP hD hS 0 24 rfl rfl rfl (by decide) (hts _ a182) (fun _ h9 => h9) rfl (by decide +kernel) rfl rfl dX3_seek_7 (fun H locs hP hD hS => ?_)
  obtain ⟨sg27, esg27⟩ : ∃ z : Nat → Nat → Int32, z = gw_u sg26 0 (upd (sg26 0) 24 (nI 0)) := ⟨_, rfl⟩
  rw [← esg27] at hP hD
  have hk : KM sg0 sg27 := by rw [esg27]; exact hk.ww (Or.inl rfl)
  refine lv_aload_n hx hb dX3_seek_10 rfl (lv_at hl 0 rfl) ?_
  refine lv_iconst (v := (nI 0)) hx hb dX3_seek_11 (by decide) ?_
  refine gw_put (C := RX3) (T := TX3) (N := 27) (ty := .int) hx hb hts inwX3 tyX3 tyX3_ok nmX3 hown hK hP hD hS 0 25 rfl rfl rfl (by decide) (hts _ a177) (fun _ h9 => h9) rfl (by decide +kernel) rfl rfl dX3_seek_12 (fun H locs hP hD hS => ?_)
  obtain ⟨sg28, esg28⟩ : ∃ z : Nat → Nat → Int32, z = gw_u sg27 0 (upd (sg27 0) 25 (nI 0)) := ⟨_, rfl⟩
  rw [← esg28] at hP hD
  have hk : KM sg0 sg28 := by rw [esg28]; exact hk.wf (by decide) (by decide) (by decide) _
  refine lv_aload_n hx hb dX3_seek_15 rfl (lv_at hl 0 rfl) ?_
  refine gw_geti (C := RX3) (T := TX3) (N := 27) hx hb hts inwX3 hown hK hP 0 3 rfl rfl rfl (by decide) (hts _ a149) (fun _ h9 => h9) dX3_seek_16 ?_
  refine gw_top (y := (nI N)) (hk.2.trans eN) ?_
  refine lv_if_ne (tgt := 27) hx hb dX3_seek_19 (by decide) (fun hc29 => ?_) (fun hc29 => ?_)
  · rw [← nI_0] at hc29
    have hc29 : ¬ (N = 0) := fun q => hc29 ((nI_eq (a := N) (b := 0) (by omega) (by omega)).mpr q)
    refine lv_iconst (v := (nI 1)) hx hb dX3_seek_27 (by decide) ?_
    refine lv_istore_n (lv' := [(2, .int (nI 1)), (0, .ref (ad 0)), (1, .int (nI lim))]) hx hb dX3_seek_28 rfl hl (by decide) rfl (fun ls hl => ?_)
    refine lv_aload_n hx hb dX3_seek_29 rfl (lv_at hl 1 rfl) ?_
    refine gw_getr (C := RX3) (T := TX3) (N := 27) hx hb hts inwX3 hown hK hP 0 21 11 rfl rfl rfl (by decide) (hts _ a158) (fun _ h9 => h9) dX3_seek_30 ?_
    refine lv_iconst (v := (nI 0)) hx hb dX3_seek_33 (by decide) ?_
    refine lv_iconst (v := (-1)) hx hb dX3_seek_34 (by decide) ?_
    refine gw_ast hx hb hK hP hD hS 11 0 (n := 6) rfl rfl (i := 0) (by omega) (by decide) dX3_seek_35 (fun H locs hP hD hS => ?_)
    obtain ⟨sg30, esg30⟩ : ∃ z : Nat → Nat → Int32, z = gw_u sg28 11 (upd (sg28 11) 0 (-1)) := ⟨_, rfl⟩
    rw [← esg30] at hP hD
    have hk : KM sg0 sg30 := by rw [esg30]; exact hk.wa 11 (by decide) (by decide) _
    exact c36 _ 1 0 _ _ _ _ rfl (by omega) (by omega) (⟨hk, by simp [esg30, esg28, esg27, esg26, gw_u, upd]⟩) hP hD hS (lv_sub hl [0, 1, 2] rfl)
  · rw [← nI_0] at hc29
    have hc29 : N = 0 := (nI_eq (a := N) (b := 0) (by omega) (by omega)).mp hc29
    refine lv_aload_n hx hb dX3_seek_22 rfl (lv_at hl 0 rfl) ?_
    refine gc_go0 (va_runV (As := []) (rest := []) ⟨hx, hb, hml, hown, hts⟩ (m_X3_look l hl9 D cI cJ ad sg28 _  hk.1) (cwV 0 hts (gwV a178 a179 a180 a135 a181) rfl rfl rfl (by decide +kernel) ⟨by decide, by decide⟩) (gc_preV0 hK hP hD hS hA hE rfl rfl rfl) rfl rfl hl.1 rfl (lv_room (Nat.le_of_ble_eq_true rfl)) dX3_seek_23 ⟨by decide, by decide⟩) hD hS hA (fun v31 sg33 H locs hp34 hP hD hS => ?_)
    obtain ⟨hk1, rfl⟩ := hp34
    have hk := hk.trans hk1.1
    refine W.eq (g2 := F0 m 26 ls []) rfl ?_
    exact hret _ _ _ _ _ hP hS dX3_seek_26 (⟨hk, rfl⟩)
