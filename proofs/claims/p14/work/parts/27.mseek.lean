abbrev rmf_X3_lesser : Room := { frames := 0, cells := 0, slots := 0, locals := 0 }
set_option maxRecDepth 100000 in
set_option maxHeartbeats 4000000 in
theorem m_f_X3_lesser (l : Launch) (hl9 : l.stackTraces = false) (D : va_G) (cI : ClassId) (cJ : ClassId × ClassId) (ad : Nat → Nat) (sg0 : Nat → Nat → Int32) (sz : Nat) (x0 : Int32) (x1 : Int32) : gc_M l yX3_lesser wsX3_lesser rmf_X3_lesser D vwCl (tyS cI cJ) cI cJ gxT gxN SE [.int x0, .int x1] ad sg0 sz 0 0 (fun v sg2 => v = some (.int (mnW x0 x1))) := by
  refine gc_Mi_of (cc := cX3_lesser) (maxL := 2) (by decide) rfl (Nat.le_of_ble_eq_true rfl) ?_
  intro p e s m below meth c A ls Q hin hE hret
  obtain ⟨⟨hx, hb, hml, hown, hts⟩, -, hlocks, -, hA, hP, hK, hD, hS, hl⟩ := hin
  have hts : ∀ w ∈ wsAll, w.before ([.int x0, .int x1] : List Value).toArray s = true := fun w h => hts w (List.mem_cons_of_mem _ h)
  have hl : lv_has ls 2 [(0, .int x0), (1, .int x1)] := hl
  refine lv_iload_n hx hb dX3_lesser_0 rfl (lv_at hl 0 rfl) ?_
  refine lv_iload_n hx hb dX3_lesser_1 rfl (lv_at hl 1 rfl) ?_
  refine lv_icmp_ge (tgt := 9) hx hb dX3_lesser_2 (by decide) (fun hc9 => ?_) (fun hc9 => ?_)
  · refine lv_iload_n hx hb dX3_lesser_9 rfl (lv_at hl 1 rfl) ?_
    exact hret _ _ _ _ _ _ hP hS dX3_lesser_10 (by unfold mnW; first | rw [if_neg (i_nlt.mpr hc9)] | rw [if_pos (i_nle.mp hc9)])
  · refine lv_iload_n hx hb dX3_lesser_5 rfl (lv_at hl 0 rfl) ?_
    refine lv_goto (tgt := 10) hx hb dX3_lesser_6 (by decide) ?_
    exact hret _ _ _ _ _ _ hP hS dX3_lesser_10 (by unfold mnW; first | rw [if_neg (i_nlt.mpr hc9)] | rw [if_pos (i_nle.mp hc9)])
abbrev rmf_X3_minutesOf_count : Room := { frames := 0, cells := 0, slots := 0, locals := 0 }
set_option maxRecDepth 100000 in
set_option maxHeartbeats 4000000 in
theorem m_f_X3_minutesOf_count (l : Launch) (hl9 : l.stackTraces = false) (D : va_G) (cI : ClassId) (cJ : ClassId × ClassId) (ad : Nat → Nat) (sg0 : Nat → Nat → Int32) (sz : Nat) (mn : Nat) (hmn : mn < 7) : gc_M l yX3_minutesOf wsX3_minutesOf rmf_X3_minutesOf_count D vwCl (tyS cI cJ) cI cJ gxT gxN SM [.ref (ad 0), .ref (ad 11), .int (nI mn)] ad sg0 sz 0 0 (fun v sg2 => sg2 = sg0 ∧ v = some (.int (mS sg0 11 mn))) := by
  refine gc_Mi_of (cc := cX3_minutesOf) (maxL := 5) (by decide) rfl (Nat.le_of_ble_eq_true rfl) ?_
  intro p e s m below meth c A ls Q hin hE hret
  obtain ⟨⟨hx, hb, hml, hown, hts⟩, -, hlocks, -, hA, hP, hK, hD, hS, hl⟩ := hin
  have hts : ∀ w ∈ wsAll, w.before ([.ref (ad 0), .ref (ad 11), .int (nI mn)] : List Value).toArray s = true := fun w h => hts w (List.mem_cons_of_mem _ h)
  have hl : lv_has ls 5 [(0, .ref (ad 0)), (1, .ref (ad 11)), (2, .int (nI mn))] := hl
  have c5 : ∀ (n9 : Nat) (i : Nat) (x3 : Int32) (sg : Nat → Nat → Int32) (H : Heap) (locs : List Loc) (ls : Array Slot), mn - i = n9 → i ≤ mn → (sg = sg0 ∧ x3 = mS sg0 11 i) → va_P D vwCl (gw cI cJ ad sg SM) H → va_D A (gw cI cJ ad sg SM) → va_S A s.heap H locs → lv_has ls 5 [(4, .int (nI i)), (3, .int x3), (0, .ref (ad 0)), (1, .ref (ad 11)), (2, .int (nI mn))] → W p l e rmf_X3_minutesOf_count s m ([.ref (ad 0), .ref (ad 11), .int (nI mn)] : List Value).toArray below meth c H locs 0 0 Q (F0 m 5 ls []) := by
    intro n9
    induction n9 using Nat.strongRecOn with
    | ind n9 ih =>
    intro i x3 sg H locs ls hn h1 hk hP hD hS hl
    subst hn
    refine lv_iload hx hb dX3_minutesOf_5 (lv_at hl 0 rfl) ?_
    refine lv_iload_n hx hb dX3_minutesOf_7 rfl (lv_at hl 4 rfl) ?_
    refine lv_icmp_ge (tgt := 48) hx hb dX3_minutesOf_8 (by decide) (fun hc1 => ?_) (fun hc1 => ?_)
    · have hc1 : mn ≤ i := (nI_leI (a := mn) (b := i) (by omega) (by omega)).mp hc1
      refine lv_iload_n hx hb dX3_minutesOf_48 rfl (lv_at hl 1 rfl) ?_
      exact hret _ _ _ _ _ _ hP hS dX3_minutesOf_49 (⟨hk.1, by rw [hk.2, show i = mn by omega]⟩)
    · have hc1 : ¬ (mn ≤ i) := fun q => hc1 ((nI_leI (a := mn) (b := i) (by omega) (by omega)).mpr q)
      refine lv_iload_n hx hb dX3_minutesOf_11 rfl (lv_at hl 1 rfl) ?_
      refine lv_aload_n hx hb dX3_minutesOf_12 rfl (lv_at hl 3 rfl) ?_
      refine lv_iload hx hb dX3_minutesOf_13 (lv_at hl 0 rfl) ?_
      refine gw_ald hx hb hK hP 11 0 (n := 6) rfl rfl (i := i) (by omega) (by decide) dX3_minutesOf_15 ?_
      refine lv_aload_n hx hb dX3_minutesOf_16 rfl (lv_at hl 2 rfl) ?_
      refine gw_getr (C := RX3) (T := TX3) (N := 27) hx hb hts inwX3 hown hK hP 0 5 4 rfl rfl rfl (by decide) (hts _ a156) (fun _ h9 => h9) dX3_minutesOf_17 ?_
      refine lv_iload hx hb dX3_minutesOf_20 (lv_at hl 0 rfl) ?_
      refine gw_ald hx hb hK hP 4 0 (n := 6) rfl rfl (i := i) (by omega) (by decide) dX3_minutesOf_22 ?_
      refine lv_imul hx hb dX3_minutesOf_23 ?_
      refine lv_aload_n hx hb dX3_minutesOf_24 rfl (lv_at hl 3 rfl) ?_
      refine lv_iload hx hb dX3_minutesOf_25 (lv_at hl 0 rfl) ?_
      refine gw_ald hx hb hK hP 11 0 (n := 6) rfl rfl (i := i) (by omega) (by decide) dX3_minutesOf_27 ?_
      refine lv_if_le (tgt := 38) hx hb dX3_minutesOf_28 (by decide) (fun hc9 => ?_) (fun hc9 => ?_)
      · refine lv_iconst (v := (nI 0)) hx hb dX3_minutesOf_38 (by decide) ?_
        refine lv_iadd hx hb dX3_minutesOf_39 ?_
        refine lv_iadd hx hb dX3_minutesOf_40 ?_
        refine lv_istore_n (lv' := [(3, .int (x3 + (((sg 11 i) * (sg 4 i)) + (nI 0)))), (4, .int (nI i)), (0, .ref (ad 0)), (1, .ref (ad 11)), (2, .int (nI mn))]) hx hb dX3_minutesOf_41 rfl hl (by decide) rfl (fun ls hl => ?_)
        refine lv_iinc (k := 1) (v := (nI (i + 1))) (lv' := [(4, .int (nI (i + 1))), (3, .int (x3 + (((sg 11 i) * (sg 4 i)) + (nI 0)))), (0, .ref (ad 0)), (1, .ref (ad 11)), (2, .int (nI mn))]) hx hb dX3_minutesOf_42 hl rfl (nI_1 _) (by decide) rfl (fun ls hl => ?_)
        refine lv_goto (tgt := 5) hx hb dX3_minutesOf_45 (by decide) ?_
        exact ih _ (by omega) (i + 1) (x3 + (((sg 11 i) * (sg 4 i)) + (nI 0))) _ _ _ _ rfl (by omega) (⟨hk.1, by rw [hk.2, hk.1]; rw [hk.1] at hc9; simp [mS, hc9]⟩) hP hD hS (lv_sub hl [0, 1, 2, 3, 4] rfl)
      · refine lv_aload_n hx hb dX3_minutesOf_31 rfl (lv_at hl 2 rfl) ?_
        refine gw_geti (C := RX3) (T := TX3) (N := 27) hx hb hts inwX3 hown hK hP 0 12 rfl rfl rfl (by decide) (hts _ a148) (fun _ h9 => h9) dX3_minutesOf_32 ?_
        refine lv_goto (tgt := 39) hx hb dX3_minutesOf_35 (by decide) ?_
        refine lv_iadd hx hb dX3_minutesOf_39 ?_
        refine lv_iadd hx hb dX3_minutesOf_40 ?_
        refine lv_istore_n (lv' := [(3, .int (x3 + (((sg 11 i) * (sg 4 i)) + (sg 0 12)))), (4, .int (nI i)), (0, .ref (ad 0)), (1, .ref (ad 11)), (2, .int (nI mn))]) hx hb dX3_minutesOf_41 rfl hl (by decide) rfl (fun ls hl => ?_)
        refine lv_iinc (k := 1) (v := (nI (i + 1))) (lv' := [(4, .int (nI (i + 1))), (3, .int (x3 + (((sg 11 i) * (sg 4 i)) + (sg 0 12)))), (0, .ref (ad 0)), (1, .ref (ad 11)), (2, .int (nI mn))]) hx hb dX3_minutesOf_42 hl rfl (nI_1 _) (by decide) rfl (fun ls hl => ?_)
        refine lv_goto (tgt := 5) hx hb dX3_minutesOf_45 (by decide) ?_
        exact ih _ (by omega) (i + 1) (x3 + (((sg 11 i) * (sg 4 i)) + (sg 0 12))) _ _ _ _ rfl (by omega) (⟨hk.1, by rw [hk.2, hk.1]; rw [hk.1] at hc9; simp [mS, hc9]⟩) hP hD hS (lv_sub hl [0, 1, 2, 3, 4] rfl)
  refine lv_iconst (v := (nI 0)) hx hb dX3_minutesOf_0 (by decide) ?_
  refine lv_istore_n (lv' := [(3, .int (nI 0)), (0, .ref (ad 0)), (1, .ref (ad 11)), (2, .int (nI mn))]) hx hb dX3_minutesOf_1 rfl hl (by decide) rfl (fun ls hl => ?_)
  refine lv_iconst (v := (nI 0)) hx hb dX3_minutesOf_2 (by decide) ?_
  refine lv_istore (lv' := [(4, .int (nI 0)), (3, .int (nI 0)), (0, .ref (ad 0)), (1, .ref (ad 11)), (2, .int (nI mn))]) hx hb dX3_minutesOf_3 hl (by decide) rfl (fun ls hl => ?_)
  exact c5 _ 0 (nI 0) _ _ _ _ rfl (by omega) (⟨rfl, rfl⟩) hP hD hS (lv_sub hl [0, 1, 2, 3, 4] rfl)
abbrev rmf_X3_madeOf_count : Room := { frames := 0, cells := 0, slots := 0, locals := 0 }
set_option maxRecDepth 100000 in
set_option maxHeartbeats 4000000 in
theorem m_f_X3_madeOf_count (l : Launch) (hl9 : l.stackTraces = false) (D : va_G) (cI : ClassId) (cJ : ClassId × ClassId) (ad : Nat → Nat) (sg0 : Nat → Nat → Int32) (sz : Nat) (pr : Nat) (hpr : pr < 4) (N : Nat) (hN : N ≤ 6) (eN : sg0 0 3 = nI N) : gc_M l yX3_madeOf wsX3_madeOf rmf_X3_madeOf_count D vwCl (tyS cI cJ) cI cJ gxT gxN SM [.ref (ad 0), .ref (ad 11), .int (nI pr)] ad sg0 sz 0 0 (fun v sg2 => sg2 = sg0 ∧ v = some (.int (dS sg0 11 pr N))) := by
  refine gc_Mi_of (cc := cX3_madeOf) (maxL := 5) (by decide) rfl (Nat.le_of_ble_eq_true rfl) ?_
  intro p e s m below meth c A ls Q hin hE hret
  obtain ⟨⟨hx, hb, hml, hown, hts⟩, -, hlocks, -, hA, hP, hK, hD, hS, hl⟩ := hin
  have hts : ∀ w ∈ wsAll, w.before ([.ref (ad 0), .ref (ad 11), .int (nI pr)] : List Value).toArray s = true := fun w h => hts w (List.mem_cons_of_mem _ h)
  have hl : lv_has ls 5 [(0, .ref (ad 0)), (1, .ref (ad 11)), (2, .int (nI pr))] := hl
  have c10 : ∀ (n9 : Nat) (i : Nat) (x3 : Int32) (sg : Nat → Nat → Int32) (H : Heap) (locs : List Loc) (ls : Array Slot), 6 - i = n9 → i ≤ N → (sg = sg0 ∧ x3 = dS sg0 11 pr i) → va_P D vwCl (gw cI cJ ad sg SM) H → va_D A (gw cI cJ ad sg SM) → va_S A s.heap H locs → lv_has ls 5 [(4, .int (nI i)), (3, .int x3), (0, .ref (ad 0)), (1, .ref (ad 11)), (2, .int (nI pr))] → W p l e rmf_X3_madeOf_count s m ([.ref (ad 0), .ref (ad 11), .int (nI pr)] : List Value).toArray below meth c H locs 0 0 Q (F0 m 10 ls []) := by
    intro n9
    induction n9 using Nat.strongRecOn with
    | ind n9 ih =>
    intro i x3 sg H locs ls hn h1 hk hP hD hS hl
    subst hn
    refine lv_iload hx hb dX3_madeOf_10 (lv_at hl 0 rfl) ?_
    refine lv_aload_n hx hb dX3_madeOf_12 rfl (lv_at hl 2 rfl) ?_
    refine gw_geti (C := RX3) (T := TX3) (N := 27) hx hb hts inwX3 hown hK hP 0 3 rfl rfl rfl (by decide) (hts _ a149) (fun _ h9 => h9) dX3_madeOf_13 ?_
    refine gw_top (y := (nI N)) (by rw [hk.1]; exact eN) ?_
    refine lv_icmp_ge (tgt := 44) hx hb dX3_madeOf_16 (by decide) (fun hc1 => ?_) (fun hc1 => ?_)
    · have hc1 : N ≤ i := (nI_leI (a := N) (b := i) (by omega) (by omega)).mp hc1
      refine lv_iload_n hx hb dX3_madeOf_44 rfl (lv_at hl 1 rfl) ?_
      exact hret _ _ _ _ _ _ hP hS dX3_madeOf_45 (⟨hk.1, by rw [hk.2, show i = N by omega]⟩)
    · have hc1 : ¬ (N ≤ i) := fun q => hc1 ((nI_leI (a := N) (b := i) (by omega) (by omega)).mpr q)
      refine lv_iload_n hx hb dX3_madeOf_19 rfl (lv_at hl 1 rfl) ?_
      refine lv_aload_n hx hb dX3_madeOf_20 rfl (lv_at hl 3 rfl) ?_
      refine lv_iload hx hb dX3_madeOf_21 (lv_at hl 0 rfl) ?_
      refine gw_ald hx hb hK hP 11 0 (n := 6) rfl rfl (i := i) (by omega) (by decide) dX3_madeOf_23 ?_
      refine lv_aload_n hx hb dX3_madeOf_24 rfl (lv_at hl 2 rfl) ?_
      refine gw_getr (C := RX3) (T := TX3) (N := 27) hx hb hts inwX3 hown hK hP 0 6 5 rfl rfl rfl (by decide) (hts _ a154) (fun _ h9 => h9) dX3_madeOf_25 ?_
      refine lv_iconst (v := (nI 4)) hx hb dX3_madeOf_28 (by decide) ?_
      refine lv_iload hx hb dX3_madeOf_29 (lv_at hl 0 rfl) ?_
      refine lv_imul hx hb dX3_madeOf_31 ?_
      refine gw_top (y := (nI (4 * i))) (nI_mul 4 i) ?_
      refine lv_iload_n hx hb dX3_madeOf_32 rfl (lv_at hl 4 rfl) ?_
      refine lv_iadd hx hb dX3_madeOf_33 ?_
      refine gw_top (y := (nI (4 * i + pr))) (nI_add _ _) ?_
      refine gw_ald hx hb hK hP 5 0 (n := 24) rfl rfl (i := 4 * i + pr) (by omega) (by decide) dX3_madeOf_34 ?_
      refine lv_imul hx hb dX3_madeOf_35 ?_
      refine lv_iadd hx hb dX3_madeOf_36 ?_
      refine lv_istore_n (lv' := [(3, .int (x3 + ((sg 11 i) * (sg 5 (4 * i + pr))))), (4, .int (nI i)), (0, .ref (ad 0)), (1, .ref (ad 11)), (2, .int (nI pr))]) hx hb dX3_madeOf_37 rfl hl (by decide) rfl (fun ls hl => ?_)
      refine lv_iinc (k := 1) (v := (nI (i + 1))) (lv' := [(4, .int (nI (i + 1))), (3, .int (x3 + ((sg 11 i) * (sg 5 (4 * i + pr))))), (0, .ref (ad 0)), (1, .ref (ad 11)), (2, .int (nI pr))]) hx hb dX3_madeOf_38 hl rfl (nI_1 _) (by decide) rfl (fun ls hl => ?_)
      refine lv_goto (tgt := 10) hx hb dX3_madeOf_41 (by decide) ?_
      exact ih _ (by omega) (i + 1) (x3 + ((sg 11 i) * (sg 5 (4 * i + pr)))) _ _ _ _ rfl (by omega) (⟨hk.1, by rw [hk.2, hk.1]; rfl⟩) hP hD hS (lv_sub hl [0, 1, 2, 3, 4] rfl)
  refine lv_aload_n hx hb dX3_madeOf_0 rfl (lv_at hl 0 rfl) ?_
  refine gw_getr (C := RX3) (T := TX3) (N := 27) hx hb hts inwX3 hown hK hP 0 10 9 rfl rfl rfl (by decide) (hts _ a157) (fun _ h9 => h9) dX3_madeOf_1 ?_
  refine lv_iload_n hx hb dX3_madeOf_4 rfl (lv_at hl 2 rfl) ?_
  refine gw_ald hx hb hK hP 9 0 (n := 4) rfl rfl (i := pr) (by omega) (by decide) dX3_madeOf_5 ?_
  refine lv_istore_n (lv' := [(3, .int (sg0 9 pr)), (0, .ref (ad 0)), (1, .ref (ad 11)), (2, .int (nI pr))]) hx hb dX3_madeOf_6 rfl hl (by decide) rfl (fun ls hl => ?_)
  refine lv_iconst (v := (nI 0)) hx hb dX3_madeOf_7 (by decide) ?_
  refine lv_istore (lv' := [(4, .int (nI 0)), (3, .int (sg0 9 pr)), (0, .ref (ad 0)), (1, .ref (ad 11)), (2, .int (nI pr))]) hx hb dX3_madeOf_8 hl (by decide) rfl (fun ls hl => ?_)
  exact c10 _ 0 (sg0 9 pr) _ _ _ _ rfl (by omega) (⟨rfl, rfl⟩) hP hD hS (lv_sub hl [0, 1, 2, 3, 4] rfl)
abbrev rmf_X3_minutesOf_plan : Room := { frames := 0, cells := 0, slots := 0, locals := 0 }
set_option maxRecDepth 100000 in
set_option maxHeartbeats 4000000 in
theorem m_f_X3_minutesOf_plan (l : Launch) (hl9 : l.stackTraces = false) (D : va_G) (cI : ClassId) (cJ : ClassId × ClassId) (ad : Nat → Nat) (sg0 : Nat → Nat → Int32) (sz : Nat) (mn : Nat) (hmn : mn < 7) : gc_M l yX3_minutesOf wsX3_minutesOf rmf_X3_minutesOf_plan D vwCl (tyS cI cJ) cI cJ gxT gxN SM [.ref (ad 0), .ref (ad 10), .int (nI mn)] ad sg0 sz 0 0 (fun v sg2 => sg2 = sg0 ∧ v = some (.int (mS sg0 10 mn))) := by
  refine gc_Mi_of (cc := cX3_minutesOf) (maxL := 5) (by decide) rfl (Nat.le_of_ble_eq_true rfl) ?_
  intro p e s m below meth c A ls Q hin hE hret
  obtain ⟨⟨hx, hb, hml, hown, hts⟩, -, hlocks, -, hA, hP, hK, hD, hS, hl⟩ := hin
  have hts : ∀ w ∈ wsAll, w.before ([.ref (ad 0), .ref (ad 10), .int (nI mn)] : List Value).toArray s = true := fun w h => hts w (List.mem_cons_of_mem _ h)
  have hl : lv_has ls 5 [(0, .ref (ad 0)), (1, .ref (ad 10)), (2, .int (nI mn))] := hl
  have c5 : ∀ (n9 : Nat) (i : Nat) (x3 : Int32) (sg : Nat → Nat → Int32) (H : Heap) (locs : List Loc) (ls : Array Slot), mn - i = n9 → i ≤ mn → (sg = sg0 ∧ x3 = mS sg0 10 i) → va_P D vwCl (gw cI cJ ad sg SM) H → va_D A (gw cI cJ ad sg SM) → va_S A s.heap H locs → lv_has ls 5 [(4, .int (nI i)), (3, .int x3), (0, .ref (ad 0)), (1, .ref (ad 10)), (2, .int (nI mn))] → W p l e rmf_X3_minutesOf_plan s m ([.ref (ad 0), .ref (ad 10), .int (nI mn)] : List Value).toArray below meth c H locs 0 0 Q (F0 m 5 ls []) := by
    intro n9
    induction n9 using Nat.strongRecOn with
    | ind n9 ih =>
    intro i x3 sg H locs ls hn h1 hk hP hD hS hl
    subst hn
    refine lv_iload hx hb dX3_minutesOf_5 (lv_at hl 0 rfl) ?_
    refine lv_iload_n hx hb dX3_minutesOf_7 rfl (lv_at hl 4 rfl) ?_
    refine lv_icmp_ge (tgt := 48) hx hb dX3_minutesOf_8 (by decide) (fun hc1 => ?_) (fun hc1 => ?_)
    · have hc1 : mn ≤ i := (nI_leI (a := mn) (b := i) (by omega) (by omega)).mp hc1
      refine lv_iload_n hx hb dX3_minutesOf_48 rfl (lv_at hl 1 rfl) ?_
      exact hret _ _ _ _ _ _ hP hS dX3_minutesOf_49 (⟨hk.1, by rw [hk.2, show i = mn by omega]⟩)
    · have hc1 : ¬ (mn ≤ i) := fun q => hc1 ((nI_leI (a := mn) (b := i) (by omega) (by omega)).mpr q)
      refine lv_iload_n hx hb dX3_minutesOf_11 rfl (lv_at hl 1 rfl) ?_
      refine lv_aload_n hx hb dX3_minutesOf_12 rfl (lv_at hl 3 rfl) ?_
      refine lv_iload hx hb dX3_minutesOf_13 (lv_at hl 0 rfl) ?_
      refine gw_ald hx hb hK hP 10 0 (n := 6) rfl rfl (i := i) (by omega) (by decide) dX3_minutesOf_15 ?_
      refine lv_aload_n hx hb dX3_minutesOf_16 rfl (lv_at hl 2 rfl) ?_
      refine gw_getr (C := RX3) (T := TX3) (N := 27) hx hb hts inwX3 hown hK hP 0 5 4 rfl rfl rfl (by decide) (hts _ a156) (fun _ h9 => h9) dX3_minutesOf_17 ?_
      refine lv_iload hx hb dX3_minutesOf_20 (lv_at hl 0 rfl) ?_
      refine gw_ald hx hb hK hP 4 0 (n := 6) rfl rfl (i := i) (by omega) (by decide) dX3_minutesOf_22 ?_
      refine lv_imul hx hb dX3_minutesOf_23 ?_
      refine lv_aload_n hx hb dX3_minutesOf_24 rfl (lv_at hl 3 rfl) ?_
      refine lv_iload hx hb dX3_minutesOf_25 (lv_at hl 0 rfl) ?_
      refine gw_ald hx hb hK hP 10 0 (n := 6) rfl rfl (i := i) (by omega) (by decide) dX3_minutesOf_27 ?_
      refine lv_if_le (tgt := 38) hx hb dX3_minutesOf_28 (by decide) (fun hc9 => ?_) (fun hc9 => ?_)
      · refine lv_iconst (v := (nI 0)) hx hb dX3_minutesOf_38 (by decide) ?_
        refine lv_iadd hx hb dX3_minutesOf_39 ?_
        refine lv_iadd hx hb dX3_minutesOf_40 ?_
        refine lv_istore_n (lv' := [(3, .int (x3 + (((sg 10 i) * (sg 4 i)) + (nI 0)))), (4, .int (nI i)), (0, .ref (ad 0)), (1, .ref (ad 10)), (2, .int (nI mn))]) hx hb dX3_minutesOf_41 rfl hl (by decide) rfl (fun ls hl => ?_)
        refine lv_iinc (k := 1) (v := (nI (i + 1))) (lv' := [(4, .int (nI (i + 1))), (3, .int (x3 + (((sg 10 i) * (sg 4 i)) + (nI 0)))), (0, .ref (ad 0)), (1, .ref (ad 10)), (2, .int (nI mn))]) hx hb dX3_minutesOf_42 hl rfl (nI_1 _) (by decide) rfl (fun ls hl => ?_)
        refine lv_goto (tgt := 5) hx hb dX3_minutesOf_45 (by decide) ?_
        exact ih _ (by omega) (i + 1) (x3 + (((sg 10 i) * (sg 4 i)) + (nI 0))) _ _ _ _ rfl (by omega) (⟨hk.1, by rw [hk.2, hk.1]; rw [hk.1] at hc9; simp [mS, hc9]⟩) hP hD hS (lv_sub hl [0, 1, 2, 3, 4] rfl)
      · refine lv_aload_n hx hb dX3_minutesOf_31 rfl (lv_at hl 2 rfl) ?_
        refine gw_geti (C := RX3) (T := TX3) (N := 27) hx hb hts inwX3 hown hK hP 0 12 rfl rfl rfl (by decide) (hts _ a148) (fun _ h9 => h9) dX3_minutesOf_32 ?_
        refine lv_goto (tgt := 39) hx hb dX3_minutesOf_35 (by decide) ?_
        refine lv_iadd hx hb dX3_minutesOf_39 ?_
        refine lv_iadd hx hb dX3_minutesOf_40 ?_
        refine lv_istore_n (lv' := [(3, .int (x3 + (((sg 10 i) * (sg 4 i)) + (sg 0 12)))), (4, .int (nI i)), (0, .ref (ad 0)), (1, .ref (ad 10)), (2, .int (nI mn))]) hx hb dX3_minutesOf_41 rfl hl (by decide) rfl (fun ls hl => ?_)
        refine lv_iinc (k := 1) (v := (nI (i + 1))) (lv' := [(4, .int (nI (i + 1))), (3, .int (x3 + (((sg 10 i) * (sg 4 i)) + (sg 0 12)))), (0, .ref (ad 0)), (1, .ref (ad 10)), (2, .int (nI mn))]) hx hb dX3_minutesOf_42 hl rfl (nI_1 _) (by decide) rfl (fun ls hl => ?_)
        refine lv_goto (tgt := 5) hx hb dX3_minutesOf_45 (by decide) ?_
        exact ih _ (by omega) (i + 1) (x3 + (((sg 10 i) * (sg 4 i)) + (sg 0 12))) _ _ _ _ rfl (by omega) (⟨hk.1, by rw [hk.2, hk.1]; rw [hk.1] at hc9; simp [mS, hc9]⟩) hP hD hS (lv_sub hl [0, 1, 2, 3, 4] rfl)
  refine lv_iconst (v := (nI 0)) hx hb dX3_minutesOf_0 (by decide) ?_
  refine lv_istore_n (lv' := [(3, .int (nI 0)), (0, .ref (ad 0)), (1, .ref (ad 10)), (2, .int (nI mn))]) hx hb dX3_minutesOf_1 rfl hl (by decide) rfl (fun ls hl => ?_)
  refine lv_iconst (v := (nI 0)) hx hb dX3_minutesOf_2 (by decide) ?_
  refine lv_istore (lv' := [(4, .int (nI 0)), (3, .int (nI 0)), (0, .ref (ad 0)), (1, .ref (ad 10)), (2, .int (nI mn))]) hx hb dX3_minutesOf_3 hl (by decide) rfl (fun ls hl => ?_)
  exact c5 _ 0 (nI 0) _ _ _ _ rfl (by omega) (⟨rfl, rfl⟩) hP hD hS (lv_sub hl [0, 1, 2, 3, 4] rfl)
abbrev rmf_X3_madeOf_plan : Room := { frames := 0, cells := 0, slots := 0, locals := 0 }
set_option maxRecDepth 100000 in
set_option maxHeartbeats 4000000 in
theorem m_f_X3_madeOf_plan (l : Launch) (hl9 : l.stackTraces = false) (D : va_G) (cI : ClassId) (cJ : ClassId × ClassId) (ad : Nat → Nat) (sg0 : Nat → Nat → Int32) (sz : Nat) (pr : Nat) (hpr : pr < 4) (N : Nat) (hN : N ≤ 6) (eN : sg0 0 3 = nI N) : gc_M l yX3_madeOf wsX3_madeOf rmf_X3_madeOf_plan D vwCl (tyS cI cJ) cI cJ gxT gxN SM [.ref (ad 0), .ref (ad 10), .int (nI pr)] ad sg0 sz 0 0 (fun v sg2 => sg2 = sg0 ∧ v = some (.int (dS sg0 10 pr N))) := by
  refine gc_Mi_of (cc := cX3_madeOf) (maxL := 5) (by decide) rfl (Nat.le_of_ble_eq_true rfl) ?_
  intro p e s m below meth c A ls Q hin hE hret
  obtain ⟨⟨hx, hb, hml, hown, hts⟩, -, hlocks, -, hA, hP, hK, hD, hS, hl⟩ := hin
  have hts : ∀ w ∈ wsAll, w.before ([.ref (ad 0), .ref (ad 10), .int (nI pr)] : List Value).toArray s = true := fun w h => hts w (List.mem_cons_of_mem _ h)
  have hl : lv_has ls 5 [(0, .ref (ad 0)), (1, .ref (ad 10)), (2, .int (nI pr))] := hl
  have c10 : ∀ (n9 : Nat) (i : Nat) (x3 : Int32) (sg : Nat → Nat → Int32) (H : Heap) (locs : List Loc) (ls : Array Slot), 6 - i = n9 → i ≤ N → (sg = sg0 ∧ x3 = dS sg0 10 pr i) → va_P D vwCl (gw cI cJ ad sg SM) H → va_D A (gw cI cJ ad sg SM) → va_S A s.heap H locs → lv_has ls 5 [(4, .int (nI i)), (3, .int x3), (0, .ref (ad 0)), (1, .ref (ad 10)), (2, .int (nI pr))] → W p l e rmf_X3_madeOf_plan s m ([.ref (ad 0), .ref (ad 10), .int (nI pr)] : List Value).toArray below meth c H locs 0 0 Q (F0 m 10 ls []) := by
    intro n9
    induction n9 using Nat.strongRecOn with
    | ind n9 ih =>
    intro i x3 sg H locs ls hn h1 hk hP hD hS hl
    subst hn
    refine lv_iload hx hb dX3_madeOf_10 (lv_at hl 0 rfl) ?_
    refine lv_aload_n hx hb dX3_madeOf_12 rfl (lv_at hl 2 rfl) ?_
    refine gw_geti (C := RX3) (T := TX3) (N := 27) hx hb hts inwX3 hown hK hP 0 3 rfl rfl rfl (by decide) (hts _ a149) (fun _ h9 => h9) dX3_madeOf_13 ?_
    refine gw_top (y := (nI N)) (by rw [hk.1]; exact eN) ?_
    refine lv_icmp_ge (tgt := 44) hx hb dX3_madeOf_16 (by decide) (fun hc1 => ?_) (fun hc1 => ?_)
    · have hc1 : N ≤ i := (nI_leI (a := N) (b := i) (by omega) (by omega)).mp hc1
      refine lv_iload_n hx hb dX3_madeOf_44 rfl (lv_at hl 1 rfl) ?_
      exact hret _ _ _ _ _ _ hP hS dX3_madeOf_45 (⟨hk.1, by rw [hk.2, show i = N by omega]⟩)
    · have hc1 : ¬ (N ≤ i) := fun q => hc1 ((nI_leI (a := N) (b := i) (by omega) (by omega)).mpr q)
      refine lv_iload_n hx hb dX3_madeOf_19 rfl (lv_at hl 1 rfl) ?_
      refine lv_aload_n hx hb dX3_madeOf_20 rfl (lv_at hl 3 rfl) ?_
      refine lv_iload hx hb dX3_madeOf_21 (lv_at hl 0 rfl) ?_
      refine gw_ald hx hb hK hP 10 0 (n := 6) rfl rfl (i := i) (by omega) (by decide) dX3_madeOf_23 ?_
      refine lv_aload_n hx hb dX3_madeOf_24 rfl (lv_at hl 2 rfl) ?_
      refine gw_getr (C := RX3) (T := TX3) (N := 27) hx hb hts inwX3 hown hK hP 0 6 5 rfl rfl rfl (by decide) (hts _ a154) (fun _ h9 => h9) dX3_madeOf_25 ?_
      refine lv_iconst (v := (nI 4)) hx hb dX3_madeOf_28 (by decide) ?_
      refine lv_iload hx hb dX3_madeOf_29 (lv_at hl 0 rfl) ?_
      refine lv_imul hx hb dX3_madeOf_31 ?_
      refine gw_top (y := (nI (4 * i))) (nI_mul 4 i) ?_
      refine lv_iload_n hx hb dX3_madeOf_32 rfl (lv_at hl 4 rfl) ?_
      refine lv_iadd hx hb dX3_madeOf_33 ?_
      refine gw_top (y := (nI (4 * i + pr))) (nI_add _ _) ?_
      refine gw_ald hx hb hK hP 5 0 (n := 24) rfl rfl (i := 4 * i + pr) (by omega) (by decide) dX3_madeOf_34 ?_
      refine lv_imul hx hb dX3_madeOf_35 ?_
      refine lv_iadd hx hb dX3_madeOf_36 ?_
      refine lv_istore_n (lv' := [(3, .int (x3 + ((sg 10 i) * (sg 5 (4 * i + pr))))), (4, .int (nI i)), (0, .ref (ad 0)), (1, .ref (ad 10)), (2, .int (nI pr))]) hx hb dX3_madeOf_37 rfl hl (by decide) rfl (fun ls hl => ?_)
      refine lv_iinc (k := 1) (v := (nI (i + 1))) (lv' := [(4, .int (nI (i + 1))), (3, .int (x3 + ((sg 10 i) * (sg 5 (4 * i + pr))))), (0, .ref (ad 0)), (1, .ref (ad 10)), (2, .int (nI pr))]) hx hb dX3_madeOf_38 hl rfl (nI_1 _) (by decide) rfl (fun ls hl => ?_)
      refine lv_goto (tgt := 10) hx hb dX3_madeOf_41 (by decide) ?_
      exact ih _ (by omega) (i + 1) (x3 + ((sg 10 i) * (sg 5 (4 * i + pr)))) _ _ _ _ rfl (by omega) (⟨hk.1, by rw [hk.2, hk.1]; rfl⟩) hP hD hS (lv_sub hl [0, 1, 2, 3, 4] rfl)
  refine lv_aload_n hx hb dX3_madeOf_0 rfl (lv_at hl 0 rfl) ?_
  refine gw_getr (C := RX3) (T := TX3) (N := 27) hx hb hts inwX3 hown hK hP 0 10 9 rfl rfl rfl (by decide) (hts _ a157) (fun _ h9 => h9) dX3_madeOf_1 ?_
  refine lv_iload_n hx hb dX3_madeOf_4 rfl (lv_at hl 2 rfl) ?_
  refine gw_ald hx hb hK hP 9 0 (n := 4) rfl rfl (i := pr) (by omega) (by decide) dX3_madeOf_5 ?_
  refine lv_istore_n (lv' := [(3, .int (sg0 9 pr)), (0, .ref (ad 0)), (1, .ref (ad 10)), (2, .int (nI pr))]) hx hb dX3_madeOf_6 rfl hl (by decide) rfl (fun ls hl => ?_)
  refine lv_iconst (v := (nI 0)) hx hb dX3_madeOf_7 (by decide) ?_
  refine lv_istore (lv' := [(4, .int (nI 0)), (3, .int (sg0 9 pr)), (0, .ref (ad 0)), (1, .ref (ad 10)), (2, .int (nI pr))]) hx hb dX3_madeOf_8 hl (by decide) rfl (fun ls hl => ?_)
  exact c10 _ 0 (sg0 9 pr) _ _ _ _ rfl (by omega) (⟨rfl, rfl⟩) hP hD hS (lv_sub hl [0, 1, 2, 3, 4] rfl)
abbrev rmf_X3_fits : Room := { frames := 1, cells := 0, slots := 0, locals := 24 }
set_option maxRecDepth 100000 in
set_option maxHeartbeats 4000000 in
theorem m_f_X3_fits (l : Launch) (hl9 : l.stackTraces = false) (D : va_G) (cI : ClassId) (cJ : ClassId × ClassId) (ad : Nat → Nat) (sg0 : Nat → Nat → Int32) (sz : Nat) (mn : Nat) (hmn : mn < 7) : gc_M l yX3_fits wsX3_fits rmf_X3_fits D vwCl (tyS cI cJ) cI cJ gxT gxN SM [.ref (ad 0), .int (nI mn)] ad sg0 sz 0 0 (fun v sg2 => sg2 = sg0 ∧ ((v = some (.int (nI 1)) ∧ ftS sg0 mn) ∨ (v = some (.int (nI 0)) ∧ ¬ ftS sg0 mn))) := by
  refine gc_Mz_of (cc := cX3_fits) (maxL := 5) (by decide) rfl (Nat.le_of_ble_eq_true rfl) ?_
  intro p e s m below meth c A ls Q hin hE hret
  obtain ⟨⟨hx, hb, hml, hown, hts⟩, -, hlocks, -, hA, hP, hK, hD, hS, hl⟩ := hin
  have hts : ∀ w ∈ wsAll, w.before ([.ref (ad 0), .int (nI mn)] : List Value).toArray s = true := fun w h => hts w (List.mem_cons_of_mem _ h)
  have hl : lv_has ls 5 [(0, .ref (ad 0)), (1, .int (nI mn))] := hl
  have c30 : ∀ (cq : Nat), (∀ (x3 : Int32) (sg : Nat → Nat → Int32) (H : Heap) (locs : List Loc) (ls : Array Slot), (sg = sg0 ∧ x3 = uS sg0 cq mn) → va_P D vwCl (gw cI cJ ad sg SM) H → va_D A (gw cI cJ ad sg SM) → va_S A s.heap H locs → lv_has ls 5 [(3, .int x3), (2, .int (nI cq)), (0, .ref (ad 0)), (1, .int (nI mn))] → W p l e rmf_X3_fits s m ([.ref (ad 0), .int (nI mn)] : List Value).toArray below meth c H locs 0 0 Q (F0 m 67 ls [])) → ∀ (n9 : Nat) (i : Nat) (x3 : Int32) (sg : Nat → Nat → Int32) (H : Heap) (locs : List Loc) (ls : Array Slot), mn - i = n9 → i ≤ mn → cq < 4 → (sg = sg0 ∧ x3 = uS sg0 cq i) → va_P D vwCl (gw cI cJ ad sg SM) H → va_D A (gw cI cJ ad sg SM) → va_S A s.heap H locs → lv_has ls 5 [(4, .int (nI i)), (3, .int x3), (2, .int (nI cq)), (0, .ref (ad 0)), (1, .int (nI mn))] → W p l e rmf_X3_fits s m ([.ref (ad 0), .int (nI mn)] : List Value).toArray below meth c H locs 0 0 Q (F0 m 30 ls []) := by
    intro cq hx9
    intro n9
    induction n9 using Nat.strongRecOn with
    | ind n9 ih =>
    intro i x3 sg H locs ls hn h1 h2 hk hP hD hS hl
    subst hn
    refine lv_iload hx hb dX3_fits_30 (lv_at hl 0 rfl) ?_
    refine lv_iload_n hx hb dX3_fits_32 rfl (lv_at hl 4 rfl) ?_
    refine lv_icmp_ge (tgt := 67) hx hb dX3_fits_33 (by decide) (fun hc1 => ?_) (fun hc1 => ?_)
    · have hc1 : mn ≤ i := (nI_leI (a := mn) (b := i) (by omega) (by omega)).mp hc1
      exact hx9 x3 _ _ _ _ (⟨hk.1, by rw [hk.2, show i = mn by omega]⟩) hP hD hS (lv_sub hl [1, 2, 3, 4] rfl)
    · have hc1 : ¬ (mn ≤ i) := fun q => hc1 ((nI_leI (a := mn) (b := i) (by omega) (by omega)).mpr q)
      refine lv_iload_n hx hb dX3_fits_36 rfl (lv_at hl 1 rfl) ?_
      refine lv_aload_n hx hb dX3_fits_37 rfl (lv_at hl 3 rfl) ?_
      refine gw_getr (C := RX3) (T := TX3) (N := 27) hx hb hts inwX3 hown hK hP 0 4 3 rfl rfl rfl (by decide) (hts _ a155) (fun _ h9 => h9) dX3_fits_38 ?_
      refine lv_iload hx hb dX3_fits_41 (lv_at hl 0 rfl) ?_
      refine gw_ald hx hb hK hP 3 0 (n := 6) rfl rfl (i := i) (by omega) (by decide) dX3_fits_43 ?_
      refine lv_iload_n hx hb dX3_fits_44 rfl (lv_at hl 2 rfl) ?_
      refine lv_icmp_ne (tgt := 58) hx hb dX3_fits_45 (by decide) (fun hc45 => ?_) (fun hc45 => ?_)
      · refine lv_iconst (v := (nI 0)) hx hb dX3_fits_58 (by decide) ?_
        refine lv_iadd hx hb dX3_fits_59 ?_
        refine lv_istore_n (lv' := [(3, .int (x3 + (nI 0))), (4, .int (nI i)), (2, .int (nI cq)), (0, .ref (ad 0)), (1, .int (nI mn))]) hx hb dX3_fits_60 rfl hl (by decide) rfl (fun ls hl => ?_)
        refine lv_iinc (k := 1) (v := (nI (i + 1))) (lv' := [(4, .int (nI (i + 1))), (3, .int (x3 + (nI 0))), (2, .int (nI cq)), (0, .ref (ad 0)), (1, .int (nI mn))]) hx hb dX3_fits_61 hl rfl (nI_1 _) (by decide) rfl (fun ls hl => ?_)
        refine lv_goto (tgt := 30) hx hb dX3_fits_64 (by decide) ?_
        exact ih _ (by omega) (i + 1) (x3 + (nI 0)) _ _ _ _ rfl (by omega) (by omega) (⟨hk.1, by obtain ⟨rfl, rfl⟩ := hk; simp [uS, hc45]⟩) hP hD hS (lv_sub hl [0, 1, 2, 3, 4] rfl)
      · refine lv_aload_n hx hb dX3_fits_48 rfl (lv_at hl 3 rfl) ?_
        refine gw_getr (C := RX3) (T := TX3) (N := 27) hx hb hts inwX3 hown hK hP 0 21 11 rfl rfl rfl (by decide) (hts _ a158) (fun _ h9 => h9) dX3_fits_49 ?_
        refine lv_iload hx hb dX3_fits_52 (lv_at hl 0 rfl) ?_
        refine gw_ald hx hb hK hP 11 0 (n := 6) rfl rfl (i := i) (by omega) (by decide) dX3_fits_54 ?_
        refine lv_goto (tgt := 59) hx hb dX3_fits_55 (by decide) ?_
        refine lv_iadd hx hb dX3_fits_59 ?_
        refine lv_istore_n (lv' := [(3, .int (x3 + (sg 11 i))), (4, .int (nI i)), (2, .int (nI cq)), (0, .ref (ad 0)), (1, .int (nI mn))]) hx hb dX3_fits_60 rfl hl (by decide) rfl (fun ls hl => ?_)
        refine lv_iinc (k := 1) (v := (nI (i + 1))) (lv' := [(4, .int (nI (i + 1))), (3, .int (x3 + (sg 11 i))), (2, .int (nI cq)), (0, .ref (ad 0)), (1, .int (nI mn))]) hx hb dX3_fits_61 hl rfl (nI_1 _) (by decide) rfl (fun ls hl => ?_)
        refine lv_goto (tgt := 30) hx hb dX3_fits_64 (by decide) ?_
        exact ih _ (by omega) (i + 1) (x3 + (sg 11 i)) _ _ _ _ rfl (by omega) (by omega) (⟨hk.1, by obtain ⟨rfl, rfl⟩ := hk; simp [uS, hc45]⟩) hP hD hS (lv_sub hl [0, 1, 2, 3, 4] rfl)
  have c20 : ∀ (n9 : Nat) (cq : Nat) (sg : Nat → Nat → Int32) (H : Heap) (locs : List Loc) (ls : Array Slot), 4 - cq = n9 → cq ≤ 4 → (sg = sg0 ∧ ¬ sg0 0 11 < mS sg0 11 mn ∧ ∀ c9 : Nat, c9 < cq → ¬ sg0 1 c9 < uS sg0 c9 mn) → va_P D vwCl (gw cI cJ ad sg SM) H → va_D A (gw cI cJ ad sg SM) → va_S A s.heap H locs → lv_has ls 5 [(2, .int (nI cq)), (0, .ref (ad 0)), (1, .int (nI mn))] → W p l e rmf_X3_fits s m ([.ref (ad 0), .int (nI mn)] : List Value).toArray below meth c H locs 0 0 Q (F0 m 20 ls []) := by
    intro n9
    induction n9 using Nat.strongRecOn with
    | ind n9 ih =>
    intro cq sg H locs ls hn h1 hk hP hD hS hl
    subst hn
    refine lv_iload_n hx hb dX3_fits_20 rfl (lv_at hl 0 rfl) ?_
    refine lv_iconst (v := (nI 4)) hx hb dX3_fits_21 (by decide) ?_
    refine lv_icmp_ge (tgt := 85) hx hb dX3_fits_22 (by decide) (fun hc2 => ?_) (fun hc2 => ?_)
    · have hc2 : 4 ≤ cq := (nI_leI (a := 4) (b := cq) (by omega) (by omega)).mp hc2
      refine lv_iconst (v := (nI 1)) hx hb dX3_fits_85 (by decide) ?_
      exact hret _ _ _ _ _ _ hP hS dX3_fits_86 rfl (⟨hk.1, Or.inl ⟨rfl, hk.2.1, fun c9 h9 => hk.2.2 c9 (by omega)⟩⟩)
    · have hc2 : ¬ (4 ≤ cq) := fun q => hc2 ((nI_leI (a := 4) (b := cq) (by omega) (by omega)).mpr q)
      refine lv_iconst (v := (nI 0)) hx hb dX3_fits_25 (by decide) ?_
      refine lv_istore_n (lv' := [(3, .int (nI 0)), (2, .int (nI cq)), (0, .ref (ad 0)), (1, .int (nI mn))]) hx hb dX3_fits_26 rfl hl (by decide) rfl (fun ls hl => ?_)
      have hk0 := hk
      refine lv_iconst (v := (nI 0)) hx hb dX3_fits_27 (by decide) ?_
      refine lv_istore (lv' := [(4, .int (nI 0)), (3, .int (nI 0)), (2, .int (nI cq)), (0, .ref (ad 0)), (1, .int (nI mn))]) hx hb dX3_fits_28 hl (by decide) rfl (fun ls hl => ?_)
      refine c30 cq (fun x3 sg H locs ls hk hP hD hS hl => ?_) _ 0 (nI 0) _ _ _ _ rfl (by omega) (by omega) (⟨hk0.1, rfl⟩) hP hD hS (lv_sub hl [0, 1, 2, 3, 4] rfl)
      refine lv_iload_n hx hb dX3_fits_67 rfl (lv_at hl 0 rfl) ?_
      refine lv_aload_n hx hb dX3_fits_68 rfl (lv_at hl 2 rfl) ?_
      refine gw_getr (C := RX3) (T := TX3) (N := 27) hx hb hts inwX3 hown hK hP 0 1 1 rfl rfl rfl (by decide) (hts _ a138) (fun _ h9 => h9) dX3_fits_69 ?_
      refine lv_iload_n hx hb dX3_fits_72 rfl (lv_at hl 1 rfl) ?_
      refine gw_ald hx hb hK hP 1 0 (n := 4) rfl rfl (i := cq) (by omega) (by decide) dX3_fits_73 ?_
      refine lv_icmp_le (tgt := 79) hx hb dX3_fits_74 (by decide) (fun hc74 => ?_) (fun hc74 => ?_)
      · refine lv_iinc (k := 1) (v := (nI (cq + 1))) (lv' := [(2, .int (nI (cq + 1))), (3, .int x3), (0, .ref (ad 0)), (1, .int (nI mn))]) hx hb dX3_fits_79 hl rfl (nI_1 _) (by decide) rfl (fun ls hl => ?_)
        refine lv_goto (tgt := 20) hx hb dX3_fits_82 (by decide) ?_
        exact ih _ (by omega) (cq + 1) _ _ _ _ rfl (by omega) (⟨hk.1, hk0.2.1, fun c9 h9 => if q9 : c9 = cq then (by subst q9; rw [hk.2, hk.1] at hc74; exact i_nlt.mpr hc74) else hk0.2.2 c9 (by omega)⟩) hP hD hS (lv_sub hl [0, 2, 3] rfl)
      · refine lv_iconst (v := (nI 0)) hx hb dX3_fits_77 (by decide) ?_
        exact hret _ _ _ _ _ _ hP hS dX3_fits_78 rfl (⟨hk.1, Or.inr ⟨rfl, fun q9 => q9.2 cq (by omega) (by rw [hk.2, hk.1] at hc74; exact i_nle.mp hc74)⟩⟩)
  refine lv_aload_n hx hb dX3_fits_0 rfl (lv_at hl 0 rfl) ?_
  refine lv_aload_n hx hb dX3_fits_1 rfl (lv_at hl 0 rfl) ?_
  refine gw_getr (C := RX3) (T := TX3) (N := 27) hx hb hts inwX3 hown hK hP 0 21 11 rfl rfl rfl (by decide) (hts _ a158) (fun _ h9 => h9) dX3_fits_2 ?_
  refine lv_iload_n hx hb dX3_fits_5 rfl (lv_at hl 1 rfl) ?_
  refine gc_go0 (va_runV (As := [.ref (ad 11), .int (nI mn)]) (rest := []) ⟨hx, hb, hml, hown, hts⟩ (m_f_X3_minutesOf_count l hl9 D cI cJ ad sg0 _ mn (by omega) ) (cwV 2 hts (gwV a159 a160 a161 a135 a162) rfl rfl rfl (by decide +kernel) ⟨by decide, by decide⟩) (gc_preV0 hK hP hD hS hA hE rfl rfl rfl) rfl rfl hl.1 rfl (lv_room (Nat.le_of_ble_eq_true rfl)) dX3_fits_6 ⟨by decide, by decide⟩) hD hS hA (fun v3 sg5 H locs hp6 hP hD hS => ?_)
  obtain ⟨hs9, rfl⟩ := hp6
  rw [hs9] at hP hD
  refine W.eq (g2 := F0 m 9 ls [.int (mS sg0 11 mn)]) rfl ?_
  refine lv_aload_n hx hb dX3_fits_9 rfl (lv_at hl 0 rfl) ?_
  refine gw_geti (C := RX3) (T := TX3) (N := 27) hx hb hts inwX3 hown hK hP 0 11 rfl rfl rfl (by decide) (hts _ a147) (fun _ h9 => h9) dX3_fits_10 ?_
  refine lv_icmp_le (tgt := 18) hx hb dX3_fits_13 (by decide) (fun hc13 => ?_) (fun hc13 => ?_)
  · refine lv_iconst (v := (nI 0)) hx hb dX3_fits_18 (by decide) ?_
    refine lv_istore_n (lv' := [(2, .int (nI 0)), (0, .ref (ad 0)), (1, .int (nI mn))]) hx hb dX3_fits_19 rfl hl (by decide) rfl (fun ls hl => ?_)
    exact c20 _ 0 _ _ _ _ rfl (by omega) (⟨rfl, i_nlt.mpr hc13, fun _ h9 => absurd h9 (by omega)⟩) hP hD hS (lv_sub hl [0, 1, 2] rfl)
  · refine lv_iconst (v := (nI 0)) hx hb dX3_fits_16 (by decide) ?_
    exact hret _ _ _ _ _ _ hP hS dX3_fits_17 rfl (⟨rfl, Or.inr ⟨rfl, fun q9 => q9.1 (i_nle.mp hc13)⟩⟩)
abbrev rmf_X3_look : Room := { frames := 1, cells := 0, slots := 0, locals := 24 }
set_option maxRecDepth 100000 in
set_option maxHeartbeats 4000000 in
theorem m_f_X3_look (l : Launch) (hl9 : l.stackTraces = false) (D : va_G) (cI : ClassId) (cJ : ClassId × ClassId) (ad : Nat → Nat) (sg0 : Nat → Nat → Int32) (sz : Nat) (Y : YT) (pl : Nat → Nat) (a : RS) (hMY : MY Y sg0) (hMC : MC 11 pl (yN Y) sg0) (hz : ∀ q : Nat, yN Y ≤ q → pl q = 0) (hMR : MR Y a sg0) : gc_M l yX3_look wsX3_look rmf_X3_look D vwCl (tyS cI cJ) cI cJ gxT gxN SM [.ref (ad 0)] ad sg0 sz 0 0 (fun v sg2 => v = none ∧ MR Y (yLook Y pl a) sg2 ∧ LF sg0 sg2) := by
  refine gc_Mv_of (cc := cX3_look) (maxL := 4) (by decide) rfl (Nat.le_of_ble_eq_true rfl) ?_
  intro p e s m below meth c A ls Q hin hE hret
  obtain ⟨⟨hx, hb, hml, hown, hts⟩, -, hlocks, -, hA, hP, hK, hD, hS, hl⟩ := hin
  have hts : ∀ w ∈ wsAll, w.before ([.ref (ad 0)] : List Value).toArray s = true := fun w h => hts w (List.mem_cons_of_mem _ h)
  have hl : lv_has ls 4 [(0, .ref (ad 0))] := hl
  have hN6 := hMY.1.1
  have c120 : ∀ (n9 : Nat) (i : Nat) (sg : Nat → Nat → Int32) (H : Heap) (locs : List Loc) (ls : Array Slot), 6 - i = n9 → i ≤ 6 → (sg = KD sg0 (yGai Y pl) (fun q => nI (pl q)) i ∧ FilW (ySk Y) (yLs Y) (yGv Y) pl ∧ (sg0 0 23 = 0 ∨ sg0 0 26 < yGai Y pl)) → va_P D vwCl (gw cI cJ ad sg SM) H → va_D A (gw cI cJ ad sg SM) → va_S A s.heap H locs → lv_has ls 4 [(2, .int (nI i)), (0, .ref (ad 0))] → W p l e rmf_X3_look s m ([.ref (ad 0)] : List Value).toArray below meth c H locs 0 0 Q (F0 m 120 ls []) := by
    intro n9
    induction n9 using Nat.strongRecOn with
    | ind n9 ih =>
    intro i sg H locs ls hn h1 hk hP hD hS hl
    subst hn
    refine lv_iload_n hx hb dX3_look_120 rfl (lv_at hl 0 rfl) ?_
    refine lv_bipush (v := (nI 6)) hx hb dX3_look_121 (by decide) ?_
    refine lv_icmp_ge (tgt := 156) hx hb dX3_look_123 (by decide) (fun hc1 => ?_) (fun hc1 => ?_)
    · have hc1 : 6 ≤ i := (nI_leI (a := 6) (b := i) (by omega) (by omega)).mp hc1
      exact hret _ _ _ _ _ hP hS dX3_look_156 (⟨rfl, by rw [hk.1, show i = 6 by omega]; exact MR_look1 hMR hk.2.1 hk.2.2, by rw [hk.1]; exact KD_LF _ _ _ _⟩)
    · have hc1 : ¬ (6 ≤ i) := fun q => hc1 ((nI_leI (a := 6) (b := i) (by omega) (by omega)).mpr q)
      refine lv_aload_n hx hb dX3_look_126 rfl (lv_at hl 1 rfl) ?_
      refine gw_getr (C := RX3) (T := TX3) (N := 27) hx hb hts inwX3 hown hK hP 0 22 12 rfl rfl rfl (by decide) (hts _ a163) (fun _ h9 => h9) dX3_look_127 ?_
      refine lv_iload_n hx hb dX3_look_130 rfl (lv_at hl 0 rfl) ?_
      refine lv_iload_n hx hb dX3_look_131 rfl (lv_at hl 0 rfl) ?_
      refine lv_aload_n hx hb dX3_look_132 rfl (lv_at hl 1 rfl) ?_
      refine gw_geti (C := RX3) (T := TX3) (N := 27) hx hb hts inwX3 hown hK hP 0 3 rfl rfl rfl (by decide) (hts _ a149) (fun _ h9 => h9) dX3_look_133 ?_
      refine gw_top (y := (nI (yN Y))) (by rw [hk.1]; exact hMY.1.2) ?_
      refine lv_icmp_ge (tgt := 148) hx hb dX3_look_136 (by decide) (fun hc2 => ?_) (fun hc2 => ?_)
      · have hc2 : yN Y ≤ i := (nI_leI (a := yN Y) (b := i) (by omega) (by omega)).mp hc2
        refine lv_iconst (v := (nI 0)) hx hb dX3_look_148 (by decide) ?_
        refine gw_ast hx hb hK hP hD hS 12 0 (n := 6) rfl rfl (i := i) (by omega) (by decide) dX3_look_149 (fun H locs hP hD hS => ?_)
        obtain ⟨sg3, esg3⟩ : ∃ z : Nat → Nat → Int32, z = gw_u sg 12 (upd (sg 12) i (nI 0)) := ⟨_, rfl⟩
        rw [← esg3] at hP hD
        refine lv_iinc (k := 0) (v := (nI (i + 1))) (lv' := [(2, .int (nI (i + 1))), (0, .ref (ad 0))]) hx hb dX3_look_150 hl rfl (nI_1 _) (by decide) rfl (fun ls hl => ?_)
        refine lv_goto (tgt := 120) hx hb dX3_look_153 (by decide) ?_
        exact ih _ (by omega) (i + 1) _ _ _ _ rfl (by omega) (⟨by rw [esg3, hk.1]; first | exact fil_s _ _ _ _ _ rfl | exact fil_s _ _ _ _ _ (by rw [hz i (by omega)]), hk.2⟩) hP hD hS (lv_sub hl [0, 1] rfl)
      · have hc2 : ¬ (yN Y ≤ i) := fun q => hc2 ((nI_leI (a := yN Y) (b := i) (by omega) (by omega)).mpr q)
        refine lv_aload_n hx hb dX3_look_139 rfl (lv_at hl 1 rfl) ?_
        refine gw_getr (C := RX3) (T := TX3) (N := 27) hx hb hts inwX3 hown hK hP 0 21 11 rfl rfl rfl (by decide) (hts _ a158) (fun _ h9 => h9) dX3_look_140 ?_
        refine lv_iload_n hx hb dX3_look_143 rfl (lv_at hl 0 rfl) ?_
        refine gw_ald hx hb hK hP 11 0 (n := 6) rfl rfl (i := i) (by omega) (by decide) dX3_look_144 ?_
        refine gw_top (y := (nI (pl i))) (by rw [hk.1]; exact (hMC i (by omega)).1) ?_
        refine lv_goto (tgt := 149) hx hb dX3_look_145 (by decide) ?_
        refine gw_ast hx hb hK hP hD hS 12 0 (n := 6) rfl rfl (i := i) (by omega) (by decide) dX3_look_149 (fun H locs hP hD hS => ?_)
        obtain ⟨sg4, esg4⟩ : ∃ z : Nat → Nat → Int32, z = gw_u sg 12 (upd (sg 12) i (nI (pl i))) := ⟨_, rfl⟩
        rw [← esg4] at hP hD
        refine lv_iinc (k := 0) (v := (nI (i + 1))) (lv' := [(2, .int (nI (i + 1))), (0, .ref (ad 0))]) hx hb dX3_look_150 hl rfl (nI_1 _) (by decide) rfl (fun ls hl => ?_)
        refine lv_goto (tgt := 120) hx hb dX3_look_153 (by decide) ?_
        exact ih _ (by omega) (i + 1) _ _ _ _ rfl (by omega) (⟨by rw [esg4, hk.1]; first | exact fil_s _ _ _ _ _ rfl | exact fil_s _ _ _ _ _ (by rw [hz i (by omega)]), hk.2⟩) hP hD hS (lv_sub hl [0, 1] rfl)
  have c58 : ∀ (n9 : Nat) (i : Nat) (x1 : Int32) (sg : Nat → Nat → Int32) (H : Heap) (locs : List Loc) (ls : Array Slot), 6 - i = n9 → i ≤ yN Y → (sg = sg0 ∧ FilW (ySk Y) (yLs Y) (yGv Y) pl ∧ x1 = lC Y pl i) → va_P D vwCl (gw cI cJ ad sg SM) H → va_D A (gw cI cJ ad sg SM) → va_S A s.heap H locs → lv_has ls 4 [(2, .int (nI i)), (1, .int x1), (0, .ref (ad 0))] → W p l e rmf_X3_look s m ([.ref (ad 0)] : List Value).toArray below meth c H locs 0 0 Q (F0 m 58 ls []) := by
    intro n9
    induction n9 using Nat.strongRecOn with
    | ind n9 ih =>
    intro i x1 sg H locs ls hn h1 hk hP hD hS hl
    subst hn
    refine lv_iload_n hx hb dX3_look_58 rfl (lv_at hl 0 rfl) ?_
    refine lv_aload_n hx hb dX3_look_59 rfl (lv_at hl 2 rfl) ?_
    refine gw_geti (C := RX3) (T := TX3) (N := 27) hx hb hts inwX3 hown hK hP 0 3 rfl rfl rfl (by decide) (hts _ a149) (fun _ h9 => h9) dX3_look_60 ?_
    refine gw_top (y := (nI (yN Y))) (by rw [hk.1]; exact hMY.1.2) ?_
    refine lv_icmp_ge (tgt := 93) hx hb dX3_look_63 (by decide) (fun hc5 => ?_) (fun hc5 => ?_)
    · have hc5 : yN Y ≤ i := (nI_leI (a := yN Y) (b := i) (by omega) (by omega)).mp hc5
      rw [show i = yN Y by omega, lC_N hN6 hz] at hk
      refine lv_aload_n hx hb dX3_look_93 rfl (lv_at hl 2 rfl) ?_
      refine gw_geti (C := RX3) (T := TX3) (N := 27) hx hb hts inwX3 hown hK hP 0 23 rfl rfl rfl (by decide) (hts _ a164) (fun _ h9 => h9) dX3_look_94 ?_
      refine lv_if_eq (tgt := 108) hx hb dX3_look_97 (by decide) (fun hc97 => ?_) (fun hc97 => ?_)
      · refine lv_aload_n hx hb dX3_look_108 rfl (lv_at hl 2 rfl) ?_
        refine lv_iconst (v := (nI 1)) hx hb dX3_look_109 (by decide) ?_
        refine gw_put (C := RX3) (T := TX3) (N := 27) (ty := .boolean) hx hb hts inwX3 tyX3 tyX3_ok nmX3 hown hK hP hD hS 0 23 rfl rfl rfl (by decide) (hts _ a164) (fun _ h9 => h9) rfl (by decide +kernel) rfl rfl dX3_look_110 (fun H locs hP hD hS => ?_)
        obtain ⟨sg6, esg6⟩ : ∃ z : Nat → Nat → Int32, z = gw_u sg 0 (upd (sg 0) 23 (nI 1)) := ⟨_, rfl⟩
        rw [← esg6] at hP hD
        refine lv_aload_n hx hb dX3_look_113 rfl (lv_at hl 2 rfl) ?_
        refine lv_iload_n hx hb dX3_look_114 rfl (lv_at hl 1 rfl) ?_
        refine gw_put (C := RX3) (T := TX3) (N := 27) (ty := .int) hx hb hts inwX3 tyX3 tyX3_ok nmX3 hown hK hP hD hS 0 26 rfl rfl rfl (by decide) (hts _ a165) (fun _ h9 => h9) rfl (by decide +kernel) rfl rfl dX3_look_115 (fun H locs hP hD hS => ?_)
        obtain ⟨sg7, esg7⟩ : ∃ z : Nat → Nat → Int32, z = gw_u sg6 0 (upd (sg6 0) 26 x1) := ⟨_, rfl⟩
        rw [← esg7] at hP hD
        refine lv_iconst (v := (nI 0)) hx hb dX3_look_118 (by decide) ?_
        refine lv_istore_n (lv' := [(2, .int (nI 0)), (1, .int x1), (0, .ref (ad 0))]) hx hb dX3_look_119 rfl hl (by decide) rfl (fun ls hl => ?_)
        exact c120 _ 0 _ _ _ _ rfl (by omega) (⟨by rw [esg7, esg6, hk.1, hk.2.2]; exact (fil_0 _ _ _).symm, hk.2.1, by rw [← hk.1]; first | exact Or.inl hc97 | exact Or.inr (by rw [← hk.2.2]; exact i_nle.mp hc105)⟩) hP hD hS (lv_sub hl [0, 2] rfl)
      · refine lv_iload_n hx hb dX3_look_100 rfl (lv_at hl 1 rfl) ?_
        refine lv_aload_n hx hb dX3_look_101 rfl (lv_at hl 2 rfl) ?_
        refine gw_geti (C := RX3) (T := TX3) (N := 27) hx hb hts inwX3 hown hK hP 0 26 rfl rfl rfl (by decide) (hts _ a165) (fun _ h9 => h9) dX3_look_102 ?_
        refine lv_icmp_le (tgt := 156) hx hb dX3_look_105 (by decide) (fun hc105 => ?_) (fun hc105 => ?_)
        · exact hret _ _ _ _ _ hP hS dX3_look_156 (⟨rfl, by rw [hk.1]; exact MR_look0 hMR (fun q9 => q9.2.elim (by rw [← hk.1]; exact hc97) (fun q8 => by rw [← hk.1, ← hk.2.2] at q8; exact absurd q8 (i_nlt.mpr hc105))), by rw [hk.1]; exact LF.refl _⟩)
        · refine lv_aload_n hx hb dX3_look_108 rfl (lv_at hl 2 rfl) ?_
          refine lv_iconst (v := (nI 1)) hx hb dX3_look_109 (by decide) ?_
          refine gw_put (C := RX3) (T := TX3) (N := 27) (ty := .boolean) hx hb hts inwX3 tyX3 tyX3_ok nmX3 hown hK hP hD hS 0 23 rfl rfl rfl (by decide) (hts _ a164) (fun _ h9 => h9) rfl (by decide +kernel) rfl rfl dX3_look_110 (fun H locs hP hD hS => ?_)
          obtain ⟨sg8, esg8⟩ : ∃ z : Nat → Nat → Int32, z = gw_u sg 0 (upd (sg 0) 23 (nI 1)) := ⟨_, rfl⟩
          rw [← esg8] at hP hD
          refine lv_aload_n hx hb dX3_look_113 rfl (lv_at hl 2 rfl) ?_
          refine lv_iload_n hx hb dX3_look_114 rfl (lv_at hl 1 rfl) ?_
          refine gw_put (C := RX3) (T := TX3) (N := 27) (ty := .int) hx hb hts inwX3 tyX3 tyX3_ok nmX3 hown hK hP hD hS 0 26 rfl rfl rfl (by decide) (hts _ a165) (fun _ h9 => h9) rfl (by decide +kernel) rfl rfl dX3_look_115 (fun H locs hP hD hS => ?_)
          obtain ⟨sg9, esg9⟩ : ∃ z : Nat → Nat → Int32, z = gw_u sg8 0 (upd (sg8 0) 26 x1) := ⟨_, rfl⟩
          rw [← esg9] at hP hD
          refine lv_iconst (v := (nI 0)) hx hb dX3_look_118 (by decide) ?_
          refine lv_istore_n (lv' := [(2, .int (nI 0)), (1, .int x1), (0, .ref (ad 0))]) hx hb dX3_look_119 rfl hl (by decide) rfl (fun ls hl => ?_)
          exact c120 _ 0 _ _ _ _ rfl (by omega) (⟨by rw [esg9, esg8, hk.1, hk.2.2]; exact (fil_0 _ _ _).symm, hk.2.1, by rw [← hk.1]; first | exact Or.inl hc97 | exact Or.inr (by rw [← hk.2.2]; exact i_nle.mp hc105)⟩) hP hD hS (lv_sub hl [0, 2] rfl)
    · have hc5 : ¬ (yN Y ≤ i) := fun q => hc5 ((nI_leI (a := yN Y) (b := i) (by omega) (by omega)).mpr q)
      refine lv_iload_n hx hb dX3_look_66 rfl (lv_at hl 1 rfl) ?_
      refine lv_aload_n hx hb dX3_look_67 rfl (lv_at hl 2 rfl) ?_
      refine gw_getr (C := RX3) (T := TX3) (N := 27) hx hb hts inwX3 hown hK hP 0 2 2 rfl rfl rfl (by decide) (hts _ a139) (fun _ h9 => h9) dX3_look_68 ?_
      refine lv_aload_n hx hb dX3_look_71 rfl (lv_at hl 2 rfl) ?_
      refine gw_getr (C := RX3) (T := TX3) (N := 27) hx hb hts inwX3 hown hK hP 0 4 3 rfl rfl rfl (by decide) (hts _ a155) (fun _ h9 => h9) dX3_look_72 ?_
      refine lv_iload_n hx hb dX3_look_75 rfl (lv_at hl 0 rfl) ?_
      refine gw_ald hx hb hK hP 3 0 (n := 6) rfl rfl (i := i) (by omega) (by decide) dX3_look_76 ?_
      refine gw_top (y := (nI (yCf Y i))) (by rw [hk.1]; exact (hMY.2.2.2.2.2.1 i (by omega)).1) ?_
      have hcf9 := (hMY.2.2.2.2.2.1 i (by omega)).2
      refine gw_ald hx hb hK hP 2 0 (n := 4) rfl rfl (i := yCf Y i) (by omega) (by decide) dX3_look_77 ?_
      refine gw_top (y := (yCt Y (yCf Y i))) (by rw [hk.1]; exact hMY.2.2.2.2.1 _ hcf9) ?_
      refine lv_aload_n hx hb dX3_look_78 rfl (lv_at hl 2 rfl) ?_
      refine gw_getr (C := RX3) (T := TX3) (N := 27) hx hb hts inwX3 hown hK hP 0 21 11 rfl rfl rfl (by decide) (hts _ a158) (fun _ h9 => h9) dX3_look_79 ?_
      refine lv_iload_n hx hb dX3_look_82 rfl (lv_at hl 0 rfl) ?_
      refine gw_ald hx hb hK hP 11 0 (n := 6) rfl rfl (i := i) (by omega) (by decide) dX3_look_83 ?_
      refine gw_top (y := (nI (pl i))) (by rw [hk.1]; exact (hMC i (by omega)).1) ?_
      refine lv_imul hx hb dX3_look_84 ?_
      refine lv_isub hx hb dX3_look_85 ?_
      refine lv_istore_n (lv' := [(1, .int (x1 - ((yCt Y (yCf Y i)) * (nI (pl i))))), (2, .int (nI i)), (0, .ref (ad 0))]) hx hb dX3_look_86 rfl hl (by decide) rfl (fun ls hl => ?_)
      refine lv_iinc (k := 1) (v := (nI (i + 1))) (lv' := [(2, .int (nI (i + 1))), (1, .int (x1 - ((yCt Y (yCf Y i)) * (nI (pl i))))), (0, .ref (ad 0))]) hx hb dX3_look_87 hl rfl (nI_1 _) (by decide) rfl (fun ls hl => ?_)
      refine lv_goto (tgt := 58) hx hb dX3_look_90 (by decide) ?_
      exact ih _ (by omega) (i + 1) (x1 - ((yCt Y (yCf Y i)) * (nI (pl i)))) _ _ _ _ rfl (by omega) (⟨hk.1, hk.2.1, by rw [hk.2.2]; exact lC_s Y pl i⟩) hP hD hS (lv_sub hl [0, 1, 2] rfl)
  have c4 : ∀ (n9 : Nat) (i : Nat) (x1 : Int32) (sg : Nat → Nat → Int32) (H : Heap) (locs : List Loc) (ls : Array Slot), 4 - i = n9 → i ≤ 4 → (sg = sg0 ∧ (∀ k9 : Nat, k9 < i → ¬ yMad Y pl k9 < yLs Y k9) ∧ x1 = lF Y pl i) → va_P D vwCl (gw cI cJ ad sg SM) H → va_D A (gw cI cJ ad sg SM) → va_S A s.heap H locs → lv_has ls 4 [(2, .int (nI i)), (1, .int x1), (0, .ref (ad 0))] → W p l e rmf_X3_look s m ([.ref (ad 0)] : List Value).toArray below meth c H locs 0 0 Q (F0 m 4 ls []) := by
    intro n9
    induction n9 using Nat.strongRecOn with
    | ind n9 ih =>
    intro i x1 sg H locs ls hn h1 hk hP hD hS hl
    subst hn
    refine lv_iload_n hx hb dX3_look_4 rfl (lv_at hl 0 rfl) ?_
    refine lv_iconst (v := (nI 4)) hx hb dX3_look_5 (by decide) ?_
    refine lv_icmp_ge (tgt := 56) hx hb dX3_look_6 (by decide) (fun hc10 => ?_) (fun hc10 => ?_)
    · have hc10 : 4 ≤ i := (nI_leI (a := 4) (b := i) (by omega) (by omega)).mp hc10
      refine lv_iconst (v := (nI 0)) hx hb dX3_look_56 (by decide) ?_
      refine lv_istore_n (lv' := [(2, .int (nI 0)), (1, .int x1), (0, .ref (ad 0))]) hx hb dX3_look_57 rfl hl (by decide) rfl (fun ls hl => ?_)
      exact c58 _ 0 x1 _ _ _ _ rfl (by omega) (⟨hk.1, fun k9 h9 => hk.2.1 k9 (by omega), by rw [hk.2.2, show i = 4 by omega, lC_0]⟩) hP hD hS (lv_sub hl [0, 1, 2] rfl)
    · have hc10 : ¬ (4 ≤ i) := fun q => hc10 ((nI_leI (a := 4) (b := i) (by omega) (by omega)).mpr q)
      refine lv_aload_n hx hb dX3_look_9 rfl (lv_at hl 2 rfl) ?_
      refine lv_aload_n hx hb dX3_look_10 rfl (lv_at hl 2 rfl) ?_
      refine gw_getr (C := RX3) (T := TX3) (N := 27) hx hb hts inwX3 hown hK hP 0 21 11 rfl rfl rfl (by decide) (hts _ a158) (fun _ h9 => h9) dX3_look_11 ?_
      refine lv_iload_n hx hb dX3_look_14 rfl (lv_at hl 0 rfl) ?_
      refine gc_go0 (va_runV (As := [.ref (ad 11), .int (nI i)]) (rest := []) ⟨hx, hb, hml, hown, hts⟩ (m_f_X3_madeOf_count l hl9 D cI cJ ad sg _ i (by omega) (yN Y) hMY.1.1 (by rw [hk.1]; exact hMY.1.2)) (cwV 2 hts (gwV a166 a167 a168 a135 a169) rfl rfl rfl (by decide +kernel) ⟨by decide, by decide⟩) (gc_preV0 hK hP hD hS hA hE rfl rfl rfl) rfl rfl hl.1 rfl (lv_room (Nat.le_of_ble_eq_true rfl)) dX3_look_15 ⟨by decide, by decide⟩) hD hS hA (fun v11 sg13 H locs hp14 hP hD hS => ?_)
      obtain ⟨hs9, rfl⟩ := hp14
      rw [hs9] at hP hD
      have hd9 : dS sg 11 i (yN Y) = yMad Y pl i := by rw [hk.1]; exact dS_N hMY (by omega) hMC hz
      rw [hd9]
      refine W.eq (g2 := F0 m 18 ls [.int (yMad Y pl i)]) rfl ?_
      refine lv_istore_n (lv' := [(3, .int (yMad Y pl i)), (2, .int (nI i)), (1, .int x1), (0, .ref (ad 0))]) hx hb dX3_look_18 rfl hl (by decide) rfl (fun ls hl => ?_)
      refine lv_iload_n hx hb dX3_look_19 rfl (lv_at hl 0 rfl) ?_
      refine lv_aload_n hx hb dX3_look_20 rfl (lv_at hl 3 rfl) ?_
      refine gw_getr (C := RX3) (T := TX3) (N := 27) hx hb hts inwX3 hown hK hP 0 7 6 rfl rfl rfl (by decide) (hts _ a144) (fun _ h9 => h9) dX3_look_21 ?_
      refine lv_iload_n hx hb dX3_look_24 rfl (lv_at hl 1 rfl) ?_
      refine gw_ald hx hb hK hP 6 0 (n := 4) rfl rfl (i := i) (by omega) (by decide) dX3_look_25 ?_
      refine gw_top (y := (yLs Y i)) (by rw [hk.1]; exact (hMY.2.2.2.2.2.2.2.2.2 i (by omega)).1) ?_
      refine lv_icmp_ge (tgt := 30) hx hb dX3_look_26 (by decide) (fun hc26 => ?_) (fun hc26 => ?_)
      · refine lv_iload_n hx hb dX3_look_30 rfl (lv_at hl 2 rfl) ?_
        refine lv_aload_n hx hb dX3_look_31 rfl (lv_at hl 3 rfl) ?_
        refine gw_getr (C := RX3) (T := TX3) (N := 27) hx hb hts inwX3 hown hK hP 0 9 8 rfl rfl rfl (by decide) (hts _ a146) (fun _ h9 => h9) dX3_look_32 ?_
        refine lv_iload_n hx hb dX3_look_35 rfl (lv_at hl 1 rfl) ?_
        refine gw_ald hx hb hK hP 8 0 (n := 4) rfl rfl (i := i) (by omega) (by decide) dX3_look_36 ?_
        refine gw_top (y := (yWo Y i)) (by rw [hk.1]; exact (hMY.2.2.2.2.2.2.2.2.2 i (by omega)).2.2) ?_
        refine lv_iload_n hx hb dX3_look_37 rfl (lv_at hl 0 rfl) ?_
        refine lv_aload_n hx hb dX3_look_38 rfl (lv_at hl 3 rfl) ?_
        refine gw_getr (C := RX3) (T := TX3) (N := 27) hx hb hts inwX3 hown hK hP 0 8 7 rfl rfl rfl (by decide) (hts _ a145) (fun _ h9 => h9) dX3_look_39 ?_
        refine lv_iload_n hx hb dX3_look_42 rfl (lv_at hl 1 rfl) ?_
        refine gw_ald hx hb hK hP 7 0 (n := 4) rfl rfl (i := i) (by omega) (by decide) dX3_look_43 ?_
        refine gw_top (y := (yMs Y i)) (by rw [hk.1]; exact (hMY.2.2.2.2.2.2.2.2.2 i (by omega)).2.1) ?_
        refine gc_go (pl := []) (S2 := SE) (ad := ad) (sg := sg) (va_runS (As := [.int (yMad Y pl i), .int (yMs Y i)]) (rest := [.int (yWo Y i), .int x1]) ⟨hx, hb, hml, hown, hts⟩ (m_f_X3_lesser l hl9 D cI cJ (fun j => ad (gw_p [] j)) (fun j => sg (gw_p [] j)) _ (yMad Y pl i) (yMs Y i) ) (cwS 2 hts (gwS a170 a171 a135 a172) rfl rfl rfl (by decide +kernel) ⟨by decide, by decide⟩) (gc_preS hK hP hD hS hA hE rfl) rfl rfl hl.1 rfl (lv_room (Nat.le_of_ble_eq_true rfl)) dX3_look_44 ⟨by decide, by decide⟩) hP hD hS hA rfl (fun v17 sp18 sg19 H locs hp20 ha21 hb22 hP hD hS => ?_)
        obtain rfl := hp20
        rw [show sg19 = sg from funext (fun k => hb22 k (by simp))] at hP hD
        refine W.eq (g2 := F0 m 47 ls [.int (mnW (yMad Y pl i) (yMs Y i)), .int (yWo Y i), .int x1]) rfl ?_
        refine lv_imul hx hb dX3_look_47 ?_
        refine lv_iadd hx hb dX3_look_48 ?_
        refine lv_istore_n (lv' := [(1, .int (x1 + ((yWo Y i) * (mnW (yMad Y pl i) (yMs Y i))))), (3, .int (yMad Y pl i)), (2, .int (nI i)), (0, .ref (ad 0))]) hx hb dX3_look_49 rfl hl (by decide) rfl (fun ls hl => ?_)
        refine lv_iinc (k := 2) (v := (nI (i + 1))) (lv' := [(2, .int (nI (i + 1))), (1, .int (x1 + ((yWo Y i) * (mnW (yMad Y pl i) (yMs Y i))))), (3, .int (yMad Y pl i)), (0, .ref (ad 0))]) hx hb dX3_look_50 hl rfl (nI_1 _) (by decide) rfl (fun ls hl => ?_)
        refine lv_goto (tgt := 4) hx hb dX3_look_53 (by decide) ?_
        exact ih _ (by omega) (i + 1) (x1 + ((yWo Y i) * (mnW (yMad Y pl i) (yMs Y i)))) _ _ _ _ rfl (by omega) (⟨hk.1, fun k9 h9 => if q9 : k9 = i then (by subst q9; exact i_nlt.mpr hc26) else hk.2.1 k9 (by omega), by rw [hk.2.2]; rfl⟩) hP hD hS (lv_sub hl [0, 1, 3] rfl)
      · exact hret _ _ _ _ _ hP hS dX3_look_29 (⟨rfl, by rw [hk.1]; exact MR_look0 hMR (fun q9 => q9.1 i (by omega) (i_nle.mp hc26)), by rw [hk.1]; exact LF.refl _⟩)
  refine lv_iconst (v := (nI 0)) hx hb dX3_look_0 (by decide) ?_
  refine lv_istore_n (lv' := [(1, .int (nI 0)), (0, .ref (ad 0))]) hx hb dX3_look_1 rfl hl (by decide) rfl (fun ls hl => ?_)
  refine lv_iconst (v := (nI 0)) hx hb dX3_look_2 (by decide) ?_
  refine lv_istore_n (lv' := [(2, .int (nI 0)), (1, .int (nI 0)), (0, .ref (ad 0))]) hx hb dX3_look_3 rfl hl (by decide) rfl (fun ls hl => ?_)
  exact c4 _ 0 (nI 0) _ _ _ _ rfl (by omega) (⟨rfl, fun k9 h9 => absurd h9 (by omega), rfl⟩) hP hD hS (lv_sub hl [0, 1, 2] rfl)
abbrev rmf_X3_seek : Room := { frames := 2, cells := 0, slots := 0, locals := 48 }
set_option maxRecDepth 100000 in
set_option maxHeartbeats 4000000 in
theorem m_f_X3_seek (l : Launch) (hl9 : l.stackTraces = false) (D : va_G) (cI : ClassId) (cJ : ClassId × ClassId) (ad : Nat → Nat) (sg0 : Nat → Nat → Int32) (sz : Nat) (lim : Nat) (hlim : lim < 20001) (Y : YT) (hMY : MY Y sg0) (hyl : yLim Y = lim) : gc_M l yX3_seek wsX3_seek rmf_X3_seek D vwCl (tyS cI cJ) cI cJ gxT gxN SM [.ref (ad 0), .int (nI lim)] ad sg0 sz 0 0 (fun v sg2 => v = none ∧ MF sg0 sg2 ∧ MR Y (ySrch Y (yN Y) 0 z0 (0, false, false, sg0 0 26, sg0 12)) sg2) := by
  refine gc_Mv_of (cc := cX3_seek) (maxL := 3) (by decide) rfl (Nat.le_of_ble_eq_true rfl) ?_
  intro p e s m below meth c A ls Q hin hE hret
  obtain ⟨⟨hx, hb, hml, hown, hts⟩, -, hlocks, -, hA, hP, hK, hD, hS, hl⟩ := hin
  have hts : ∀ w ∈ wsAll, w.before ([.ref (ad 0), .int (nI lim)] : List Value).toArray s = true := fun w h => hts w (List.mem_cons_of_mem _ h)
  have hl : lv_has ls 3 [(0, .ref (ad 0)), (1, .int (nI lim))] := hl
  have hN6 := hMY.1.1
  have c36 : ∀ (n9 : Nat) (told : Nat) (pl : Nat → Nat) (cc : Nat) (tk : Nat) (a : RS) (sg : Nat → Nat → Int32) (H : Heap) (locs : List Loc) (ls : Array Slot), 7 * (lim - tk) + told = n9 → tk ≤ lim → told ≤ yN Y → (HD sg0 Y (ySrch Y (yN Y) 0 z0 (0, false, false, sg0 0 26, sg0 12)) told pl cc tk a sg) → va_P D vwCl (gw cI cJ ad sg SM) H → va_D A (gw cI cJ ad sg SM) → va_S A s.heap H locs → lv_has ls 3 [(2, .int (nI told)), (0, .ref (ad 0)), (1, .int (nI lim))] → W p l e rmf_X3_seek s m ([.ref (ad 0), .int (nI lim)] : List Value).toArray below meth c H locs 0 0 Q (F0 m 36 ls []) := by
    intro n9
    induction n9 using Nat.strongRecOn with
    | ind n9 ih =>
    intro told pl cc tk a sg H locs ls hn h1 h2 hk hP hD hS hl
    subst hn
    refine lv_iload_n hx hb dX3_seek_36 rfl (lv_at hl 0 rfl) ?_
    refine lv_if_le (tgt := 131) hx hb dX3_seek_37 (by decide) (fun hc37 => ?_) (fun hc37 => ?_)
    · rw [← nI_0] at hc37
      have hc37 : told ≤ 0 := (nI_leI (a := told) (b := 0) (by omega) (by omega)).mp hc37
      exact hret _ _ _ _ _ hP hS dX3_seek_131 (⟨rfl, HD_end hk (by omega)⟩)
    · rw [← nI_0] at hc37
      have hc37 : ¬ (told ≤ 0) := fun q => hc37 ((nI_leI (a := told) (b := 0) (by omega) (by omega)).mpr q)
      obtain ⟨p9, e9, hH⟩ := HD_pos hk (by omega)
      have hpN := hH.2.2.1
      have hc13 := hH.2.2.2.2.2.2.2.1
      have htk := hH.2.2.2.2.1
      refine lv_aload_n hx hb dX3_seek_40 rfl (lv_at hl 1 rfl) ?_
      refine gw_getr (C := RX3) (T := TX3) (N := 27) hx hb hts inwX3 hown hK hP 0 21 11 rfl rfl rfl (by decide) (hts _ a158) (fun _ h9 => h9) dX3_seek_41 ?_
      refine lv_iload_n hx hb dX3_seek_44 rfl (lv_at hl 0 rfl) ?_
      refine lv_iconst (v := (nI 1)) hx hb dX3_seek_45 (by decide) ?_
      refine lv_isub hx hb dX3_seek_46 ?_
      refine gw_top (y := (nI p9)) (by rw [e9]; exact nI_pred p9) ?_
      refine lv_dup2_11 hx hb dX3_seek_47 rfl rfl ?_
      refine gw_ald hx hb hK hP 11 0 (n := 6) rfl rfl (i := p9) (by omega) (by decide) dX3_seek_48 ?_
      refine gw_top (y := (nI cc - nI 1)) (hH.2.2.2.2.2.2.1) ?_
      refine lv_iconst (v := (nI 1)) hx hb dX3_seek_49 (by decide) ?_
      refine lv_iadd hx hb dX3_seek_50 ?_
      refine gw_top (y := (nI cc)) (Int32.sub_add_cancel _ _) ?_
      refine gw_ast hx hb hK hP hD hS 11 0 (n := 6) rfl rfl (i := p9) (by omega) (by decide) dX3_seek_51 (fun H locs hP hD hS => ?_)
      obtain ⟨sg1, esg1⟩ : ∃ z : Nat → Nat → Int32, z = gw_u sg 11 (upd (sg 11) p9 (nI cc)) := ⟨_, rfl⟩
      rw [← esg1] at hP hD
      refine lv_aload_n hx hb dX3_seek_52 rfl (lv_at hl 1 rfl) ?_
      refine gw_getr (C := RX3) (T := TX3) (N := 27) hx hb hts inwX3 hown hK hP 0 21 11 rfl rfl rfl (by decide) (hts _ a158) (fun _ h9 => h9) dX3_seek_53 ?_
      refine lv_iload_n hx hb dX3_seek_56 rfl (lv_at hl 0 rfl) ?_
      refine lv_iconst (v := (nI 1)) hx hb dX3_seek_57 (by decide) ?_
      refine lv_isub hx hb dX3_seek_58 ?_
      refine gw_top (y := (nI p9)) (by rw [e9]; exact nI_pred p9) ?_
      refine gw_ald hx hb hK hP 11 0 (n := 6) rfl rfl (i := p9) (by omega) (by decide) dX3_seek_59 ?_
      refine gw_top (y := (nI cc)) (by rw [esg1, gw_u_s]; simp [upd]) ?_
      refine lv_bipush (v := (nI 12)) hx hb dX3_seek_60 (by decide) ?_
      refine lv_icmp_gt (tgt := 73) hx hb dX3_seek_62 (by decide) (fun hc2 => ?_) (fun hc2 => ?_)
      · have hc2 : 12 < cc := (nI_ltI (a := 12) (b := cc) (by omega) (by omega)).mp hc2
        refine lv_iinc (k := 0) (v := (nI (told - 1))) (lv' := [(2, .int (nI (told - 1))), (0, .ref (ad 0)), (1, .int (nI lim))]) hx hb dX3_seek_73 hl rfl (nI_m1 (by omega)) (by decide) rfl (fun ls hl => ?_)
        refine lv_goto (tgt := 36) hx hb dX3_seek_76 (by decide) ?_
        exact ih _ (by omega) (told - 1) (pu pl (p9 - 1) 0) (pl (p9 - 1) + 1) tk a _ _ _ _ rfl (by omega) (by omega) (by rw [show told - 1 = p9 by omega]; exact HE_back hH esg1 (fun q9 => absurd q9.1 (by omega))) hP hD hS (lv_sub hl [0, 1, 2] rfl)
      · have hc2 : ¬ (12 < cc) := fun q => hc2 ((nI_ltI (a := 12) (b := cc) (by omega) (by omega)).mpr q)
        refine lv_aload_n hx hb dX3_seek_65 rfl (lv_at hl 1 rfl) ?_
        refine lv_iload_n hx hb dX3_seek_66 rfl (lv_at hl 0 rfl) ?_
        refine gc_go0 (va_runV (As := [.int (nI told)]) (rest := []) ⟨hx, hb, hml, hown, hts⟩ (m_f_X3_fits l hl9 D cI cJ ad sg1 _ told (by omega) ) (cwV 1 hts (gwV a173 a174 a175 a135 a176) rfl rfl rfl (by decide +kernel) ⟨by decide, by decide⟩) (gc_preV0 hK hP hD hS hA hE rfl rfl rfl) rfl rfl hl.1 rfl (lv_room (Nat.le_of_ble_eq_true rfl)) dX3_seek_67 ⟨by decide, by decide⟩) hD hS hA (fun v3 sg5 H locs hp6 hP hD hS => ?_)
        obtain ⟨hs9, hp9⟩ := hp6
        rw [hs9] at hP hD
        rw [e9, HE_fits hMY hH (by omega) esg1] at hp9
        rcases hp9 with ⟨rfl, hft⟩ | ⟨rfl, hft⟩
        · refine W.eq (g2 := F0 m 70 ls [.int (nI 1)]) rfl ?_
          refine lv_if_ne (tgt := 79) hx hb dX3_seek_70 (by decide) (fun hc9 => ?_) (fun hc9 => ?_)
          · refine lv_aload_n hx hb dX3_seek_79 rfl (lv_at hl 1 rfl) ?_
            refine gw_geti (C := RX3) (T := TX3) (N := 27) hx hb hts inwX3 hown hK hP 0 25 rfl rfl rfl (by decide) (hts _ a177) (fun _ h9 => h9) dX3_seek_80 ?_
            refine gw_top (y := (nI tk)) (by rw [esg1, gw_u_n _ _ (by decide), hH.2.1.1.1, htk]) ?_
            refine lv_iload_n hx hb dX3_seek_83 rfl (lv_at hl 2 rfl) ?_
            refine lv_icmp_ne (tgt := 93) hx hb dX3_seek_84 (by decide) (fun hc84 => ?_) (fun hc84 => ?_)
            · have hc84 : ¬ (tk = lim) := fun q => hc84 ((nI_eq (a := tk) (b := lim) (by omega) (by omega)).mpr q)
              refine lv_aload_n hx hb dX3_seek_93 rfl (lv_at hl 1 rfl) ?_
              refine lv_dup hx hb dX3_seek_94 rfl ?_
              refine gw_geti (C := RX3) (T := TX3) (N := 27) hx hb hts inwX3 hown hK hP 0 25 rfl rfl rfl (by decide) (hts _ a177) (fun _ h9 => h9) dX3_seek_95 ?_
              refine gw_top (y := (nI tk)) (by rw [esg1, gw_u_n _ _ (by decide), hH.2.1.1.1, htk]) ?_
              refine lv_iconst (v := (nI 1)) hx hb dX3_seek_98 (by decide) ?_
              refine lv_iadd hx hb dX3_seek_99 ?_
              refine gw_top (y := (nI (tk + 1))) (nI_add _ _) ?_
              refine gw_put (C := RX3) (T := TX3) (N := 27) (ty := .int) hx hb hts inwX3 tyX3 tyX3_ok nmX3 hown hK hP hD hS 0 25 rfl rfl rfl (by decide) (hts _ a177) (fun _ h9 => h9) rfl (by decide +kernel) rfl rfl dX3_seek_100 (fun H locs hP hD hS => ?_)
              obtain ⟨sg10, esg10⟩ : ∃ z : Nat → Nat → Int32, z = gw_u sg1 0 (upd (sg1 0) 25 (nI (tk + 1))) := ⟨_, rfl⟩
              rw [← esg10] at hP hD
              refine lv_iload_n hx hb dX3_seek_103 rfl (lv_at hl 0 rfl) ?_
              refine lv_aload_n hx hb dX3_seek_104 rfl (lv_at hl 1 rfl) ?_
              refine gw_geti (C := RX3) (T := TX3) (N := 27) hx hb hts inwX3 hown hK hP 0 3 rfl rfl rfl (by decide) (hts _ a149) (fun _ h9 => h9) dX3_seek_105 ?_
              refine gw_top (y := (nI (yN Y))) ((HE_took hH esg1 (by omega) esg10).1.2 3 (by decide) |>.trans hMY.1.2) ?_
              refine lv_icmp_ne (tgt := 118) hx hb dX3_seek_108 (by decide) (fun hc108 => ?_) (fun hc108 => ?_)
              · have hc108 : ¬ (told = yN Y) := fun q => hc108 ((nI_eq (a := told) (b := yN Y) (by omega) (by omega)).mpr q)
                refine lv_aload_n hx hb dX3_seek_118 rfl (lv_at hl 1 rfl) ?_
                refine gw_getr (C := RX3) (T := TX3) (N := 27) hx hb hts inwX3 hown hK hP 0 21 11 rfl rfl rfl (by decide) (hts _ a158) (fun _ h9 => h9) dX3_seek_119 ?_
                refine lv_iload_n hx hb dX3_seek_122 rfl (lv_at hl 0 rfl) ?_
                refine lv_iconst (v := (-1)) hx hb dX3_seek_123 (by decide) ?_
                refine gw_ast hx hb hK hP hD hS 11 0 (n := 6) rfl rfl (i := told) (by omega) (by decide) dX3_seek_124 (fun H locs hP hD hS => ?_)
                obtain ⟨sg11, esg11⟩ : ∃ z : Nat → Nat → Int32, z = gw_u sg10 11 (upd (sg10 11) told (-1)) := ⟨_, rfl⟩
                rw [← esg11] at hP hD
                refine lv_iinc (k := 0) (v := (nI (told + 1))) (lv' := [(2, .int (nI (told + 1))), (0, .ref (ad 0)), (1, .int (nI lim))]) hx hb dX3_seek_125 hl rfl (nI_1 _) (by decide) rfl (fun ls hl => ?_)
                refine lv_goto (tgt := 36) hx hb dX3_seek_128 (by decide) ?_
                exact ih _ (by omega) (told + 1) (pu pl p9 cc) 0 (tk + 1) (a.1 + 1, a.2) _ _ _ _ rfl (by omega) (by omega) (by rw [show told + 1 = p9 + 2 by omega]; exact HE_down hMY hH esg1 (by omega) hft (by omega) (by omega) esg10 (by rw [esg11, e9])) hP hD hS (lv_sub hl [0, 1, 2] rfl)
              · have hc108 : told = yN Y := (nI_eq (a := told) (b := yN Y) (by omega) (by omega)).mp hc108
                refine lv_aload_n hx hb dX3_seek_111 rfl (lv_at hl 1 rfl) ?_
                obtain ⟨t1, t2, t3⟩ := HE_took hH esg1 (by omega) esg10
                refine gc_go0 (va_runV (As := []) (rest := []) ⟨hx, hb, hml, hown, hts⟩ (m_f_X3_look l hl9 D cI cJ ad sg10 _  Y (pu pl p9 cc) (a.1 + 1, a.2) (t1.my hMY) (by intro q9 h9; rw [t3]; exact HE_mc hH (by omega) esg1 q9 (by omega)) (fun q9 h9 => HE_zz hH q9 (by omega)) t2) (cwV 0 hts (gwV a178 a179 a180 a135 a181) rfl rfl rfl (by decide +kernel) ⟨by decide, by decide⟩) (gc_preV0 hK hP hD hS hA hE rfl rfl rfl) rfl rfl hl.1 rfl (lv_room (Nat.le_of_ble_eq_true rfl)) dX3_seek_112 ⟨by decide, by decide⟩) hD hS hA (fun v12 sg14 H locs hp15 hP hD hS => ?_)
                obtain ⟨rfl, hR3, hF3⟩ := hp15
                have hD3 := HE_look hH esg1 (by omega) hft (by omega) (by omega) (hF3.mf t1) hR3 ((hF3.1 11 (by decide) (by decide)).trans t3)
                refine W.eq (g2 := F0 m 115 ls []) rfl ?_
                refine lv_goto (tgt := 36) hx hb dX3_seek_115 (by decide) ?_
                exact ih _ (by omega) told pl (cc + 1) (tk + 1) (yLook Y (pu pl p9 cc) (a.1 + 1, a.2)) _ _ _ _ rfl (by omega) (by omega) (by rw [e9]; exact hD3) hP hD hS (lv_sub hl [0, 1, 2] rfl)
            · have hc84 : tk = lim := (nI_eq (a := tk) (b := lim) (by omega) (by omega)).mp hc84
              refine lv_aload_n hx hb dX3_seek_87 rfl (lv_at hl 1 rfl) ?_
              refine lv_iconst (v := (nI 1)) hx hb dX3_seek_88 (by decide) ?_
              refine gw_put (C := RX3) (T := TX3) (N := 27) (ty := .boolean) hx hb hts inwX3 tyX3 tyX3_ok nmX3 hown hK hP hD hS 0 24 rfl rfl rfl (by decide) (hts _ a182) (fun _ h9 => h9) rfl (by decide +kernel) rfl rfl dX3_seek_89 (fun H locs hP hD hS => ?_)
              obtain ⟨sg18, esg18⟩ : ∃ z : Nat → Nat → Int32, z = gw_u sg1 0 (upd (sg1 0) 24 (nI 1)) := ⟨_, rfl⟩
              rw [← esg18] at hP hD
              exact hret _ _ _ _ _ hP hS dX3_seek_92 (⟨rfl, HE_spent hH esg1 (by omega) hft (by omega) esg18⟩)
          · exact absurd hc9 (by decide)
        · refine W.eq (g2 := F0 m 70 ls [.int (nI 0)]) rfl ?_
          refine lv_if_ne (tgt := 79) hx hb dX3_seek_70 (by decide) (fun hc19 => ?_) (fun hc19 => ?_)
          · exact absurd hc19 (by decide)
          · refine lv_iinc (k := 0) (v := (nI (told - 1))) (lv' := [(2, .int (nI (told - 1))), (0, .ref (ad 0)), (1, .int (nI lim))]) hx hb dX3_seek_73 hl rfl (nI_m1 (by omega)) (by decide) rfl (fun ls hl => ?_)
            refine lv_goto (tgt := 36) hx hb dX3_seek_76 (by decide) ?_
            exact ih _ (by omega) (told - 1) (pu pl (p9 - 1) 0) (pl (p9 - 1) + 1) tk a _ _ _ _ rfl (by omega) (by omega) (by rw [show told - 1 = p9 by omega]; exact HE_back hH esg1 (fun q9 => hft q9.2)) hP hD hS (lv_sub hl [0, 1, 2] rfl)
  refine lv_aload_n hx hb dX3_seek_0 rfl (lv_at hl 0 rfl) ?_
  refine lv_iconst (v := (nI 0)) hx hb dX3_seek_1 (by decide) ?_
  refine gw_put (C := RX3) (T := TX3) (N := 27) (ty := .boolean) hx hb hts inwX3 tyX3 tyX3_ok nmX3 hown hK hP hD hS 0 23 rfl rfl rfl (by decide) (hts _ a164) (fun _ h9 => h9) rfl (by decide +kernel) rfl rfl dX3_seek_2 (fun H locs hP hD hS => ?_)
  obtain ⟨sg20, esg20⟩ : ∃ z : Nat → Nat → Int32, z = gw_u sg0 0 (upd (sg0 0) 23 (nI 0)) := ⟨_, rfl⟩
  rw [← esg20] at hP hD
  refine lv_aload_n hx hb dX3_seek_5 rfl (lv_at hl 0 rfl) ?_
  refine lv_iconst (v := (nI 0)) hx hb dX3_seek_6 (by decide) ?_
  refine gw_put (C := RX3) (T := TX3) (N := 27) (ty := .boolean) hx hb hts inwX3 tyX3 tyX3_ok nmX3 hown hK hP hD hS 0 24 rfl rfl rfl (by decide) (hts _ a182) (fun _ h9 => h9) rfl (by decide +kernel) rfl rfl dX3_seek_7 (fun H locs hP hD hS => ?_)
  obtain ⟨sg21, esg21⟩ : ∃ z : Nat → Nat → Int32, z = gw_u sg20 0 (upd (sg20 0) 24 (nI 0)) := ⟨_, rfl⟩
  rw [← esg21] at hP hD
  refine lv_aload_n hx hb dX3_seek_10 rfl (lv_at hl 0 rfl) ?_
  refine lv_iconst (v := (nI 0)) hx hb dX3_seek_11 (by decide) ?_
  refine gw_put (C := RX3) (T := TX3) (N := 27) (ty := .int) hx hb hts inwX3 tyX3 tyX3_ok nmX3 hown hK hP hD hS 0 25 rfl rfl rfl (by decide) (hts _ a177) (fun _ h9 => h9) rfl (by decide +kernel) rfl rfl dX3_seek_12 (fun H locs hP hD hS => ?_)
  obtain ⟨sg22, esg22⟩ : ∃ z : Nat → Nat → Int32, z = gw_u sg21 0 (upd (sg21 0) 25 (nI 0)) := ⟨_, rfl⟩
  rw [← esg22] at hP hD
  have hF0 : MF sg0 sg22 := ⟨fun k9 h0 h1 h2 => by simp [esg22, esg21, esg20, gw_u, upd, h0], fun j9 h9 => by simp [esg22, esg21, esg20, gw_u, upd, show j9 ≠ 23 by omega, show j9 ≠ 24 by omega, show j9 ≠ 25 by omega]⟩
  have hR0 : MR Y (0, false, false, sg0 0 26, sg0 12) sg22 := ⟨⟨by simp [esg22, esg21, esg20, gw_u, upd], Nat.zero_le _⟩, by simp [esg22, esg21, esg20, gw_u, upd, b2], by simp [esg22, esg21, esg20, gw_u, upd, b2], by simp [esg22, esg21, esg20, gw_u, upd], fun q9 h9 => by simp [esg22, esg21, esg20, gw_u, upd]⟩
  refine lv_aload_n hx hb dX3_seek_15 rfl (lv_at hl 0 rfl) ?_
  refine gw_geti (C := RX3) (T := TX3) (N := 27) hx hb hts inwX3 hown hK hP 0 3 rfl rfl rfl (by decide) (hts _ a149) (fun _ h9 => h9) dX3_seek_16 ?_
  refine gw_top (y := (nI (yN Y))) (hF0.2 3 (by decide) |>.trans hMY.1.2) ?_
  refine lv_if_ne (tgt := 27) hx hb dX3_seek_19 (by decide) (fun hc23 => ?_) (fun hc23 => ?_)
  · rw [← nI_0] at hc23
    have hc23 : ¬ (yN Y = 0) := fun q => hc23 ((nI_eq (a := yN Y) (b := 0) (by omega) (by omega)).mpr q)
    refine lv_iconst (v := (nI 1)) hx hb dX3_seek_27 (by decide) ?_
    refine lv_istore_n (lv' := [(2, .int (nI 1)), (0, .ref (ad 0)), (1, .int (nI lim))]) hx hb dX3_seek_28 rfl hl (by decide) rfl (fun ls hl => ?_)
    refine lv_aload_n hx hb dX3_seek_29 rfl (lv_at hl 1 rfl) ?_
    refine gw_getr (C := RX3) (T := TX3) (N := 27) hx hb hts inwX3 hown hK hP 0 21 11 rfl rfl rfl (by decide) (hts _ a158) (fun _ h9 => h9) dX3_seek_30 ?_
    refine lv_iconst (v := (nI 0)) hx hb dX3_seek_33 (by decide) ?_
    refine lv_iconst (v := (-1)) hx hb dX3_seek_34 (by decide) ?_
    refine gw_ast hx hb hK hP hD hS 11 0 (n := 6) rfl rfl (i := 0) (by omega) (by decide) dX3_seek_35 (fun H locs hP hD hS => ?_)
    obtain ⟨sg24, esg24⟩ : ∃ z : Nat → Nat → Int32, z = gw_u sg22 11 (upd (sg22 11) 0 (-1)) := ⟨_, rfl⟩
    rw [← esg24] at hP hD
    exact c36 _ 1 z0 0 0 (0, false, false, sg0 0 26, sg0 12) _ _ _ _ rfl (by omega) (by omega) (HD_start hMY (by omega) (by rw [esg24]; exact hF0.w11 _) (by rw [esg24]; exact MR_w11 hR0 _) (by rw [esg24, gw_u_s]; simp [upd])) hP hD hS (lv_sub hl [0, 1, 2] rfl)
  · rw [← nI_0] at hc23
    have hc23 : yN Y = 0 := (nI_eq (a := yN Y) (b := 0) (by omega) (by omega)).mp hc23
    refine lv_aload_n hx hb dX3_seek_22 rfl (lv_at hl 0 rfl) ?_
    refine gc_go0 (va_runV (As := []) (rest := []) ⟨hx, hb, hml, hown, hts⟩ (m_f_X3_look l hl9 D cI cJ ad sg22 _  Y z0 (0, false, false, sg0 0 26, sg0 12) (MF.my hF0 hMY) (fun q9 h9 => absurd h9 (by omega)) (fun _ _ => rfl) hR0) (cwV 0 hts (gwV a178 a179 a180 a135 a181) rfl rfl rfl (by decide +kernel) ⟨by decide, by decide⟩) (gc_preV0 hK hP hD hS hA hE rfl rfl rfl) rfl rfl hl.1 rfl (lv_room (Nat.le_of_ble_eq_true rfl)) dX3_seek_23 ⟨by decide, by decide⟩) hD hS hA (fun v25 sg27 H locs hp28 hP hD hS => ?_)
    obtain ⟨rfl, hR3, hF3⟩ := hp28
    refine W.eq (g2 := F0 m 26 ls []) rfl ?_
    exact hret _ _ _ _ _ hP hS dX3_seek_26 (⟨rfl, hF3.mf hF0, by rw [ySrch_0 (by omega)]; exact hR3⟩)
