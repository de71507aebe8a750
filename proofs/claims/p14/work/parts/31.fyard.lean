abbrev rmf_X1_patternsUsedIn : Room := { frames := 0, cells := 0, slots := 0, locals := 0 }
set_option maxRecDepth 100000 in
set_option maxHeartbeats 4000000 in
theorem m_f_X1_patternsUsedIn (l : Launch) (hl9 : l.stackTraces = false) (D : va_G) (cI : ClassId) (cJ : ClassId × ClassId) (ad : Nat → Nat) (sg0 : Nat → Nat → Int32) (sz : Nat) (T : TS) (hT : TOk T) (hfo : T.2.1 = true) (hY9 : YE T sg0) : gc_M l yX1_patternsUsedIn wsX1_patternsUsedIn rmf_X1_patternsUsedIn D vwCl (tyS cI cJ) cI cJ gxT gxN SY [.ref (ad 0), .ref (ad 16)] ad sg0 sz 0 0 (fun v sg2 => sg2 = sg0 ∧ v = some (.int (nI (cnt T.2.2.2.1 (yN T.1))))) := by
  refine gc_Mi_of (cc := cX1_patternsUsedIn) (maxL := 4) (by decide) rfl (Nat.le_of_ble_eq_true rfl) ?_
  intro p e s m below meth c A ls Q hin hE hret
  obtain ⟨⟨hx, hb, hml, hown, hts⟩, -, hlocks, -, hA, hP, hK, hD, hS, hl⟩ := hin
  have hts : ∀ w ∈ wsAll, w.before ([.ref (ad 0), .ref (ad 16)] : List Value).toArray s = true := fun w h => hts w (List.mem_cons_of_mem _ h)
  have hl : lv_has ls 4 [(0, .ref (ad 0)), (1, .ref (ad 16))] := hl
  have hN6 := hY9.1.1.1
  obtain ⟨hp12, hft, hz⟩ := hT hfo
  have c4 : ∀ (n9 : Nat) (i j : Nat) (sg : Nat → Nat → Int32) (H : Heap) (locs : List Loc) (ls : Array Slot), 6 - i = n9 → i ≤ yN T.1 → (sg = sg0 ∧ j = cnt T.2.2.2.1 i) → va_P D vwCl (gw cI cJ ad sg SY) H → va_D A (gw cI cJ ad sg SY) → va_S A s.heap H locs → lv_has ls 4 [(3, .int (nI i)), (2, .int (nI j)), (0, .ref (ad 0)), (1, .ref (ad 16))] → W p l e rmf_X1_patternsUsedIn s m ([.ref (ad 0), .ref (ad 16)] : List Value).toArray below meth c H locs 0 0 Q (F0 m 4 ls []) := by
    intro n9
    induction n9 using Nat.strongRecOn with
    | ind n9 ih =>
    intro i j sg H locs ls hn h1 hk hP hD hS hl
    subst hn
    refine lv_iload_n hx hb dX1_patternsUsedIn_4 rfl (lv_at hl 0 rfl) ?_
    refine lv_aload_n hx hb dX1_patternsUsedIn_5 rfl (lv_at hl 2 rfl) ?_
    refine gw_geti (C := RX1) (T := TX1) (N := 12) hx hb hts inwX1 hown hK hP 0 9 rfl rfl rfl (by decide) (hts _ a76) (fun _ h9 => h9) dX1_patternsUsedIn_6 ?_
    refine gw_top (y := (nI (yN T.1))) (by rw [hk.1]; exact hY9.1.1.2) ?_
    refine lv_icmp_ge (tgt := 27) hx hb dX1_patternsUsedIn_9 (by decide) (fun hc1 => ?_) (fun hc1 => ?_)
    · have hc1 : yN T.1 ≤ i := (nI_leI (a := yN T.1) (b := i) (by omega) (by omega)).mp hc1
      refine lv_iload_n hx hb dX1_patternsUsedIn_27 rfl (lv_at hl 1 rfl) ?_
      exact hret _ _ _ _ _ _ hP hS dX1_patternsUsedIn_28 (⟨hk.1, by rw [hk.2, show i = yN T.1 by omega]⟩)
    · have hc1 : ¬ (yN T.1 ≤ i) := fun q => hc1 ((nI_leI (a := yN T.1) (b := i) (by omega) (by omega)).mpr q)
      refine lv_aload_n hx hb dX1_patternsUsedIn_12 rfl (lv_at hl 3 rfl) ?_
      refine lv_iload_n hx hb dX1_patternsUsedIn_13 rfl (lv_at hl 0 rfl) ?_
      refine gw_ald hx hb hK hP 16 0 (n := 6) rfl rfl (i := i) (by omega) (by decide) dX1_patternsUsedIn_14 ?_
      refine gw_top (y := (nI (T.2.2.2.1 i))) (by rw [hk.1]; exact hY9.2 i (by omega)) ?_
      have hb9 := hp12 i
      refine lv_if_le (tgt := 21) hx hb dX1_patternsUsedIn_15 (by decide) (fun hc15 => ?_) (fun hc15 => ?_)
      · rw [← nI_0] at hc15
        have hc15 : T.2.2.2.1 i ≤ 0 := (nI_leI (a := T.2.2.2.1 i) (b := 0) (by omega) (by omega)).mp hc15
        refine lv_iinc (k := 0) (v := (nI (i + 1))) (lv' := [(3, .int (nI (i + 1))), (2, .int (nI j)), (0, .ref (ad 0)), (1, .ref (ad 16))]) hx hb dX1_patternsUsedIn_21 hl rfl (nI_1 _) (by decide) rfl (fun ls hl => ?_)
        refine lv_goto (tgt := 4) hx hb dX1_patternsUsedIn_24 (by decide) ?_
        exact ih _ (by omega) (i + 1) j _ _ _ _ rfl (by omega) (⟨hk.1, by have := hk.2; rw [cnt_s]; split <;> omega⟩) hP hD hS (lv_sub hl [0, 1, 2, 3] rfl)
      · rw [← nI_0] at hc15
        have hc15 : ¬ (T.2.2.2.1 i ≤ 0) := fun q => hc15 ((nI_leI (a := T.2.2.2.1 i) (b := 0) (by omega) (by omega)).mpr q)
        refine lv_iinc (k := 1) (v := (nI (j + 1))) (lv' := [(2, .int (nI (j + 1))), (3, .int (nI i)), (0, .ref (ad 0)), (1, .ref (ad 16))]) hx hb dX1_patternsUsedIn_18 hl rfl (nI_1 _) (by decide) rfl (fun ls hl => ?_)
        refine lv_iinc (k := 1) (v := (nI (i + 1))) (lv' := [(3, .int (nI (i + 1))), (2, .int (nI (j + 1))), (0, .ref (ad 0)), (1, .ref (ad 16))]) hx hb dX1_patternsUsedIn_21 hl rfl (nI_1 _) (by decide) rfl (fun ls hl => ?_)
        refine lv_goto (tgt := 4) hx hb dX1_patternsUsedIn_24 (by decide) ?_
        exact ih _ (by omega) (i + 1) (j + 1) _ _ _ _ rfl (by omega) (⟨hk.1, by have := hk.2; rw [cnt_s]; split <;> omega⟩) hP hD hS (lv_sub hl [0, 1, 2, 3] rfl)
  refine lv_iconst (v := (nI 0)) hx hb dX1_patternsUsedIn_0 (by decide) ?_
  refine lv_istore_n (lv' := [(2, .int (nI 0)), (0, .ref (ad 0)), (1, .ref (ad 16))]) hx hb dX1_patternsUsedIn_1 rfl hl (by decide) rfl (fun ls hl => ?_)
  refine lv_iconst (v := (nI 0)) hx hb dX1_patternsUsedIn_2 (by decide) ?_
  refine lv_istore_n (lv' := [(3, .int (nI 0)), (2, .int (nI 0)), (0, .ref (ad 0)), (1, .ref (ad 16))]) hx hb dX1_patternsUsedIn_3 rfl hl (by decide) rfl (fun ls hl => ?_)
  exact c4 _ 0 0 _ _ _ _ rfl (by omega) (⟨rfl, rfl⟩) hP hD hS (lv_sub hl [0, 1, 2, 3] rfl)
abbrev rmf_X1_minutesOf : Room := { frames := 1, cells := 0, slots := 0, locals := 23 }
set_option maxRecDepth 100000 in
set_option maxHeartbeats 4000000 in
theorem m_f_X1_minutesOf (l : Launch) (hl9 : l.stackTraces = false) (D : va_G) (cI : ClassId) (cJ : ClassId × ClassId) (ad : Nat → Nat) (sg0 : Nat → Nat → Int32) (sz : Nat) (T : TS) (hT : TOk T) (hfo : T.2.1 = true) (hY9 : YE T sg0) : gc_M l yX1_minutesOf wsX1_minutesOf rmf_X1_minutesOf D vwCl (tyS cI cJ) cI cJ gxT gxN SY [.ref (ad 0), .ref (ad 16)] ad sg0 sz 0 0 (fun v sg2 => sg2 = sg0 ∧ v = some (.int (nI (totN (yMn T.1) (yCh T.1) T.2.2.2.1 (yN T.1))))) := by
  refine gc_Mi_of (cc := cX1_minutesOf) (maxL := 4) (by decide) rfl (Nat.le_of_ble_eq_true rfl) ?_
  intro p e s m below meth c A ls Q hin hE hret
  obtain ⟨⟨hx, hb, hml, hown, hts⟩, -, hlocks, -, hA, hP, hK, hD, hS, hl⟩ := hin
  have hts : ∀ w ∈ wsAll, w.before ([.ref (ad 0), .ref (ad 16)] : List Value).toArray s = true := fun w h => hts w (List.mem_cons_of_mem _ h)
  have hl : lv_has ls 4 [(0, .ref (ad 0)), (1, .ref (ad 16))] := hl
  have hN6 := hY9.1.1.1
  obtain ⟨hp12, hft, hz⟩ := hT hfo
  have c4 : ∀ (n9 : Nat) (i j : Nat) (sg : Nat → Nat → Int32) (H : Heap) (locs : List Loc) (ls : Array Slot), 6 - i = n9 → i ≤ yN T.1 → (sg = sg0 ∧ j = sN (fun q => T.2.2.2.1 q * yMn T.1 q) i) → va_P D vwCl (gw cI cJ ad sg SY) H → va_D A (gw cI cJ ad sg SY) → va_S A s.heap H locs → lv_has ls 4 [(3, .int (nI i)), (2, .int (nI j)), (0, .ref (ad 0)), (1, .ref (ad 16))] → W p l e rmf_X1_minutesOf s m ([.ref (ad 0), .ref (ad 16)] : List Value).toArray below meth c H locs 0 0 Q (F0 m 4 ls []) := by
    intro n9
    induction n9 using Nat.strongRecOn with
    | ind n9 ih =>
    intro i j sg H locs ls hn h1 hk hP hD hS hl
    subst hn
    refine lv_iload_n hx hb dX1_minutesOf_4 rfl (lv_at hl 0 rfl) ?_
    refine lv_aload_n hx hb dX1_minutesOf_5 rfl (lv_at hl 2 rfl) ?_
    refine gw_geti (C := RX1) (T := TX1) (N := 12) hx hb hts inwX1 hown hK hP 0 9 rfl rfl rfl (by decide) (hts _ a76) (fun _ h9 => h9) dX1_minutesOf_6 ?_
    refine gw_top (y := (nI (yN T.1))) (by rw [hk.1]; exact hY9.1.1.2) ?_
    refine lv_icmp_ge (tgt := 31) hx hb dX1_minutesOf_9 (by decide) (fun hc1 => ?_) (fun hc1 => ?_)
    · have hc1 : yN T.1 ≤ i := (nI_leI (a := yN T.1) (b := i) (by omega) (by omega)).mp hc1
      refine lv_iload_n hx hb dX1_minutesOf_31 rfl (lv_at hl 1 rfl) ?_
      refine lv_aload_n hx hb dX1_minutesOf_32 rfl (lv_at hl 2 rfl) ?_
      refine lv_aload_n hx hb dX1_minutesOf_33 rfl (lv_at hl 3 rfl) ?_
      refine gc_go0 (va_runV (As := [.ref (ad 16)]) (rest := [.int (nI j)]) ⟨hx, hb, hml, hown, hts⟩ (m_f_X1_patternsUsedIn l hl9 D cI cJ ad sg _  T hT hfo (by rw [hk.1]; exact hY9)) (cwV 1 hts (gwV a77 a78 a79 a80 a81) rfl rfl rfl (by decide +kernel) ⟨by decide, by decide⟩) (gc_preV0 hK hP hD hS hA hE rfl rfl rfl) rfl rfl hl.1 rfl (lv_room (Nat.le_of_ble_eq_true rfl)) dX1_minutesOf_34 ⟨by decide, by decide⟩) hD hS hA (fun v2 sg4 H locs hp5 hP hD hS => ?_)
      obtain ⟨hs9, rfl⟩ := hp5
      rw [hs9] at hP hD
      refine W.eq (g2 := F0 m 37 ls [.int (nI (cnt T.2.2.2.1 (yN T.1))), .int (nI j)]) rfl ?_
      refine lv_aload_n hx hb dX1_minutesOf_37 rfl (lv_at hl 2 rfl) ?_
      refine gw_geti (C := RX1) (T := TX1) (N := 12) hx hb hts inwX1 hown hK hP 0 11 rfl rfl rfl (by decide) (hts _ a82) (fun _ h9 => h9) dX1_minutesOf_38 ?_
      refine gw_top (y := (nI (yCh T.1))) (by rw [hk.1]; exact hY9.1.2.2.1.1) ?_
      refine lv_imul hx hb dX1_minutesOf_41 ?_
      refine gw_top (y := (nI (cnt T.2.2.2.1 (yN T.1) * yCh T.1))) (nI_mul _ _) ?_
      refine lv_iadd hx hb dX1_minutesOf_42 ?_
      refine gw_top (y := (nI (j + cnt T.2.2.2.1 (yN T.1) * yCh T.1))) (nI_add _ _) ?_
      exact hret _ _ _ _ _ _ hP hS dX1_minutesOf_43 (⟨hk.1, by rw [hk.2, show i = yN T.1 by omega, tot_split]⟩)
    · have hc1 : ¬ (yN T.1 ≤ i) := fun q => hc1 ((nI_leI (a := yN T.1) (b := i) (by omega) (by omega)).mpr q)
      refine lv_iload_n hx hb dX1_minutesOf_12 rfl (lv_at hl 1 rfl) ?_
      refine lv_aload_n hx hb dX1_minutesOf_13 rfl (lv_at hl 3 rfl) ?_
      refine lv_iload_n hx hb dX1_minutesOf_14 rfl (lv_at hl 0 rfl) ?_
      refine gw_ald hx hb hK hP 16 0 (n := 6) rfl rfl (i := i) (by omega) (by decide) dX1_minutesOf_15 ?_
      refine gw_top (y := (nI (T.2.2.2.1 i))) (by rw [hk.1]; exact hY9.2 i (by omega)) ?_
      have hb9 := hp12 i
      refine lv_aload_n hx hb dX1_minutesOf_16 rfl (lv_at hl 2 rfl) ?_
      refine gw_getr (C := RX1) (T := TX1) (N := 12) hx hb hts inwX1 hown hK hP 0 3 4 rfl rfl rfl (by decide) (hts _ a83) (fun _ h9 => h9) dX1_minutesOf_17 ?_
      refine lv_iload_n hx hb dX1_minutesOf_20 rfl (lv_at hl 0 rfl) ?_
      refine gw_ald hx hb hK hP 4 0 (n := 6) rfl rfl (i := i) (by omega) (by decide) dX1_minutesOf_21 ?_
      refine gw_top (y := (nI (yMn T.1 i))) (by rw [hk.1]; exact (hY9.1.2.2.2.2.2.2.1 i (by omega)).1) ?_
      refine lv_imul hx hb dX1_minutesOf_22 ?_
      refine gw_top (y := (nI (T.2.2.2.1 i * yMn T.1 i))) (nI_mul _ _) ?_
      refine lv_iadd hx hb dX1_minutesOf_23 ?_
      refine gw_top (y := (nI (j + T.2.2.2.1 i * yMn T.1 i))) (nI_add _ _) ?_
      refine lv_istore_n (lv' := [(2, .int (nI (j + T.2.2.2.1 i * yMn T.1 i))), (3, .int (nI i)), (0, .ref (ad 0)), (1, .ref (ad 16))]) hx hb dX1_minutesOf_24 rfl hl (by decide) rfl (fun ls hl => ?_)
      refine lv_iinc (k := 1) (v := (nI (i + 1))) (lv' := [(3, .int (nI (i + 1))), (2, .int (nI (j + T.2.2.2.1 i * yMn T.1 i))), (0, .ref (ad 0)), (1, .ref (ad 16))]) hx hb dX1_minutesOf_25 hl rfl (nI_1 _) (by decide) rfl (fun ls hl => ?_)
      refine lv_goto (tgt := 4) hx hb dX1_minutesOf_28 (by decide) ?_
      exact ih _ (by omega) (i + 1) (j + T.2.2.2.1 i * yMn T.1 i) _ _ _ _ rfl (by omega) (⟨hk.1, by rw [hk.2]; rfl⟩) hP hD hS (lv_sub hl [0, 1, 2, 3] rfl)
  refine lv_iconst (v := (nI 0)) hx hb dX1_minutesOf_0 (by decide) ?_
  refine lv_istore_n (lv' := [(2, .int (nI 0)), (0, .ref (ad 0)), (1, .ref (ad 16))]) hx hb dX1_minutesOf_1 rfl hl (by decide) rfl (fun ls hl => ?_)
  refine lv_iconst (v := (nI 0)) hx hb dX1_minutesOf_2 (by decide) ?_
  refine lv_istore_n (lv' := [(3, .int (nI 0)), (2, .int (nI 0)), (0, .ref (ad 0)), (1, .ref (ad 16))]) hx hb dX1_minutesOf_3 rfl hl (by decide) rfl (fun ls hl => ?_)
  exact c4 _ 0 0 _ _ _ _ rfl (by omega) (⟨rfl, rfl⟩) hP hD hS (lv_sub hl [0, 1, 2, 3] rfl)
abbrev rmf_X1_madeBy : Room := { frames := 0, cells := 0, slots := 0, locals := 0 }
set_option maxRecDepth 100000 in
set_option maxHeartbeats 4000000 in
theorem m_f_X1_madeBy (l : Launch) (hl9 : l.stackTraces = false) (D : va_G) (cI : ClassId) (cJ : ClassId × ClassId) (ad : Nat → Nat) (sg0 : Nat → Nat → Int32) (sz : Nat) (pr : Nat) (hpr : pr < 4) (T : TS) (hT : TOk T) (hfo : T.2.1 = true) (hY9 : YE T sg0) : gc_M l yX1_madeBy wsX1_madeBy rmf_X1_madeBy D vwCl (tyS cI cJ) cI cJ gxT gxN SY [.ref (ad 0), .ref (ad 16), .int (nI pr)] ad sg0 sz 0 0 (fun v sg2 => sg2 = sg0 ∧ v = some (.int (yMad T.1 T.2.2.2.1 pr))) := by
  refine gc_Mi_of (cc := cX1_madeBy) (maxL := 5) (by decide) rfl (Nat.le_of_ble_eq_true rfl) ?_
  intro p e s m below meth c A ls Q hin hE hret
  obtain ⟨⟨hx, hb, hml, hown, hts⟩, -, hlocks, -, hA, hP, hK, hD, hS, hl⟩ := hin
  have hts : ∀ w ∈ wsAll, w.before ([.ref (ad 0), .ref (ad 16), .int (nI pr)] : List Value).toArray s = true := fun w h => hts w (List.mem_cons_of_mem _ h)
  have hl : lv_has ls 5 [(0, .ref (ad 0)), (1, .ref (ad 16)), (2, .int (nI pr))] := hl
  have hN6 := hY9.1.1.1
  obtain ⟨hp12, hft, hz⟩ := hT hfo
  have c10 : ∀ (n9 : Nat) (i : Nat) (x3 : Int32) (sg : Nat → Nat → Int32) (H : Heap) (locs : List Loc) (ls : Array Slot), 6 - i = n9 → i ≤ yN T.1 → (sg = sg0 ∧ x3 = madW (ySk T.1) (yGv T.1) T.2.2.2.1 pr i) → va_P D vwCl (gw cI cJ ad sg SY) H → va_D A (gw cI cJ ad sg SY) → va_S A s.heap H locs → lv_has ls 5 [(4, .int (nI i)), (3, .int x3), (0, .ref (ad 0)), (1, .ref (ad 16)), (2, .int (nI pr))] → W p l e rmf_X1_madeBy s m ([.ref (ad 0), .ref (ad 16), .int (nI pr)] : List Value).toArray below meth c H locs 0 0 Q (F0 m 10 ls []) := by
    intro n9
    induction n9 using Nat.strongRecOn with
    | ind n9 ih =>
    intro i x3 sg H locs ls hn h1 hk hP hD hS hl
    subst hn
    refine lv_iload hx hb dX1_madeBy_10 (lv_at hl 0 rfl) ?_
    refine lv_aload_n hx hb dX1_madeBy_12 rfl (lv_at hl 2 rfl) ?_
    refine gw_geti (C := RX1) (T := TX1) (N := 12) hx hb hts inwX1 hown hK hP 0 9 rfl rfl rfl (by decide) (hts _ a76) (fun _ h9 => h9) dX1_madeBy_13 ?_
    refine gw_top (y := (nI (yN T.1))) (by rw [hk.1]; exact hY9.1.1.2) ?_
    refine lv_icmp_ge (tgt := 42) hx hb dX1_madeBy_16 (by decide) (fun hc1 => ?_) (fun hc1 => ?_)
    · have hc1 : yN T.1 ≤ i := (nI_leI (a := yN T.1) (b := i) (by omega) (by omega)).mp hc1
      refine lv_iload_n hx hb dX1_madeBy_42 rfl (lv_at hl 1 rfl) ?_
      exact hret _ _ _ _ _ _ hP hS dX1_madeBy_43 (⟨hk.1, by rw [hk.2, show i = yN T.1 by omega, mad_N hN6 hz]⟩)
    · have hc1 : ¬ (yN T.1 ≤ i) := fun q => hc1 ((nI_leI (a := yN T.1) (b := i) (by omega) (by omega)).mpr q)
      refine lv_iload_n hx hb dX1_madeBy_19 rfl (lv_at hl 1 rfl) ?_
      refine lv_aload_n hx hb dX1_madeBy_20 rfl (lv_at hl 3 rfl) ?_
      refine lv_iload hx hb dX1_madeBy_21 (lv_at hl 0 rfl) ?_
      refine gw_ald hx hb hK hP 16 0 (n := 6) rfl rfl (i := i) (by omega) (by decide) dX1_madeBy_23 ?_
      refine gw_top (y := (nI (T.2.2.2.1 i))) (by rw [hk.1]; exact hY9.2 i (by omega)) ?_
      have hb9 := hp12 i
      refine lv_aload_n hx hb dX1_madeBy_24 rfl (lv_at hl 2 rfl) ?_
      refine gw_getr (C := RX1) (T := TX1) (N := 12) hx hb hts inwX1 hown hK hP 0 4 5 rfl rfl rfl (by decide) (hts _ a84) (fun _ h9 => h9) dX1_madeBy_25 ?_
      refine lv_iload hx hb dX1_madeBy_28 (lv_at hl 0 rfl) ?_
      refine gw_aald hx hb hK hP 5 1 (n := 6) (b := 10) rfl rfl rfl (i := i) (by omega) (by decide) dX1_madeBy_30 ?_
      refine lv_iload_n hx hb dX1_madeBy_31 rfl (lv_at hl 4 rfl) ?_
      refine gw_ald hx hb hK hP (10 + i) 0 (n := 4) (rowSY _ (by omega)) rfl (i := pr) (by omega) (by decide) dX1_madeBy_32 ?_
      refine gw_top (y := (yGv T.1 i pr)) (by rw [hk.1]; exact YE_gv hY9 (by omega) (by omega)) ?_
      refine lv_imul hx hb dX1_madeBy_33 ?_
      refine lv_iadd hx hb dX1_madeBy_34 ?_
      refine lv_istore_n (lv' := [(3, .int (x3 + ((nI (T.2.2.2.1 i)) * (yGv T.1 i pr)))), (4, .int (nI i)), (0, .ref (ad 0)), (1, .ref (ad 16)), (2, .int (nI pr))]) hx hb dX1_madeBy_35 rfl hl (by decide) rfl (fun ls hl => ?_)
      refine lv_iinc (k := 1) (v := (nI (i + 1))) (lv' := [(4, .int (nI (i + 1))), (3, .int (x3 + ((nI (T.2.2.2.1 i)) * (yGv T.1 i pr)))), (0, .ref (ad 0)), (1, .ref (ad 16)), (2, .int (nI pr))]) hx hb dX1_madeBy_36 hl rfl (nI_1 _) (by decide) rfl (fun ls hl => ?_)
      refine lv_goto (tgt := 10) hx hb dX1_madeBy_39 (by decide) ?_
      exact ih _ (by omega) (i + 1) (x3 + ((nI (T.2.2.2.1 i)) * (yGv T.1 i pr))) _ _ _ _ rfl (by omega) (⟨hk.1, by rw [hk.2]; exact mad_s _ _ _ _ _⟩) hP hD hS (lv_sub hl [0, 1, 2, 3, 4] rfl)
  refine lv_aload_n hx hb dX1_madeBy_0 rfl (lv_at hl 0 rfl) ?_
  refine gw_getr (C := RX1) (T := TX1) (N := 12) hx hb hts inwX1 hown hK hP 0 8 9 rfl rfl rfl (by decide) (hts _ a85) (fun _ h9 => h9) dX1_madeBy_1 ?_
  refine lv_iload_n hx hb dX1_madeBy_4 rfl (lv_at hl 2 rfl) ?_
  refine gw_ald hx hb hK hP 9 0 (n := 4) rfl rfl (i := pr) (by omega) (by decide) dX1_madeBy_5 ?_
  refine gw_top (y := (ySk T.1 pr)) (hY9.1.2.2.2.2.2.2.2.1 pr (by omega)) ?_
  refine lv_istore_n (lv' := [(3, .int (ySk T.1 pr)), (0, .ref (ad 0)), (1, .ref (ad 16)), (2, .int (nI pr))]) hx hb dX1_madeBy_6 rfl hl (by decide) rfl (fun ls hl => ?_)
  refine lv_iconst (v := (nI 0)) hx hb dX1_madeBy_7 (by decide) ?_
  refine lv_istore (lv' := [(4, .int (nI 0)), (3, .int (ySk T.1 pr)), (0, .ref (ad 0)), (1, .ref (ad 16)), (2, .int (nI pr))]) hx hb dX1_madeBy_8 hl (by decide) rfl (fun ls hl => ?_)
  exact c10 _ 0 (ySk T.1 pr) _ _ _ _ rfl (by omega) (⟨rfl, mad_0 _ _ _ _⟩) hP hD hS (lv_sub hl [0, 1, 2, 3, 4] rfl)
abbrev rmf_X1_doPlan : Room := { frames := 1, cells := 0, slots := 0, locals := 24 }
set_option maxRecDepth 100000 in
set_option maxHeartbeats 4000000 in
theorem m_f_X1_doPlan (l : Launch) (hl9 : l.stackTraces = false) (D : va_G) (cI : ClassId) (cJ : ClassId × ClassId) (ad : Nat → Nat) (sg0 : Nat → Nat → Int32) (sz : Nat) (T : TS) (hT : TOk T) (hfo : T.2.1 = true) (hY9 : YE T sg0) : gc_M l yX1_doPlan wsX1_doPlan rmf_X1_doPlan D vwCl (tyS cI cJ) cI cJ gxT gxN SY [.ref (ad 0), .ref (ad 16)] ad sg0 sz 0 0 (fun v sg2 => v = none ∧ YE (tLo (tSt T 4) (yN T.1)) sg2) := by
  refine gc_Mv_of (cc := cX1_doPlan) (maxL := 4) (by decide) rfl (Nat.le_of_ble_eq_true rfl) ?_
  intro p e s m below meth c A ls Q hin hE hret
  obtain ⟨⟨hx, hb, hml, hown, hts⟩, -, hlocks, -, hA, hP, hK, hD, hS, hl⟩ := hin
  have hts : ∀ w ∈ wsAll, w.before ([.ref (ad 0), .ref (ad 16)] : List Value).toArray s = true := fun w h => hts w (List.mem_cons_of_mem _ h)
  have hl : lv_has ls 4 [(0, .ref (ad 0)), (1, .ref (ad 16))] := hl
  have hN6 := hY9.1.1.1
  obtain ⟨hp12, hft, hz⟩ := hT hfo
  have c40 : ∀ (n9 : Nat) (i : Nat) (sg : Nat → Nat → Int32) (H : Heap) (locs : List Loc) (ls : Array Slot), 6 - i = n9 → i ≤ yN T.1 → (YE (tLo (tSt T 4) i) sg) → va_P D vwCl (gw cI cJ ad sg SY) H → va_D A (gw cI cJ ad sg SY) → va_S A s.heap H locs → lv_has ls 4 [(2, .int (nI i)), (0, .ref (ad 0)), (1, .ref (ad 16))] → W p l e rmf_X1_doPlan s m ([.ref (ad 0), .ref (ad 16)] : List Value).toArray below meth c H locs 0 0 Q (F0 m 40 ls []) := by
    intro n9
    induction n9 using Nat.strongRecOn with
    | ind n9 ih =>
    intro i sg H locs ls hn h1 hk hP hD hS hl
    subst hn
    refine lv_iload_n hx hb dX1_doPlan_40 rfl (lv_at hl 0 rfl) ?_
    refine lv_aload_n hx hb dX1_doPlan_41 rfl (lv_at hl 1 rfl) ?_
    refine gw_geti (C := RX1) (T := TX1) (N := 12) hx hb hts inwX1 hown hK hP 0 9 rfl rfl rfl (by decide) (hts _ a76) (fun _ h9 => h9) dX1_doPlan_42 ?_
    refine gw_top (y := (nI (yN T.1))) (hk.1.1.2) ?_
    refine lv_icmp_ge (tgt := 71) hx hb dX1_doPlan_45 (by decide) (fun hc1 => ?_) (fun hc1 => ?_)
    · have hc1 : yN T.1 ≤ i := (nI_leI (a := yN T.1) (b := i) (by omega) (by omega)).mp hc1
      exact hret _ _ _ _ _ hP hS dX1_doPlan_71 (⟨rfl, by rw [← show i = yN T.1 by omega]; exact hk⟩)
    · have hc1 : ¬ (yN T.1 ≤ i) := fun q => hc1 ((nI_leI (a := yN T.1) (b := i) (by omega) (by omega)).mpr q)
      refine lv_aload_n hx hb dX1_doPlan_48 rfl (lv_at hl 1 rfl) ?_
      refine gw_getr (C := RX1) (T := TX1) (N := 12) hx hb hts inwX1 hown hK hP 0 0 1 rfl rfl rfl (by decide) (hts _ a86) (fun _ h9 => h9) dX1_doPlan_49 ?_
      refine lv_aload_n hx hb dX1_doPlan_52 rfl (lv_at hl 1 rfl) ?_
      refine gw_getr (C := RX1) (T := TX1) (N := 12) hx hb hts inwX1 hown hK hP 0 2 3 rfl rfl rfl (by decide) (hts _ a87) (fun _ h9 => h9) dX1_doPlan_53 ?_
      refine lv_iload_n hx hb dX1_doPlan_56 rfl (lv_at hl 0 rfl) ?_
      refine gw_ald hx hb hK hP 3 0 (n := 6) rfl rfl (i := i) (by omega) (by decide) dX1_doPlan_57 ?_
      refine gw_top (y := (nI (yCf T.1 i))) ((hk.1.2.2.2.2.2.1 i (by omega)).1) ?_
      have hcf := (hk.1.2.2.2.2.2.1 i (by omega)).2
      have hcf : yCf T.1 i < 4 := hcf
      refine lv_dup2_11 hx hb dX1_doPlan_58 rfl rfl ?_
      refine gw_ald hx hb hK hP 1 0 (n := 4) rfl rfl (i := yCf T.1 i) (by omega) (by decide) dX1_doPlan_59 ?_
      refine gw_top (y := (nI (yLg T.1 (yCf T.1 i) - usdN (yCf T.1) T.2.2.2.1 (yCf T.1 i) i))) ((hk.1.2.2.2.1 (yCf T.1 i) hcf).1) ?_
      have hlg := (hk.1.2.2.2.1 (yCf T.1 i) hcf).2
      have hlg : yLg T.1 (yCf T.1 i) - usdN (yCf T.1) T.2.2.2.1 (yCf T.1 i) i ≤ 1000 := hlg
      refine lv_aload_n hx hb dX1_doPlan_60 rfl (lv_at hl 2 rfl) ?_
      refine lv_iload_n hx hb dX1_doPlan_61 rfl (lv_at hl 0 rfl) ?_
      refine gw_ald hx hb hK hP 16 0 (n := 6) rfl rfl (i := i) (by omega) (by decide) dX1_doPlan_62 ?_
      refine gw_top (y := (nI (T.2.2.2.1 i))) (hk.2 i (by omega)) ?_
      have hle := lo_le hT hfo (i := i) (by omega) hcf
      refine lv_isub hx hb dX1_doPlan_63 ?_
      refine gw_top (y := (nI (yLg T.1 (yCf T.1 i) - usdN (yCf T.1) T.2.2.2.1 (yCf T.1 i) i - T.2.2.2.1 i))) (nI_subN hle) ?_
      refine gw_ast hx hb hK hP hD hS 1 0 (n := 4) rfl rfl (i := yCf T.1 i) (by omega) (by decide) dX1_doPlan_64 (fun H locs hP hD hS => ?_)
      obtain ⟨sg2, esg2⟩ : ∃ z : Nat → Nat → Int32, z = gw_u sg 1 (upd (sg 1) (yCf T.1 i) (nI (yLg T.1 (yCf T.1 i) - usdN (yCf T.1) T.2.2.2.1 (yCf T.1 i) i - T.2.2.2.1 i))) := ⟨_, rfl⟩
      rw [← esg2] at hP hD
      refine lv_iinc (k := 0) (v := (nI (i + 1))) (lv' := [(2, .int (nI (i + 1))), (0, .ref (ad 0)), (1, .ref (ad 16))]) hx hb dX1_doPlan_65 hl rfl (nI_1 _) (by decide) rfl (fun ls hl => ?_)
      refine lv_goto (tgt := 40) hx hb dX1_doPlan_68 (by decide) ?_
      exact ih _ (by omega) (i + 1) _ _ _ _ rfl (by omega) (by rw [esg2, show tLo (tSt T 4) (i + 1) = _ from (tLo_s (tSt T 4) i).symm]; exact yw_Lg hk (by show yLg T.1 (yCf T.1 i) - usdN (yCf T.1) T.2.2.2.1 (yCf T.1 i) i - T.2.2.2.1 i ≤ 1000; omega)) hP hD hS (lv_sub hl [0, 1, 2] rfl)
  have c2 : ∀ (n9 : Nat) (i : Nat) (sg : Nat → Nat → Int32) (H : Heap) (locs : List Loc) (ls : Array Slot), 4 - i = n9 → i ≤ 4 → (YE (tSt T i) sg) → va_P D vwCl (gw cI cJ ad sg SY) H → va_D A (gw cI cJ ad sg SY) → va_S A s.heap H locs → lv_has ls 4 [(2, .int (nI i)), (0, .ref (ad 0)), (1, .ref (ad 16))] → W p l e rmf_X1_doPlan s m ([.ref (ad 0), .ref (ad 16)] : List Value).toArray below meth c H locs 0 0 Q (F0 m 2 ls []) := by
    intro n9
    induction n9 using Nat.strongRecOn with
    | ind n9 ih =>
    intro i sg H locs ls hn h1 hk hP hD hS hl
    subst hn
    refine lv_iload_n hx hb dX1_doPlan_2 rfl (lv_at hl 0 rfl) ?_
    refine lv_iconst (v := (nI 4)) hx hb dX1_doPlan_3 (by decide) ?_
    refine lv_icmp_ge (tgt := 38) hx hb dX1_doPlan_4 (by decide) (fun hc3 => ?_) (fun hc3 => ?_)
    · have hc3 : 4 ≤ i := (nI_leI (a := 4) (b := i) (by omega) (by omega)).mp hc3
      refine lv_iconst (v := (nI 0)) hx hb dX1_doPlan_38 (by decide) ?_
      refine lv_istore_n (lv' := [(2, .int (nI 0)), (0, .ref (ad 0)), (1, .ref (ad 16))]) hx hb dX1_doPlan_39 rfl hl (by decide) rfl (fun ls hl => ?_)
      exact c40 _ 0 _ _ _ _ rfl (by omega) (by rw [tLo_0, ← show i = 4 by omega]; exact hk) hP hD hS (lv_sub hl [0, 1, 2] rfl)
    · have hc3 : ¬ (4 ≤ i) := fun q => hc3 ((nI_leI (a := 4) (b := i) (by omega) (by omega)).mpr q)
      refine lv_aload_n hx hb dX1_doPlan_7 rfl (lv_at hl 1 rfl) ?_
      refine lv_aload_n hx hb dX1_doPlan_8 rfl (lv_at hl 2 rfl) ?_
      refine lv_iload_n hx hb dX1_doPlan_9 rfl (lv_at hl 0 rfl) ?_
      refine gc_go0 (va_runV (As := [.ref (ad 16), .int (nI i)]) (rest := []) ⟨hx, hb, hml, hown, hts⟩ (m_f_X1_madeBy l hl9 D cI cJ ad sg _ i (by omega) (tSt T i) hT hfo hk) (cwV 2 hts (gwV a88 a89 a90 a80 a91) rfl rfl rfl (by decide +kernel) ⟨by decide, by decide⟩) (gc_preV0 hK hP hD hS hA hE rfl rfl rfl) rfl rfl hl.1 rfl (lv_room (Nat.le_of_ble_eq_true rfl)) dX1_doPlan_10 ⟨by decide, by decide⟩) hD hS hA (fun v4 sg6 H locs hp7 hP hD hS => ?_)
      obtain ⟨hs9, rfl⟩ := hp7
      rw [hs9] at hP hD
      rw [show yMad (tSt T i).1 (tSt T i).2.2.2.1 i = yMad T.1 T.2.2.2.1 i from mad_tSt T i]
      refine W.eq (g2 := F0 m 13 ls [.int (yMad T.1 T.2.2.2.1 i)]) rfl ?_
      refine lv_istore_n (lv' := [(3, .int (yMad T.1 T.2.2.2.1 i)), (2, .int (nI i)), (0, .ref (ad 0)), (1, .ref (ad 16))]) hx hb dX1_doPlan_13 rfl hl (by decide) rfl (fun ls hl => ?_)
      refine lv_aload_n hx hb dX1_doPlan_14 rfl (lv_at hl 2 rfl) ?_
      refine gw_getr (C := RX1) (T := TX1) (N := 12) hx hb hts inwX1 hown hK hP 0 8 9 rfl rfl rfl (by decide) (hts _ a85) (fun _ h9 => h9) dX1_doPlan_15 ?_
      refine lv_iload_n hx hb dX1_doPlan_18 rfl (lv_at hl 1 rfl) ?_
      refine lv_iload_n hx hb dX1_doPlan_19 rfl (lv_at hl 0 rfl) ?_
      refine lv_iload_n hx hb dX1_doPlan_20 rfl (lv_at hl 0 rfl) ?_
      refine lv_aload_n hx hb dX1_doPlan_21 rfl (lv_at hl 2 rfl) ?_
      refine gw_getr (C := RX1) (T := TX1) (N := 12) hx hb hts inwX1 hown hK hP 0 6 7 rfl rfl rfl (by decide) (hts _ a75) (fun _ h9 => h9) dX1_doPlan_22 ?_
      refine lv_iload_n hx hb dX1_doPlan_25 rfl (lv_at hl 1 rfl) ?_
      refine gw_ald hx hb hK hP 7 0 (n := 4) rfl rfl (i := i) (by omega) (by decide) dX1_doPlan_26 ?_
      refine gw_top (y := (yMs T.1 i)) ((hk.1.2.2.2.2.2.2.2.2.2 i (by omega)).2.1) ?_
      refine va_mmin hx hb (hml.trans hl.1.symm) hown (hts _ a92) (hts _ a21) (hts _ a22) (hts _ a23) (by decide) (Nat.le_of_ble_eq_true rfl) (by decide) (by decide) dX1_doPlan_27 ?_
      refine gw_top (y := (mnW (yMad T.1 T.2.2.2.1 i) (yMs T.1 i))) (mn_sw _ _) ?_
      refine lv_isub hx hb dX1_doPlan_30 ?_
      refine gw_ast hx hb hK hP hD hS 9 0 (n := 4) rfl rfl (i := i) (by omega) (by decide) dX1_doPlan_31 (fun H locs hP hD hS => ?_)
      obtain ⟨sg11, esg11⟩ : ∃ z : Nat → Nat → Int32, z = gw_u sg 9 (upd (sg 9) i ((yMad T.1 T.2.2.2.1 i) - (mnW (yMad T.1 T.2.2.2.1 i) (yMs T.1 i)))) := ⟨_, rfl⟩
      rw [← esg11] at hP hD
      refine lv_iinc (k := 1) (v := (nI (i + 1))) (lv' := [(2, .int (nI (i + 1))), (3, .int (yMad T.1 T.2.2.2.1 i)), (0, .ref (ad 0)), (1, .ref (ad 16))]) hx hb dX1_doPlan_32 hl rfl (nI_1 _) (by decide) rfl (fun ls hl => ?_)
      refine lv_goto (tgt := 2) hx hb dX1_doPlan_35 (by decide) ?_
      exact ih _ (by omega) (i + 1) _ _ _ _ rfl (by omega) (by rw [esg11, ← tSt_s T i]; exact yw_Sk hk) hP hD hS (lv_sub hl [0, 2, 3] rfl)
  refine lv_iconst (v := (nI 0)) hx hb dX1_doPlan_0 (by decide) ?_
  refine lv_istore_n (lv' := [(2, .int (nI 0)), (0, .ref (ad 0)), (1, .ref (ad 16))]) hx hb dX1_doPlan_1 rfl hl (by decide) rfl (fun ls hl => ?_)
  exact c2 _ 0 _ _ _ _ rfl (by omega) (by rw [tSt_0]; exact hY9) hP hD hS (lv_sub hl [0, 1, 2] rfl)
