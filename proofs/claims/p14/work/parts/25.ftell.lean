abbrev rmf_X0_tell6 : Room := { frames := 3, cells := 0, slots := 0, locals := 64 }
set_option maxRecDepth 100000 in
set_option maxHeartbeats 4000000 in
theorem m_f_X0_tell6 (l : Launch) (hl9 : l.stackTraces = false) (D : va_G) (cI : ClassId) (cJ : ClassId × ClassId) (ad : Nat → Nat) (sg0 : Nat → Nat → Int32) (sz : Nat) (z : Nat → Nat → Int32) (Y : YT) (pl : Nat → Nat) (a : RS) (hZ : EZ z Y pl a sg0) (hz : ∀ q : Nat, 6 ≤ q → pl q = 0) : gc_M l yX0_tellPatternsFrom wsX0_tellPatternsFrom rmf_X0_tell6 D vwCl (tyS cI cJ) cI cJ gxT gxN SS [.ref (ad 0), .int (nI 6)] ad sg0 sz 0 0 (fun v sg2 => v = none ∧ EZ z Y pl (ySrch Y (yN Y - 6) 6 pl a) sg2) := by
  refine gc_Mv_of (cc := cX0_tellPatternsFrom) (maxL := 3) (by decide) rfl (Nat.le_of_ble_eq_true rfl) ?_
  intro p e s m below meth c A ls Q hin hE hret
  obtain ⟨⟨hx, hb, hml, hown, hts⟩, -, hlocks, -, hA, hP, hK, hD, hS, hl⟩ := hin
  have hts : ∀ w ∈ wsAll, w.before ([.ref (ad 0), .int (nI 6)] : List Value).toArray s = true := fun w h => hts w (List.mem_cons_of_mem _ h)
  have hl : lv_has ls 3 [(0, .ref (ad 0)), (1, .int (nI 6))] := hl
  have hN6 := hZ.1.1.1.1
  refine lv_iload_n hx hb dX0_tellPatternsFrom_0 rfl (lv_at hl 1 rfl) ?_
  refine lv_aload_n hx hb dX0_tellPatternsFrom_1 rfl (lv_at hl 0 rfl) ?_
  refine gw_getr (C := RX0) (T := TX0) (N := 15) hx hb hts inwX0 hown hK hP 0 0 8 rfl rfl rfl (by decide) (hts _ a6) (fun _ h9 => h9) dX0_tellPatternsFrom_2 ?_
  refine gw_getiN (C := RX1) (T := TX1) (N := 12) hx hb hts inwX1 hown hK hP 8 9 rfl rfl rfl (by decide) (hE.nest _ (.fieldLinkNest RX0 81 RX1 "patterns" "I" RX2) (by decide +kernel) rfl) (fun _ h9 => h9) dX0_tellPatternsFrom_5 ?_
  refine gw_top (y := (nI (yN Y))) (hZ.1.1.1.2) ?_
  refine lv_icmp_ge (tgt := 17) hx hb dX0_tellPatternsFrom_8 (by decide) (fun hc1 => ?_) (fun hc1 => ?_)
  · have hc1 : yN Y ≤ 6 := (nI_leI (a := yN Y) (b := 6) (by omega) (by omega)).mp hc1
    refine lv_aload_n hx hb dX0_tellPatternsFrom_17 rfl (lv_at hl 0 rfl) ?_
    refine gc_go0 (va_runV (As := []) (rest := []) ⟨hx, hb, hml, hown, hts⟩ (m_f_X0_lookAtPlan l hl9 D cI cJ ad sg0 _  hZ.1.1.iv) (cwV 0 hts (gwV a39 a40 a41 a18 a42) rfl rfl rfl (by decide +kernel) ⟨by decide, by decide⟩) (gc_preV0 hK hP hD hS hA hE rfl rfl rfl) rfl rfl hl.1 rfl (lv_room (Nat.le_of_ble_eq_true rfl)) dX0_tellPatternsFrom_18 ⟨by decide, by decide⟩) hD hS hA (fun v2 sg4 H locs hp5 hP hD hS => ?_)
    obtain ⟨rfl, hs9⟩ := hp5
    refine W.eq (g2 := F0 m 21 ls []) rfl ?_
    exact hret _ _ _ _ _ hP hS dX0_tellPatternsFrom_21 (⟨rfl, by rw [ySrch_0 (by omega), hs9]; exact EZ_look hZ⟩)
  · have hc1 : ¬ (yN Y ≤ 6) := fun q => hc1 ((nI_leI (a := yN Y) (b := 6) (by omega) (by omega)).mpr q)
    refine lv_iload_n hx hb dX0_tellPatternsFrom_11 rfl (lv_at hl 1 rfl) ?_
    refine lv_bipush (v := (nI 6)) hx hb dX0_tellPatternsFrom_12 (by decide) ?_
    refine lv_icmp_lt (tgt := 22) hx hb dX0_tellPatternsFrom_14 (by decide) (fun hc8 => ?_) (fun hc8 => ?_)
    · exact absurd hc8 (by decide)
    · refine lv_aload_n hx hb dX0_tellPatternsFrom_17 rfl (lv_at hl 0 rfl) ?_
      refine gc_go0 (va_runV (As := []) (rest := []) ⟨hx, hb, hml, hown, hts⟩ (m_f_X0_lookAtPlan l hl9 D cI cJ ad sg0 _  hZ.1.1.iv) (cwV 0 hts (gwV a39 a40 a41 a18 a42) rfl rfl rfl (by decide +kernel) ⟨by decide, by decide⟩) (gc_preV0 hK hP hD hS hA hE rfl rfl rfl) rfl rfl hl.1 rfl (lv_room (Nat.le_of_ble_eq_true rfl)) dX0_tellPatternsFrom_18 ⟨by decide, by decide⟩) hD hS hA (fun v9 sg11 H locs hp12 hP hD hS => ?_)
      obtain ⟨rfl, hs9⟩ := hp12
      refine W.eq (g2 := F0 m 21 ls []) rfl ?_
      exact hret _ _ _ _ _ hP hS dX0_tellPatternsFrom_21 (⟨rfl, by rw [ySrch_0 (by omega), hs9]; exact EZ_look hZ⟩)
abbrev rmf_X0_step5 : Room := { frames := 4, cells := 0, slots := 0, locals := 86 }
set_option maxRecDepth 100000 in
set_option maxHeartbeats 4000000 in
theorem m_f_X0_step5 (l : Launch) (hl9 : l.stackTraces = false) (D : va_G) (cI : ClassId) (cJ : ClassId × ClassId) (ad : Nat → Nat) (sg0 : Nat → Nat → Int32) (sz : Nat) (z : Nat → Nat → Int32) (Y : YT) (pl : Nat → Nat) (a : RS) (hZ : EZ z Y pl a sg0) (hz : ∀ q : Nat, 6 ≤ q → pl q = 0) : gc_M l yX0_takeStep wsX0_takeStep rmf_X0_step5 D vwCl (tyS cI cJ) cI cJ gxT gxN SS [.ref (ad 0), .int (nI 5)] ad sg0 sz 0 0 (fun v sg2 => v = none ∧ EZ z Y pl (stepP (yLim Y) (ySrch Y (yN Y - 6) 6 pl) a) sg2) := by
  refine gc_Mv_of (cc := cX0_takeStep) (maxL := 2) (by decide) rfl (Nat.le_of_ble_eq_true rfl) ?_
  intro p e s m below meth c A ls Q hin hE hret
  obtain ⟨⟨hx, hb, hml, hown, hts⟩, -, hlocks, -, hA, hP, hK, hD, hS, hl⟩ := hin
  have hts : ∀ w ∈ wsAll, w.before ([.ref (ad 0), .int (nI 5)] : List Value).toArray s = true := fun w h => hts w (List.mem_cons_of_mem _ h)
  have hl : lv_has ls 2 [(0, .ref (ad 0)), (1, .int (nI 5))] := hl
  have hb1 := hZ.1.2.2.2.1.2
  have hb2 := hZ.1.2.2.2.2.1.2
  refine lv_aload_n hx hb dX0_takeStep_0 rfl (lv_at hl 0 rfl) ?_
  refine gw_geti (C := RX0) (T := TX0) (N := 15) hx hb hts inwX0 hown hK hP 0 10 rfl rfl rfl (by decide) (hts _ a43) (fun _ h9 => h9) dX0_takeStep_1 ?_
  refine gw_top (y := (nI a.1)) (hZ.1.2.2.2.2.1.1) ?_
  refine lv_aload_n hx hb dX0_takeStep_4 rfl (lv_at hl 0 rfl) ?_
  refine gw_geti (C := RX0) (T := TX0) (N := 15) hx hb hts inwX0 hown hK hP 0 9 rfl rfl rfl (by decide) (hts _ a44) (fun _ h9 => h9) dX0_takeStep_5 ?_
  refine gw_top (y := (nI (yLim Y))) (hZ.1.2.2.2.1.1) ?_
  refine lv_icmp_lt (tgt := 17) hx hb dX0_takeStep_8 (by decide) (fun hc9 => ?_) (fun hc9 => ?_)
  · have hc9 : a.1 < yLim Y := (nI_ltI (a := a.1) (b := yLim Y) (by omega) (by omega)).mp hc9
    refine lv_aload_n hx hb dX0_takeStep_17 rfl (lv_at hl 0 rfl) ?_
    refine lv_dup hx hb dX0_takeStep_18 rfl ?_
    refine gw_geti (C := RX0) (T := TX0) (N := 15) hx hb hts inwX0 hown hK hP 0 10 rfl rfl rfl (by decide) (hts _ a43) (fun _ h9 => h9) dX0_takeStep_19 ?_
    refine gw_top (y := (nI a.1)) (hZ.1.2.2.2.2.1.1) ?_
    refine lv_iconst (v := (nI 1)) hx hb dX0_takeStep_22 (by decide) ?_
    refine lv_iadd hx hb dX0_takeStep_23 ?_
    refine gw_top (y := (nI (a.1 + 1))) (nI_add _ _) ?_
    refine gw_put (C := RX0) (T := TX0) (N := 15) (ty := .int) hx hb hts inwX0 tyX0 tyX0_ok nmX0 hown hK hP hD hS 0 10 rfl rfl rfl (by decide) (hts _ a43) (fun _ h9 => h9) rfl (by decide +kernel) rfl rfl dX0_takeStep_24 (fun H locs hP hD hS => ?_)
    obtain ⟨sg1, esg1⟩ : ∃ z : Nat → Nat → Int32, z = gw_u sg0 0 (upd (sg0 0) 10 (nI (a.1 + 1))) := ⟨_, rfl⟩
    rw [← esg1] at hP hD
    refine lv_aload_n hx hb dX0_takeStep_27 rfl (lv_at hl 0 rfl) ?_
    refine lv_iload_n hx hb dX0_takeStep_28 rfl (lv_at hl 1 rfl) ?_
    refine lv_iconst (v := (nI 1)) hx hb dX0_takeStep_29 (by decide) ?_
    refine lv_iadd hx hb dX0_takeStep_30 ?_
    refine gw_top (y := (nI 6)) (by decide) ?_
    refine gc_go0 (va_runV (As := [.int (nI 6)]) (rest := []) ⟨hx, hb, hml, hown, hts⟩ (m_f_X0_tell6 l hl9 D cI cJ ad sg1 _  z Y pl (a.1 + 1, a.2) (by rw [esg1]; exact EZ_step hZ (by omega)) hz) (cwV 1 hts (gwV a45 a46 a47 a18 a48) rfl rfl rfl (by decide +kernel) ⟨by decide, by decide⟩) (gc_preV0 hK hP hD hS hA hE rfl rfl rfl) rfl rfl hl.1 rfl (lv_room (Nat.le_of_ble_eq_true rfl)) dX0_takeStep_31 ⟨by decide, by decide⟩) hD hS hA (fun v2 sg4 H locs hp5 hP hD hS => ?_)
    obtain ⟨rfl, hZ2⟩ := hp5
    refine W.eq (g2 := F0 m 34 ls []) rfl ?_
    exact hret _ _ _ _ _ hP hS dX0_takeStep_34 (⟨rfl, by rw [stepP_f (by omega)]; exact hZ2⟩)
  · have hc9 : ¬ (a.1 < yLim Y) := fun q => hc9 ((nI_ltI (a := a.1) (b := yLim Y) (by omega) (by omega)).mpr q)
    refine lv_aload_n hx hb dX0_takeStep_11 rfl (lv_at hl 0 rfl) ?_
    refine lv_iconst (v := (nI 1)) hx hb dX0_takeStep_12 (by decide) ?_
    refine gw_put (C := RX0) (T := TX0) (N := 15) (ty := .boolean) hx hb hts inwX0 tyX0 tyX0_ok nmX0 hown hK hP hD hS 0 11 rfl rfl rfl (by decide) (hts _ a49) (fun _ h9 => h9) rfl (by decide +kernel) rfl rfl dX0_takeStep_13 (fun H locs hP hD hS => ?_)
    obtain ⟨sg8, esg8⟩ : ∃ z : Nat → Nat → Int32, z = gw_u sg0 0 (upd (sg0 0) 11 (nI 1)) := ⟨_, rfl⟩
    rw [← esg8] at hP hD
    exact hret _ _ _ _ _ hP hS dX0_takeStep_16 (⟨rfl, by rw [stepP_t (by omega), esg8]; exact EZ_spent hZ⟩)
abbrev rmf_X0_tell5 : Room := { frames := 5, cells := 0, slots := 0, locals := 107 }
set_option maxRecDepth 100000 in
set_option maxHeartbeats 4000000 in
theorem m_f_X0_tell5 (l : Launch) (hl9 : l.stackTraces = false) (D : va_G) (cI : ClassId) (cJ : ClassId × ClassId) (ad : Nat → Nat) (sg0 : Nat → Nat → Int32) (sz : Nat) (z : Nat → Nat → Int32) (Y : YT) (pl : Nat → Nat) (a : RS) (hZ : EZ z Y pl a sg0) (hz : ∀ q : Nat, 5 ≤ q → pl q = 0) : gc_M l yX0_tellPatternsFrom wsX0_tellPatternsFrom rmf_X0_tell5 D vwCl (tyS cI cJ) cI cJ gxT gxN SS [.ref (ad 0), .int (nI 5)] ad sg0 sz 0 0 (fun v sg2 => v = none ∧ EZ z Y pl (ySrch Y (yN Y - 5) 5 pl a) sg2) := by
  refine gc_Mv_of (cc := cX0_tellPatternsFrom) (maxL := 3) (by decide) rfl (Nat.le_of_ble_eq_true rfl) ?_
  intro p e s m below meth c A ls Q hin hE hret
  obtain ⟨⟨hx, hb, hml, hown, hts⟩, -, hlocks, -, hA, hP, hK, hD, hS, hl⟩ := hin
  have hts : ∀ w ∈ wsAll, w.before ([.ref (ad 0), .int (nI 5)] : List Value).toArray s = true := fun w h => hts w (List.mem_cons_of_mem _ h)
  have hl : lv_has ls 3 [(0, .ref (ad 0)), (1, .int (nI 5))] := hl
  have hN6 := hZ.1.1.1.1
  have c29 : ∀ (n9 : Nat) (i : Nat) (a9 : RS) (sg : Nat → Nat → Int32) (H : Heap) (locs : List Loc) (ls : Array Slot), 13 - i = n9 → 1 ≤ i → i ≤ 13 → 5 < yN Y → (TLP z Y pl 5 i (ySrch Y (yN Y - 5) 5 pl a) a9 sg) → va_P D vwCl (gw cI cJ ad sg SS) H → va_D A (gw cI cJ ad sg SS) → va_S A s.heap H locs → lv_has ls 3 [(2, .int (nI i)), (0, .ref (ad 0)), (1, .int (nI 5))] → W p l e rmf_X0_tell5 s m ([.ref (ad 0), .int (nI 5)] : List Value).toArray below meth c H locs 0 0 Q (F0 m 29 ls []) := by
    intro n9
    induction n9 using Nat.strongRecOn with
    | ind n9 ih =>
    intro i a9 sg H locs ls hn h1 h2 h3 hk hP hD hS hl
    subst hn
    refine lv_iload_n hx hb dX0_tellPatternsFrom_29 rfl (lv_at hl 0 rfl) ?_
    refine lv_bipush (v := (nI 12)) hx hb dX0_tellPatternsFrom_30 (by decide) ?_
    refine lv_icmp_gt (tgt := 69) hx hb dX0_tellPatternsFrom_32 (by decide) (fun hc32 => ?_) (fun hc32 => ?_)
    · have hc32 : 12 < i := (nI_ltI (a := 12) (b := i) (by omega) (by omega)).mp hc32
      refine lv_aload_n hx hb dX0_tellPatternsFrom_69 rfl (lv_at hl 1 rfl) ?_
      refine lv_iload_n hx hb dX0_tellPatternsFrom_70 rfl (lv_at hl 2 rfl) ?_
      refine gc_go0 (va_runV (As := [.int (nI 5)]) (rest := []) ⟨hx, hb, hml, hown, hts⟩ (m_f_X0_takeLogsBack l hl9 D cI cJ ad sg _ 5 (by omega) hk.1.1.1.iv (yCf Y 5) (hk.1.1.1.2.2.2.2.2.1 5 (by decide)).2 (hk.1.1.1.2.2.2.2.2.1 5 (by decide)).1) (cwV 1 hts (gwV a50 a51 a52 a18 a53) rfl rfl rfl (by decide +kernel) ⟨by decide, by decide⟩) (gc_preV0 hK hP hD hS hA hE rfl rfl rfl) rfl rfl hl.1 rfl (lv_room (Nat.le_of_ble_eq_true rfl)) dX0_tellPatternsFrom_71 ⟨by decide, by decide⟩) hD hS hA (fun v1 sg3 H locs hp4 hP hD hS => ?_)
      obtain ⟨rfl, hs7⟩ := hp4
      refine W.eq (g2 := F0 m 74 ls []) rfl ?_
      exact hret _ _ _ _ _ hP hS dX0_tellPatternsFrom_74 (⟨rfl, by rw [hs7]; exact TLP_out hk (by decide) (hz 5 (by omega)) (by first | exact Or.inl (by omega) | exact Or.inr (Or.inl (fun q9 => hc39 (hk.1.1.2.2.2.2.2.1.trans (b2_0.mpr q9)))) | exact Or.inr (Or.inr hft))⟩)
    · have hc32 : ¬ (12 < i) := fun q => hc32 ((nI_ltI (a := 12) (b := i) (by omega) (by omega)).mpr q)
      refine lv_aload_n hx hb dX0_tellPatternsFrom_35 rfl (lv_at hl 1 rfl) ?_
      refine gw_geti (C := RX0) (T := TX0) (N := 15) hx hb hts inwX0 hown hK hP 0 11 rfl rfl rfl (by decide) (hts _ a49) (fun _ h9 => h9) dX0_tellPatternsFrom_36 ?_
      refine lv_if_ne (tgt := 69) hx hb dX0_tellPatternsFrom_39 (by decide) (fun hc39 => ?_) (fun hc39 => ?_)
      · refine lv_aload_n hx hb dX0_tellPatternsFrom_69 rfl (lv_at hl 1 rfl) ?_
        refine lv_iload_n hx hb dX0_tellPatternsFrom_70 rfl (lv_at hl 2 rfl) ?_
        refine gc_go0 (va_runV (As := [.int (nI 5)]) (rest := []) ⟨hx, hb, hml, hown, hts⟩ (m_f_X0_takeLogsBack l hl9 D cI cJ ad sg _ 5 (by omega) hk.1.1.1.iv (yCf Y 5) (hk.1.1.1.2.2.2.2.2.1 5 (by decide)).2 (hk.1.1.1.2.2.2.2.2.1 5 (by decide)).1) (cwV 1 hts (gwV a50 a51 a52 a18 a53) rfl rfl rfl (by decide +kernel) ⟨by decide, by decide⟩) (gc_preV0 hK hP hD hS hA hE rfl rfl rfl) rfl rfl hl.1 rfl (lv_room (Nat.le_of_ble_eq_true rfl)) dX0_tellPatternsFrom_71 ⟨by decide, by decide⟩) hD hS hA (fun v7 sg9 H locs hp10 hP hD hS => ?_)
        obtain ⟨rfl, hs7⟩ := hp10
        refine W.eq (g2 := F0 m 74 ls []) rfl ?_
        exact hret _ _ _ _ _ hP hS dX0_tellPatternsFrom_74 (⟨rfl, by rw [hs7]; exact TLP_out hk (by decide) (hz 5 (by omega)) (by first | exact Or.inl (by omega) | exact Or.inr (Or.inl (fun q9 => hc39 (hk.1.1.2.2.2.2.2.1.trans (b2_0.mpr q9)))) | exact Or.inr (Or.inr hft))⟩)
      · refine lv_aload_n hx hb dX0_tellPatternsFrom_42 rfl (lv_at hl 1 rfl) ?_
        refine lv_iload_n hx hb dX0_tellPatternsFrom_43 rfl (lv_at hl 2 rfl) ?_
        refine gc_go0 (va_runV (As := [.int (nI 5)]) (rest := []) ⟨hx, hb, hml, hown, hts⟩ (m_f_X0_oneLogMoreFits l hl9 D cI cJ ad sg _ 5 (by omega) hk.1.1.1.iv (yCf Y 5) (hk.1.1.1.2.2.2.2.2.1 5 (by decide)).2 (hk.1.1.1.2.2.2.2.2.1 5 (by decide)).1) (cwV 1 hts (gwV a54 a55 a56 a18 a57) rfl rfl rfl (by decide +kernel) ⟨by decide, by decide⟩) (gc_preV0 hK hP hD hS hA hE rfl rfl rfl) rfl rfl hl.1 rfl (lv_room (Nat.le_of_ble_eq_true rfl)) dX0_tellPatternsFrom_44 ⟨by decide, by decide⟩) hD hS hA (fun v13 sg15 H locs hp16 hP hD hS => ?_)
        obtain ⟨hs9, hp9⟩ := hp16
        rw [hs9] at hP hD
        rcases hp9 with ⟨rfl, hft⟩ | ⟨rfl, hft⟩
        · refine W.eq (g2 := F0 m 47 ls [.int (nI 1)]) rfl ?_
          refine lv_if_ne (tgt := 53) hx hb dX0_tellPatternsFrom_47 (by decide) (fun hc19 => ?_) (fun hc19 => ?_)
          · refine lv_aload_n hx hb dX0_tellPatternsFrom_53 rfl (lv_at hl 1 rfl) ?_
            refine lv_iload_n hx hb dX0_tellPatternsFrom_54 rfl (lv_at hl 2 rfl) ?_
            refine gc_go0 (va_runV (As := [.int (nI 5)]) (rest := []) ⟨hx, hb, hml, hown, hts⟩ (m_f_X0_addLog l hl9 D cI cJ ad sg _ 5 (by omega) hk.1.1.1.iv (yCf Y 5) (hk.1.1.1.2.2.2.2.2.1 5 (by decide)).2 (hk.1.1.1.2.2.2.2.2.1 5 (by decide)).1) (cwV 1 hts (gwV a58 a59 a60 a18 a61) rfl rfl rfl (by decide +kernel) ⟨by decide, by decide⟩) (gc_preV0 hK hP hD hS hA hE rfl rfl rfl) rfl rfl hl.1 rfl (lv_room (Nat.le_of_ble_eq_true rfl)) dX0_tellPatternsFrom_55 ⟨by decide, by decide⟩) hD hS hA (fun v20 sg22 H locs hp23 hP hD hS => ?_)
            obtain ⟨rfl, hs8⟩ := hp23
            have hZ3 := TLP_more hk (by decide) h1 (by omega) hft
            rw [← hs8] at hZ3
            refine W.eq (g2 := F0 m 58 ls []) rfl ?_
            refine lv_aload_n hx hb dX0_tellPatternsFrom_58 rfl (lv_at hl 1 rfl) ?_
            refine lv_iload_n hx hb dX0_tellPatternsFrom_59 rfl (lv_at hl 2 rfl) ?_
            refine gc_go0 (va_runV (As := [.int (nI 5)]) (rest := []) ⟨hx, hb, hml, hown, hts⟩ (m_f_X0_step5 l hl9 D cI cJ ad sg22 _  z Y (pu pl 5 i) a9 hZ3 (fun q h => (pu_n pl _ (show q ≠ 5 by omega)).trans (hz q (by omega)))) (cwV 1 hts (gwV a62 a63 a64 a18 a65) rfl rfl rfl (by decide +kernel) ⟨by decide, by decide⟩) (gc_preV0 hK hP hD hS hA hE rfl rfl rfl) rfl rfl hl.1 rfl (lv_room (Nat.le_of_ble_eq_true rfl)) dX0_tellPatternsFrom_60 ⟨by decide, by decide⟩) hD hS hA (fun v26 sg28 H locs hp29 hP hD hS => ?_)
            obtain ⟨rfl, hZ4⟩ := hp29
            refine W.eq (g2 := F0 m 63 ls []) rfl ?_
            refine lv_iinc (k := 0) (v := (nI (i + 1))) (lv' := [(2, .int (nI (i + 1))), (0, .ref (ad 0)), (1, .int (nI 5))]) hx hb dX0_tellPatternsFrom_63 hl rfl (nI_1 _) (by decide) rfl (fun ls hl => ?_)
            refine lv_goto (tgt := 29) hx hb dX0_tellPatternsFrom_66 (by decide) ?_
            exact ih _ (by omega) (i + 1) _ _ _ _ _ rfl (by omega) (by omega) (by omega) (TLP_next hk (by decide) h1 (by omega) (b2_0.mp (hk.1.1.2.2.2.2.2.1.symm.trans hc39)) hft rfl hZ4) hP hD hS (lv_sub hl [0, 1, 2] rfl)
          · exact absurd hc19 (by decide)
        · refine W.eq (g2 := F0 m 47 ls [.int (nI 0)]) rfl ?_
          refine lv_if_ne (tgt := 53) hx hb dX0_tellPatternsFrom_47 (by decide) (fun hc32 => ?_) (fun hc32 => ?_)
          · exact absurd hc32 (by decide)
          · refine lv_goto (tgt := 69) hx hb dX0_tellPatternsFrom_50 (by decide) ?_
            refine lv_aload_n hx hb dX0_tellPatternsFrom_69 rfl (lv_at hl 1 rfl) ?_
            refine lv_iload_n hx hb dX0_tellPatternsFrom_70 rfl (lv_at hl 2 rfl) ?_
            refine gc_go0 (va_runV (As := [.int (nI 5)]) (rest := []) ⟨hx, hb, hml, hown, hts⟩ (m_f_X0_takeLogsBack l hl9 D cI cJ ad sg _ 5 (by omega) hk.1.1.1.iv (yCf Y 5) (hk.1.1.1.2.2.2.2.2.1 5 (by decide)).2 (hk.1.1.1.2.2.2.2.2.1 5 (by decide)).1) (cwV 1 hts (gwV a50 a51 a52 a18 a53) rfl rfl rfl (by decide +kernel) ⟨by decide, by decide⟩) (gc_preV0 hK hP hD hS hA hE rfl rfl rfl) rfl rfl hl.1 rfl (lv_room (Nat.le_of_ble_eq_true rfl)) dX0_tellPatternsFrom_71 ⟨by decide, by decide⟩) hD hS hA (fun v33 sg35 H locs hp36 hP hD hS => ?_)
            obtain ⟨rfl, hs7⟩ := hp36
            refine W.eq (g2 := F0 m 74 ls []) rfl ?_
            exact hret _ _ _ _ _ hP hS dX0_tellPatternsFrom_74 (⟨rfl, by rw [hs7]; exact TLP_out hk (by decide) (hz 5 (by omega)) (by first | exact Or.inl (by omega) | exact Or.inr (Or.inl (fun q9 => hc39 (hk.1.1.2.2.2.2.2.1.trans (b2_0.mpr q9)))) | exact Or.inr (Or.inr hft))⟩)
  refine lv_iload_n hx hb dX0_tellPatternsFrom_0 rfl (lv_at hl 1 rfl) ?_
  refine lv_aload_n hx hb dX0_tellPatternsFrom_1 rfl (lv_at hl 0 rfl) ?_
  refine gw_getr (C := RX0) (T := TX0) (N := 15) hx hb hts inwX0 hown hK hP 0 0 8 rfl rfl rfl (by decide) (hts _ a6) (fun _ h9 => h9) dX0_tellPatternsFrom_2 ?_
  refine gw_getiN (C := RX1) (T := TX1) (N := 12) hx hb hts inwX1 hown hK hP 8 9 rfl rfl rfl (by decide) (hE.nest _ (.fieldLinkNest RX0 81 RX1 "patterns" "I" RX2) (by decide +kernel) rfl) (fun _ h9 => h9) dX0_tellPatternsFrom_5 ?_
  refine gw_top (y := (nI (yN Y))) (hZ.1.1.1.2) ?_
  refine lv_icmp_ge (tgt := 17) hx hb dX0_tellPatternsFrom_8 (by decide) (fun hc9 => ?_) (fun hc9 => ?_)
  · have hc9 : yN Y ≤ 5 := (nI_leI (a := yN Y) (b := 5) (by omega) (by omega)).mp hc9
    refine lv_aload_n hx hb dX0_tellPatternsFrom_17 rfl (lv_at hl 0 rfl) ?_
    refine gc_go0 (va_runV (As := []) (rest := []) ⟨hx, hb, hml, hown, hts⟩ (m_f_X0_lookAtPlan l hl9 D cI cJ ad sg0 _  hZ.1.1.iv) (cwV 0 hts (gwV a39 a40 a41 a18 a42) rfl rfl rfl (by decide +kernel) ⟨by decide, by decide⟩) (gc_preV0 hK hP hD hS hA hE rfl rfl rfl) rfl rfl hl.1 rfl (lv_room (Nat.le_of_ble_eq_true rfl)) dX0_tellPatternsFrom_18 ⟨by decide, by decide⟩) hD hS hA (fun v39 sg41 H locs hp42 hP hD hS => ?_)
    obtain ⟨rfl, hs9⟩ := hp42
    refine W.eq (g2 := F0 m 21 ls []) rfl ?_
    exact hret _ _ _ _ _ hP hS dX0_tellPatternsFrom_21 (⟨rfl, by rw [ySrch_0 (by omega), hs9]; exact EZ_look hZ⟩)
  · have hc9 : ¬ (yN Y ≤ 5) := fun q => hc9 ((nI_leI (a := yN Y) (b := 5) (by omega) (by omega)).mpr q)
    refine lv_iload_n hx hb dX0_tellPatternsFrom_11 rfl (lv_at hl 1 rfl) ?_
    refine lv_bipush (v := (nI 6)) hx hb dX0_tellPatternsFrom_12 (by decide) ?_
    refine lv_icmp_lt (tgt := 22) hx hb dX0_tellPatternsFrom_14 (by decide) (fun hc45 => ?_) (fun hc45 => ?_)
    · refine lv_aload_n hx hb dX0_tellPatternsFrom_22 rfl (lv_at hl 0 rfl) ?_
      refine lv_iload_n hx hb dX0_tellPatternsFrom_23 rfl (lv_at hl 1 rfl) ?_
      refine gc_go0 (va_runV (As := [.int (nI 5)]) (rest := []) ⟨hx, hb, hml, hown, hts⟩ (m_f_X0_step5 l hl9 D cI cJ ad sg0 _  z Y pl a hZ (fun q h => hz q (by omega))) (cwV 1 hts (gwV a62 a63 a64 a18 a65) rfl rfl rfl (by decide +kernel) ⟨by decide, by decide⟩) (gc_preV0 hK hP hD hS hA hE rfl rfl rfl) rfl rfl hl.1 rfl (lv_room (Nat.le_of_ble_eq_true rfl)) dX0_tellPatternsFrom_24 ⟨by decide, by decide⟩) hD hS hA (fun v46 sg48 H locs hp49 hP hD hS => ?_)
      obtain ⟨rfl, hZ2⟩ := hp49
      refine W.eq (g2 := F0 m 27 ls []) rfl ?_
      refine lv_iconst (v := (nI 1)) hx hb dX0_tellPatternsFrom_27 (by decide) ?_
      refine lv_istore_n (lv' := [(2, .int (nI 1)), (0, .ref (ad 0)), (1, .int (nI 5))]) hx hb dX0_tellPatternsFrom_28 rfl hl (by decide) rfl (fun ls hl => ?_)
      exact c29 _ 1 _ _ _ _ _ rfl (by omega) (by omega) (by omega) (TLP_start (hz 5 (by omega)) (by omega) rfl hZ2) hP hD hS (lv_sub hl [0, 1, 2] rfl)
    · exact absurd hc45 (by decide)
abbrev rmf_X0_step4 : Room := { frames := 6, cells := 0, slots := 0, locals := 129 }
set_option maxRecDepth 100000 in
set_option maxHeartbeats 4000000 in
theorem m_f_X0_step4 (l : Launch) (hl9 : l.stackTraces = false) (D : va_G) (cI : ClassId) (cJ : ClassId × ClassId) (ad : Nat → Nat) (sg0 : Nat → Nat → Int32) (sz : Nat) (z : Nat → Nat → Int32) (Y : YT) (pl : Nat → Nat) (a : RS) (hZ : EZ z Y pl a sg0) (hz : ∀ q : Nat, 5 ≤ q → pl q = 0) : gc_M l yX0_takeStep wsX0_takeStep rmf_X0_step4 D vwCl (tyS cI cJ) cI cJ gxT gxN SS [.ref (ad 0), .int (nI 4)] ad sg0 sz 0 0 (fun v sg2 => v = none ∧ EZ z Y pl (stepP (yLim Y) (ySrch Y (yN Y - 5) 5 pl) a) sg2) := by
  refine gc_Mv_of (cc := cX0_takeStep) (maxL := 2) (by decide) rfl (Nat.le_of_ble_eq_true rfl) ?_
  intro p e s m below meth c A ls Q hin hE hret
  obtain ⟨⟨hx, hb, hml, hown, hts⟩, -, hlocks, -, hA, hP, hK, hD, hS, hl⟩ := hin
  have hts : ∀ w ∈ wsAll, w.before ([.ref (ad 0), .int (nI 4)] : List Value).toArray s = true := fun w h => hts w (List.mem_cons_of_mem _ h)
  have hl : lv_has ls 2 [(0, .ref (ad 0)), (1, .int (nI 4))] := hl
  have hb1 := hZ.1.2.2.2.1.2
  have hb2 := hZ.1.2.2.2.2.1.2
  refine lv_aload_n hx hb dX0_takeStep_0 rfl (lv_at hl 0 rfl) ?_
  refine gw_geti (C := RX0) (T := TX0) (N := 15) hx hb hts inwX0 hown hK hP 0 10 rfl rfl rfl (by decide) (hts _ a43) (fun _ h9 => h9) dX0_takeStep_1 ?_
  refine gw_top (y := (nI a.1)) (hZ.1.2.2.2.2.1.1) ?_
  refine lv_aload_n hx hb dX0_takeStep_4 rfl (lv_at hl 0 rfl) ?_
  refine gw_geti (C := RX0) (T := TX0) (N := 15) hx hb hts inwX0 hown hK hP 0 9 rfl rfl rfl (by decide) (hts _ a44) (fun _ h9 => h9) dX0_takeStep_5 ?_
  refine gw_top (y := (nI (yLim Y))) (hZ.1.2.2.2.1.1) ?_
  refine lv_icmp_lt (tgt := 17) hx hb dX0_takeStep_8 (by decide) (fun hc9 => ?_) (fun hc9 => ?_)
  · have hc9 : a.1 < yLim Y := (nI_ltI (a := a.1) (b := yLim Y) (by omega) (by omega)).mp hc9
    refine lv_aload_n hx hb dX0_takeStep_17 rfl (lv_at hl 0 rfl) ?_
    refine lv_dup hx hb dX0_takeStep_18 rfl ?_
    refine gw_geti (C := RX0) (T := TX0) (N := 15) hx hb hts inwX0 hown hK hP 0 10 rfl rfl rfl (by decide) (hts _ a43) (fun _ h9 => h9) dX0_takeStep_19 ?_
    refine gw_top (y := (nI a.1)) (hZ.1.2.2.2.2.1.1) ?_
    refine lv_iconst (v := (nI 1)) hx hb dX0_takeStep_22 (by decide) ?_
    refine lv_iadd hx hb dX0_takeStep_23 ?_
    refine gw_top (y := (nI (a.1 + 1))) (nI_add _ _) ?_
    refine gw_put (C := RX0) (T := TX0) (N := 15) (ty := .int) hx hb hts inwX0 tyX0 tyX0_ok nmX0 hown hK hP hD hS 0 10 rfl rfl rfl (by decide) (hts _ a43) (fun _ h9 => h9) rfl (by decide +kernel) rfl rfl dX0_takeStep_24 (fun H locs hP hD hS => ?_)
    obtain ⟨sg1, esg1⟩ : ∃ z : Nat → Nat → Int32, z = gw_u sg0 0 (upd (sg0 0) 10 (nI (a.1 + 1))) := ⟨_, rfl⟩
    rw [← esg1] at hP hD
    refine lv_aload_n hx hb dX0_takeStep_27 rfl (lv_at hl 0 rfl) ?_
    refine lv_iload_n hx hb dX0_takeStep_28 rfl (lv_at hl 1 rfl) ?_
    refine lv_iconst (v := (nI 1)) hx hb dX0_takeStep_29 (by decide) ?_
    refine lv_iadd hx hb dX0_takeStep_30 ?_
    refine gw_top (y := (nI 5)) (by decide) ?_
    refine gc_go0 (va_runV (As := [.int (nI 5)]) (rest := []) ⟨hx, hb, hml, hown, hts⟩ (m_f_X0_tell5 l hl9 D cI cJ ad sg1 _  z Y pl (a.1 + 1, a.2) (by rw [esg1]; exact EZ_step hZ (by omega)) hz) (cwV 1 hts (gwV a45 a46 a47 a18 a48) rfl rfl rfl (by decide +kernel) ⟨by decide, by decide⟩) (gc_preV0 hK hP hD hS hA hE rfl rfl rfl) rfl rfl hl.1 rfl (lv_room (Nat.le_of_ble_eq_true rfl)) dX0_takeStep_31 ⟨by decide, by decide⟩) hD hS hA (fun v2 sg4 H locs hp5 hP hD hS => ?_)
    obtain ⟨rfl, hZ2⟩ := hp5
    refine W.eq (g2 := F0 m 34 ls []) rfl ?_
    exact hret _ _ _ _ _ hP hS dX0_takeStep_34 (⟨rfl, by rw [stepP_f (by omega)]; exact hZ2⟩)
  · have hc9 : ¬ (a.1 < yLim Y) := fun q => hc9 ((nI_ltI (a := a.1) (b := yLim Y) (by omega) (by omega)).mpr q)
    refine lv_aload_n hx hb dX0_takeStep_11 rfl (lv_at hl 0 rfl) ?_
    refine lv_iconst (v := (nI 1)) hx hb dX0_takeStep_12 (by decide) ?_
    refine gw_put (C := RX0) (T := TX0) (N := 15) (ty := .boolean) hx hb hts inwX0 tyX0 tyX0_ok nmX0 hown hK hP hD hS 0 11 rfl rfl rfl (by decide) (hts _ a49) (fun _ h9 => h9) rfl (by decide +kernel) rfl rfl dX0_takeStep_13 (fun H locs hP hD hS => ?_)
    obtain ⟨sg8, esg8⟩ : ∃ z : Nat → Nat → Int32, z = gw_u sg0 0 (upd (sg0 0) 11 (nI 1)) := ⟨_, rfl⟩
    rw [← esg8] at hP hD
    exact hret _ _ _ _ _ hP hS dX0_takeStep_16 (⟨rfl, by rw [stepP_t (by omega), esg8]; exact EZ_spent hZ⟩)
abbrev rmf_X0_tell4 : Room := { frames := 7, cells := 0, slots := 0, locals := 150 }
set_option maxRecDepth 100000 in
set_option maxHeartbeats 4000000 in
theorem m_f_X0_tell4 (l : Launch) (hl9 : l.stackTraces = false) (D : va_G) (cI : ClassId) (cJ : ClassId × ClassId) (ad : Nat → Nat) (sg0 : Nat → Nat → Int32) (sz : Nat) (z : Nat → Nat → Int32) (Y : YT) (pl : Nat → Nat) (a : RS) (hZ : EZ z Y pl a sg0) (hz : ∀ q : Nat, 4 ≤ q → pl q = 0) : gc_M l yX0_tellPatternsFrom wsX0_tellPatternsFrom rmf_X0_tell4 D vwCl (tyS cI cJ) cI cJ gxT gxN SS [.ref (ad 0), .int (nI 4)] ad sg0 sz 0 0 (fun v sg2 => v = none ∧ EZ z Y pl (ySrch Y (yN Y - 4) 4 pl a) sg2) := by
  refine gc_Mv_of (cc := cX0_tellPatternsFrom) (maxL := 3) (by decide) rfl (Nat.le_of_ble_eq_true rfl) ?_
  intro p e s m below meth c A ls Q hin hE hret
  obtain ⟨⟨hx, hb, hml, hown, hts⟩, -, hlocks, -, hA, hP, hK, hD, hS, hl⟩ := hin
  have hts : ∀ w ∈ wsAll, w.before ([.ref (ad 0), .int (nI 4)] : List Value).toArray s = true := fun w h => hts w (List.mem_cons_of_mem _ h)
  have hl : lv_has ls 3 [(0, .ref (ad 0)), (1, .int (nI 4))] := hl
  have hN6 := hZ.1.1.1.1
  have c29 : ∀ (n9 : Nat) (i : Nat) (a9 : RS) (sg : Nat → Nat → Int32) (H : Heap) (locs : List Loc) (ls : Array Slot), 13 - i = n9 → 1 ≤ i → i ≤ 13 → 4 < yN Y → (TLP z Y pl 4 i (ySrch Y (yN Y - 4) 4 pl a) a9 sg) → va_P D vwCl (gw cI cJ ad sg SS) H → va_D A (gw cI cJ ad sg SS) → va_S A s.heap H locs → lv_has ls 3 [(2, .int (nI i)), (0, .ref (ad 0)), (1, .int (nI 4))] → W p l e rmf_X0_tell4 s m ([.ref (ad 0), .int (nI 4)] : List Value).toArray below meth c H locs 0 0 Q (F0 m 29 ls []) := by
    intro n9
    induction n9 using Nat.strongRecOn with
    | ind n9 ih =>
    intro i a9 sg H locs ls hn h1 h2 h3 hk hP hD hS hl
    subst hn
    refine lv_iload_n hx hb dX0_tellPatternsFrom_29 rfl (lv_at hl 0 rfl) ?_
    refine lv_bipush (v := (nI 12)) hx hb dX0_tellPatternsFrom_30 (by decide) ?_
    refine lv_icmp_gt (tgt := 69) hx hb dX0_tellPatternsFrom_32 (by decide) (fun hc32 => ?_) (fun hc32 => ?_)
    · have hc32 : 12 < i := (nI_ltI (a := 12) (b := i) (by omega) (by omega)).mp hc32
      refine lv_aload_n hx hb dX0_tellPatternsFrom_69 rfl (lv_at hl 1 rfl) ?_
      refine lv_iload_n hx hb dX0_tellPatternsFrom_70 rfl (lv_at hl 2 rfl) ?_
      refine gc_go0 (va_runV (As := [.int (nI 4)]) (rest := []) ⟨hx, hb, hml, hown, hts⟩ (m_f_X0_takeLogsBack l hl9 D cI cJ ad sg _ 4 (by omega) hk.1.1.1.iv (yCf Y 4) (hk.1.1.1.2.2.2.2.2.1 4 (by decide)).2 (hk.1.1.1.2.2.2.2.2.1 4 (by decide)).1) (cwV 1 hts (gwV a50 a51 a52 a18 a53) rfl rfl rfl (by decide +kernel) ⟨by decide, by decide⟩) (gc_preV0 hK hP hD hS hA hE rfl rfl rfl) rfl rfl hl.1 rfl (lv_room (Nat.le_of_ble_eq_true rfl)) dX0_tellPatternsFrom_71 ⟨by decide, by decide⟩) hD hS hA (fun v1 sg3 H locs hp4 hP hD hS => ?_)
      obtain ⟨rfl, hs7⟩ := hp4
      refine W.eq (g2 := F0 m 74 ls []) rfl ?_
      exact hret _ _ _ _ _ hP hS dX0_tellPatternsFrom_74 (⟨rfl, by rw [hs7]; exact TLP_out hk (by decide) (hz 4 (by omega)) (by first | exact Or.inl (by omega) | exact Or.inr (Or.inl (fun q9 => hc39 (hk.1.1.2.2.2.2.2.1.trans (b2_0.mpr q9)))) | exact Or.inr (Or.inr hft))⟩)
    · have hc32 : ¬ (12 < i) := fun q => hc32 ((nI_ltI (a := 12) (b := i) (by omega) (by omega)).mpr q)
      refine lv_aload_n hx hb dX0_tellPatternsFrom_35 rfl (lv_at hl 1 rfl) ?_
      refine gw_geti (C := RX0) (T := TX0) (N := 15) hx hb hts inwX0 hown hK hP 0 11 rfl rfl rfl (by decide) (hts _ a49) (fun _ h9 => h9) dX0_tellPatternsFrom_36 ?_
      refine lv_if_ne (tgt := 69) hx hb dX0_tellPatternsFrom_39 (by decide) (fun hc39 => ?_) (fun hc39 => ?_)
      · refine lv_aload_n hx hb dX0_tellPatternsFrom_69 rfl (lv_at hl 1 rfl) ?_
        refine lv_iload_n hx hb dX0_tellPatternsFrom_70 rfl (lv_at hl 2 rfl) ?_
        refine gc_go0 (va_runV (As := [.int (nI 4)]) (rest := []) ⟨hx, hb, hml, hown, hts⟩ (m_f_X0_takeLogsBack l hl9 D cI cJ ad sg _ 4 (by omega) hk.1.1.1.iv (yCf Y 4) (hk.1.1.1.2.2.2.2.2.1 4 (by decide)).2 (hk.1.1.1.2.2.2.2.2.1 4 (by decide)).1) (cwV 1 hts (gwV a50 a51 a52 a18 a53) rfl rfl rfl (by decide +kernel) ⟨by decide, by decide⟩) (gc_preV0 hK hP hD hS hA hE rfl rfl rfl) rfl rfl hl.1 rfl (lv_room (Nat.le_of_ble_eq_true rfl)) dX0_tellPatternsFrom_71 ⟨by decide, by decide⟩) hD hS hA (fun v7 sg9 H locs hp10 hP hD hS => ?_)
        obtain ⟨rfl, hs7⟩ := hp10
        refine W.eq (g2 := F0 m 74 ls []) rfl ?_
        exact hret _ _ _ _ _ hP hS dX0_tellPatternsFrom_74 (⟨rfl, by rw [hs7]; exact TLP_out hk (by decide) (hz 4 (by omega)) (by first | exact Or.inl (by omega) | exact Or.inr (Or.inl (fun q9 => hc39 (hk.1.1.2.2.2.2.2.1.trans (b2_0.mpr q9)))) | exact Or.inr (Or.inr hft))⟩)
      · refine lv_aload_n hx hb dX0_tellPatternsFrom_42 rfl (lv_at hl 1 rfl) ?_
        refine lv_iload_n hx hb dX0_tellPatternsFrom_43 rfl (lv_at hl 2 rfl) ?_
        refine gc_go0 (va_runV (As := [.int (nI 4)]) (rest := []) ⟨hx, hb, hml, hown, hts⟩ (m_f_X0_oneLogMoreFits l hl9 D cI cJ ad sg _ 4 (by omega) hk.1.1.1.iv (yCf Y 4) (hk.1.1.1.2.2.2.2.2.1 4 (by decide)).2 (hk.1.1.1.2.2.2.2.2.1 4 (by decide)).1) (cwV 1 hts (gwV a54 a55 a56 a18 a57) rfl rfl rfl (by decide +kernel) ⟨by decide, by decide⟩) (gc_preV0 hK hP hD hS hA hE rfl rfl rfl) rfl rfl hl.1 rfl (lv_room (Nat.le_of_ble_eq_true rfl)) dX0_tellPatternsFrom_44 ⟨by decide, by decide⟩) hD hS hA (fun v13 sg15 H locs hp16 hP hD hS => ?_)
        obtain ⟨hs9, hp9⟩ := hp16
        rw [hs9] at hP hD
        rcases hp9 with ⟨rfl, hft⟩ | ⟨rfl, hft⟩
        · refine W.eq (g2 := F0 m 47 ls [.int (nI 1)]) rfl ?_
          refine lv_if_ne (tgt := 53) hx hb dX0_tellPatternsFrom_47 (by decide) (fun hc19 => ?_) (fun hc19 => ?_)
          · refine lv_aload_n hx hb dX0_tellPatternsFrom_53 rfl (lv_at hl 1 rfl) ?_
            refine lv_iload_n hx hb dX0_tellPatternsFrom_54 rfl (lv_at hl 2 rfl) ?_
            refine gc_go0 (va_runV (As := [.int (nI 4)]) (rest := []) ⟨hx, hb, hml, hown, hts⟩ (m_f_X0_addLog l hl9 D cI cJ ad sg _ 4 (by omega) hk.1.1.1.iv (yCf Y 4) (hk.1.1.1.2.2.2.2.2.1 4 (by decide)).2 (hk.1.1.1.2.2.2.2.2.1 4 (by decide)).1) (cwV 1 hts (gwV a58 a59 a60 a18 a61) rfl rfl rfl (by decide +kernel) ⟨by decide, by decide⟩) (gc_preV0 hK hP hD hS hA hE rfl rfl rfl) rfl rfl hl.1 rfl (lv_room (Nat.le_of_ble_eq_true rfl)) dX0_tellPatternsFrom_55 ⟨by decide, by decide⟩) hD hS hA (fun v20 sg22 H locs hp23 hP hD hS => ?_)
            obtain ⟨rfl, hs8⟩ := hp23
            have hZ3 := TLP_more hk (by decide) h1 (by omega) hft
            rw [← hs8] at hZ3
            refine W.eq (g2 := F0 m 58 ls []) rfl ?_
            refine lv_aload_n hx hb dX0_tellPatternsFrom_58 rfl (lv_at hl 1 rfl) ?_
            refine lv_iload_n hx hb dX0_tellPatternsFrom_59 rfl (lv_at hl 2 rfl) ?_
            refine gc_go0 (va_runV (As := [.int (nI 4)]) (rest := []) ⟨hx, hb, hml, hown, hts⟩ (m_f_X0_step4 l hl9 D cI cJ ad sg22 _  z Y (pu pl 4 i) a9 hZ3 (fun q h => (pu_n pl _ (show q ≠ 4 by omega)).trans (hz q (by omega)))) (cwV 1 hts (gwV a62 a63 a64 a18 a65) rfl rfl rfl (by decide +kernel) ⟨by decide, by decide⟩) (gc_preV0 hK hP hD hS hA hE rfl rfl rfl) rfl rfl hl.1 rfl (lv_room (Nat.le_of_ble_eq_true rfl)) dX0_tellPatternsFrom_60 ⟨by decide, by decide⟩) hD hS hA (fun v26 sg28 H locs hp29 hP hD hS => ?_)
            obtain ⟨rfl, hZ4⟩ := hp29
            refine W.eq (g2 := F0 m 63 ls []) rfl ?_
            refine lv_iinc (k := 0) (v := (nI (i + 1))) (lv' := [(2, .int (nI (i + 1))), (0, .ref (ad 0)), (1, .int (nI 4))]) hx hb dX0_tellPatternsFrom_63 hl rfl (nI_1 _) (by decide) rfl (fun ls hl => ?_)
            refine lv_goto (tgt := 29) hx hb dX0_tellPatternsFrom_66 (by decide) ?_
            exact ih _ (by omega) (i + 1) _ _ _ _ _ rfl (by omega) (by omega) (by omega) (TLP_next hk (by decide) h1 (by omega) (b2_0.mp (hk.1.1.2.2.2.2.2.1.symm.trans hc39)) hft rfl hZ4) hP hD hS (lv_sub hl [0, 1, 2] rfl)
          · exact absurd hc19 (by decide)
        · refine W.eq (g2 := F0 m 47 ls [.int (nI 0)]) rfl ?_
          refine lv_if_ne (tgt := 53) hx hb dX0_tellPatternsFrom_47 (by decide) (fun hc32 => ?_) (fun hc32 => ?_)
          · exact absurd hc32 (by decide)
          · refine lv_goto (tgt := 69) hx hb dX0_tellPatternsFrom_50 (by decide) ?_
            refine lv_aload_n hx hb dX0_tellPatternsFrom_69 rfl (lv_at hl 1 rfl) ?_
            refine lv_iload_n hx hb dX0_tellPatternsFrom_70 rfl (lv_at hl 2 rfl) ?_
            refine gc_go0 (va_runV (As := [.int (nI 4)]) (rest := []) ⟨hx, hb, hml, hown, hts⟩ (m_f_X0_takeLogsBack l hl9 D cI cJ ad sg _ 4 (by omega) hk.1.1.1.iv (yCf Y 4) (hk.1.1.1.2.2.2.2.2.1 4 (by decide)).2 (hk.1.1.1.2.2.2.2.2.1 4 (by decide)).1) (cwV 1 hts (gwV a50 a51 a52 a18 a53) rfl rfl rfl (by decide +kernel) ⟨by decide, by decide⟩) (gc_preV0 hK hP hD hS hA hE rfl rfl rfl) rfl rfl hl.1 rfl (lv_room (Nat.le_of_ble_eq_true rfl)) dX0_tellPatternsFrom_71 ⟨by decide, by decide⟩) hD hS hA (fun v33 sg35 H locs hp36 hP hD hS => ?_)
            obtain ⟨rfl, hs7⟩ := hp36
            refine W.eq (g2 := F0 m 74 ls []) rfl ?_
            exact hret _ _ _ _ _ hP hS dX0_tellPatternsFrom_74 (⟨rfl, by rw [hs7]; exact TLP_out hk (by decide) (hz 4 (by omega)) (by first | exact Or.inl (by omega) | exact Or.inr (Or.inl (fun q9 => hc39 (hk.1.1.2.2.2.2.2.1.trans (b2_0.mpr q9)))) | exact Or.inr (Or.inr hft))⟩)
  refine lv_iload_n hx hb dX0_tellPatternsFrom_0 rfl (lv_at hl 1 rfl) ?_
  refine lv_aload_n hx hb dX0_tellPatternsFrom_1 rfl (lv_at hl 0 rfl) ?_
  refine gw_getr (C := RX0) (T := TX0) (N := 15) hx hb hts inwX0 hown hK hP 0 0 8 rfl rfl rfl (by decide) (hts _ a6) (fun _ h9 => h9) dX0_tellPatternsFrom_2 ?_
  refine gw_getiN (C := RX1) (T := TX1) (N := 12) hx hb hts inwX1 hown hK hP 8 9 rfl rfl rfl (by decide) (hE.nest _ (.fieldLinkNest RX0 81 RX1 "patterns" "I" RX2) (by decide +kernel) rfl) (fun _ h9 => h9) dX0_tellPatternsFrom_5 ?_
  refine gw_top (y := (nI (yN Y))) (hZ.1.1.1.2) ?_
  refine lv_icmp_ge (tgt := 17) hx hb dX0_tellPatternsFrom_8 (by decide) (fun hc9 => ?_) (fun hc9 => ?_)
  · have hc9 : yN Y ≤ 4 := (nI_leI (a := yN Y) (b := 4) (by omega) (by omega)).mp hc9
    refine lv_aload_n hx hb dX0_tellPatternsFrom_17 rfl (lv_at hl 0 rfl) ?_
    refine gc_go0 (va_runV (As := []) (rest := []) ⟨hx, hb, hml, hown, hts⟩ (m_f_X0_lookAtPlan l hl9 D cI cJ ad sg0 _  hZ.1.1.iv) (cwV 0 hts (gwV a39 a40 a41 a18 a42) rfl rfl rfl (by decide +kernel) ⟨by decide, by decide⟩) (gc_preV0 hK hP hD hS hA hE rfl rfl rfl) rfl rfl hl.1 rfl (lv_room (Nat.le_of_ble_eq_true rfl)) dX0_tellPatternsFrom_18 ⟨by decide, by decide⟩) hD hS hA (fun v39 sg41 H locs hp42 hP hD hS => ?_)
    obtain ⟨rfl, hs9⟩ := hp42
    refine W.eq (g2 := F0 m 21 ls []) rfl ?_
    exact hret _ _ _ _ _ hP hS dX0_tellPatternsFrom_21 (⟨rfl, by rw [ySrch_0 (by omega), hs9]; exact EZ_look hZ⟩)
  · have hc9 : ¬ (yN Y ≤ 4) := fun q => hc9 ((nI_leI (a := yN Y) (b := 4) (by omega) (by omega)).mpr q)
    refine lv_iload_n hx hb dX0_tellPatternsFrom_11 rfl (lv_at hl 1 rfl) ?_
    refine lv_bipush (v := (nI 6)) hx hb dX0_tellPatternsFrom_12 (by decide) ?_
    refine lv_icmp_lt (tgt := 22) hx hb dX0_tellPatternsFrom_14 (by decide) (fun hc45 => ?_) (fun hc45 => ?_)
    · refine lv_aload_n hx hb dX0_tellPatternsFrom_22 rfl (lv_at hl 0 rfl) ?_
      refine lv_iload_n hx hb dX0_tellPatternsFrom_23 rfl (lv_at hl 1 rfl) ?_
      refine gc_go0 (va_runV (As := [.int (nI 4)]) (rest := []) ⟨hx, hb, hml, hown, hts⟩ (m_f_X0_step4 l hl9 D cI cJ ad sg0 _  z Y pl a hZ (fun q h => hz q (by omega))) (cwV 1 hts (gwV a62 a63 a64 a18 a65) rfl rfl rfl (by decide +kernel) ⟨by decide, by decide⟩) (gc_preV0 hK hP hD hS hA hE rfl rfl rfl) rfl rfl hl.1 rfl (lv_room (Nat.le_of_ble_eq_true rfl)) dX0_tellPatternsFrom_24 ⟨by decide, by decide⟩) hD hS hA (fun v46 sg48 H locs hp49 hP hD hS => ?_)
      obtain ⟨rfl, hZ2⟩ := hp49
      refine W.eq (g2 := F0 m 27 ls []) rfl ?_
      refine lv_iconst (v := (nI 1)) hx hb dX0_tellPatternsFrom_27 (by decide) ?_
      refine lv_istore_n (lv' := [(2, .int (nI 1)), (0, .ref (ad 0)), (1, .int (nI 4))]) hx hb dX0_tellPatternsFrom_28 rfl hl (by decide) rfl (fun ls hl => ?_)
      exact c29 _ 1 _ _ _ _ _ rfl (by omega) (by omega) (by omega) (TLP_start (hz 4 (by omega)) (by omega) rfl hZ2) hP hD hS (lv_sub hl [0, 1, 2] rfl)
    · exact absurd hc45 (by decide)
abbrev rmf_X0_step3 : Room := { frames := 8, cells := 0, slots := 0, locals := 172 }
set_option maxRecDepth 100000 in
set_option maxHeartbeats 4000000 in
theorem m_f_X0_step3 (l : Launch) (hl9 : l.stackTraces = false) (D : va_G) (cI : ClassId) (cJ : ClassId × ClassId) (ad : Nat → Nat) (sg0 : Nat → Nat → Int32) (sz : Nat) (z : Nat → Nat → Int32) (Y : YT) (pl : Nat → Nat) (a : RS) (hZ : EZ z Y pl a sg0) (hz : ∀ q : Nat, 4 ≤ q → pl q = 0) : gc_M l yX0_takeStep wsX0_takeStep rmf_X0_step3 D vwCl (tyS cI cJ) cI cJ gxT gxN SS [.ref (ad 0), .int (nI 3)] ad sg0 sz 0 0 (fun v sg2 => v = none ∧ EZ z Y pl (stepP (yLim Y) (ySrch Y (yN Y - 4) 4 pl) a) sg2) := by
  refine gc_Mv_of (cc := cX0_takeStep) (maxL := 2) (by decide) rfl (Nat.le_of_ble_eq_true rfl) ?_
  intro p e s m below meth c A ls Q hin hE hret
  obtain ⟨⟨hx, hb, hml, hown, hts⟩, -, hlocks, -, hA, hP, hK, hD, hS, hl⟩ := hin
  have hts : ∀ w ∈ wsAll, w.before ([.ref (ad 0), .int (nI 3)] : List Value).toArray s = true := fun w h => hts w (List.mem_cons_of_mem _ h)
  have hl : lv_has ls 2 [(0, .ref (ad 0)), (1, .int (nI 3))] := hl
  have hb1 := hZ.1.2.2.2.1.2
  have hb2 := hZ.1.2.2.2.2.1.2
  refine lv_aload_n hx hb dX0_takeStep_0 rfl (lv_at hl 0 rfl) ?_
  refine gw_geti (C := RX0) (T := TX0) (N := 15) hx hb hts inwX0 hown hK hP 0 10 rfl rfl rfl (by decide) (hts _ a43) (fun _ h9 => h9) dX0_takeStep_1 ?_
  refine gw_top (y := (nI a.1)) (hZ.1.2.2.2.2.1.1) ?_
  refine lv_aload_n hx hb dX0_takeStep_4 rfl (lv_at hl 0 rfl) ?_
  refine gw_geti (C := RX0) (T := TX0) (N := 15) hx hb hts inwX0 hown hK hP 0 9 rfl rfl rfl (by decide) (hts _ a44) (fun _ h9 => h9) dX0_takeStep_5 ?_
  refine gw_top (y := (nI (yLim Y))) (hZ.1.2.2.2.1.1) ?_
  refine lv_icmp_lt (tgt := 17) hx hb dX0_takeStep_8 (by decide) (fun hc9 => ?_) (fun hc9 => ?_)
  · have hc9 : a.1 < yLim Y := (nI_ltI (a := a.1) (b := yLim Y) (by omega) (by omega)).mp hc9
    refine lv_aload_n hx hb dX0_takeStep_17 rfl (lv_at hl 0 rfl) ?_
    refine lv_dup hx hb dX0_takeStep_18 rfl ?_
    refine gw_geti (C := RX0) (T := TX0) (N := 15) hx hb hts inwX0 hown hK hP 0 10 rfl rfl rfl (by decide) (hts _ a43) (fun _ h9 => h9) dX0_takeStep_19 ?_
    refine gw_top (y := (nI a.1)) (hZ.1.2.2.2.2.1.1) ?_
    refine lv_iconst (v := (nI 1)) hx hb dX0_takeStep_22 (by decide) ?_
    refine lv_iadd hx hb dX0_takeStep_23 ?_
    refine gw_top (y := (nI (a.1 + 1))) (nI_add _ _) ?_
    refine gw_put (C := RX0) (T := TX0) (N := 15) (ty := .int) hx hb hts inwX0 tyX0 tyX0_ok nmX0 hown hK hP hD hS 0 10 rfl rfl rfl (by decide) (hts _ a43) (fun _ h9 => h9) rfl (by decide +kernel) rfl rfl dX0_takeStep_24 (fun H locs hP hD hS => ?_)
    obtain ⟨sg1, esg1⟩ : ∃ z : Nat → Nat → Int32, z = gw_u sg0 0 (upd (sg0 0) 10 (nI (a.1 + 1))) := ⟨_, rfl⟩
    rw [← esg1] at hP hD
    refine lv_aload_n hx hb dX0_takeStep_27 rfl (lv_at hl 0 rfl) ?_
    refine lv_iload_n hx hb dX0_takeStep_28 rfl (lv_at hl 1 rfl) ?_
    refine lv_iconst (v := (nI 1)) hx hb dX0_takeStep_29 (by decide) ?_
    refine lv_iadd hx hb dX0_takeStep_30 ?_
    refine gw_top (y := (nI 4)) (by decide) ?_
    refine gc_go0 (va_runV (As := [.int (nI 4)]) (rest := []) ⟨hx, hb, hml, hown, hts⟩ (m_f_X0_tell4 l hl9 D cI cJ ad sg1 _  z Y pl (a.1 + 1, a.2) (by rw [esg1]; exact EZ_step hZ (by omega)) hz) (cwV 1 hts (gwV a45 a46 a47 a18 a48) rfl rfl rfl (by decide +kernel) ⟨by decide, by decide⟩) (gc_preV0 hK hP hD hS hA hE rfl rfl rfl) rfl rfl hl.1 rfl (lv_room (Nat.le_of_ble_eq_true rfl)) dX0_takeStep_31 ⟨by decide, by decide⟩) hD hS hA (fun v2 sg4 H locs hp5 hP hD hS => ?_)
    obtain ⟨rfl, hZ2⟩ := hp5
    refine W.eq (g2 := F0 m 34 ls []) rfl ?_
    exact hret _ _ _ _ _ hP hS dX0_takeStep_34 (⟨rfl, by rw [stepP_f (by omega)]; exact hZ2⟩)
  · have hc9 : ¬ (a.1 < yLim Y) := fun q => hc9 ((nI_ltI (a := a.1) (b := yLim Y) (by omega) (by omega)).mpr q)
    refine lv_aload_n hx hb dX0_takeStep_11 rfl (lv_at hl 0 rfl) ?_
    refine lv_iconst (v := (nI 1)) hx hb dX0_takeStep_12 (by decide) ?_
    refine gw_put (C := RX0) (T := TX0) (N := 15) (ty := .boolean) hx hb hts inwX0 tyX0 tyX0_ok nmX0 hown hK hP hD hS 0 11 rfl rfl rfl (by decide) (hts _ a49) (fun _ h9 => h9) rfl (by decide +kernel) rfl rfl dX0_takeStep_13 (fun H locs hP hD hS => ?_)
    obtain ⟨sg8, esg8⟩ : ∃ z : Nat → Nat → Int32, z = gw_u sg0 0 (upd (sg0 0) 11 (nI 1)) := ⟨_, rfl⟩
    rw [← esg8] at hP hD
    exact hret _ _ _ _ _ hP hS dX0_takeStep_16 (⟨rfl, by rw [stepP_t (by omega), esg8]; exact EZ_spent hZ⟩)
abbrev rmf_X0_tell3 : Room := { frames := 9, cells := 0, slots := 0, locals := 193 }
set_option maxRecDepth 100000 in
set_option maxHeartbeats 4000000 in
theorem m_f_X0_tell3 (l : Launch) (hl9 : l.stackTraces = false) (D : va_G) (cI : ClassId) (cJ : ClassId × ClassId) (ad : Nat → Nat) (sg0 : Nat → Nat → Int32) (sz : Nat) (z : Nat → Nat → Int32) (Y : YT) (pl : Nat → Nat) (a : RS) (hZ : EZ z Y pl a sg0) (hz : ∀ q : Nat, 3 ≤ q → pl q = 0) : gc_M l yX0_tellPatternsFrom wsX0_tellPatternsFrom rmf_X0_tell3 D vwCl (tyS cI cJ) cI cJ gxT gxN SS [.ref (ad 0), .int (nI 3)] ad sg0 sz 0 0 (fun v sg2 => v = none ∧ EZ z Y pl (ySrch Y (yN Y - 3) 3 pl a) sg2) := by
  refine gc_Mv_of (cc := cX0_tellPatternsFrom) (maxL := 3) (by decide) rfl (Nat.le_of_ble_eq_true rfl) ?_
  intro p e s m below meth c A ls Q hin hE hret
  obtain ⟨⟨hx, hb, hml, hown, hts⟩, -, hlocks, -, hA, hP, hK, hD, hS, hl⟩ := hin
  have hts : ∀ w ∈ wsAll, w.before ([.ref (ad 0), .int (nI 3)] : List Value).toArray s = true := fun w h => hts w (List.mem_cons_of_mem _ h)
  have hl : lv_has ls 3 [(0, .ref (ad 0)), (1, .int (nI 3))] := hl
  have hN6 := hZ.1.1.1.1
  have c29 : ∀ (n9 : Nat) (i : Nat) (a9 : RS) (sg : Nat → Nat → Int32) (H : Heap) (locs : List Loc) (ls : Array Slot), 13 - i = n9 → 1 ≤ i → i ≤ 13 → 3 < yN Y → (TLP z Y pl 3 i (ySrch Y (yN Y - 3) 3 pl a) a9 sg) → va_P D vwCl (gw cI cJ ad sg SS) H → va_D A (gw cI cJ ad sg SS) → va_S A s.heap H locs → lv_has ls 3 [(2, .int (nI i)), (0, .ref (ad 0)), (1, .int (nI 3))] → W p l e rmf_X0_tell3 s m ([.ref (ad 0), .int (nI 3)] : List Value).toArray below meth c H locs 0 0 Q (F0 m 29 ls []) := by
    intro n9
    induction n9 using Nat.strongRecOn with
    | ind n9 ih =>
    intro i a9 sg H locs ls hn h1 h2 h3 hk hP hD hS hl
    subst hn
    refine lv_iload_n hx hb dX0_tellPatternsFrom_29 rfl (lv_at hl 0 rfl) ?_
    refine lv_bipush (v := (nI 12)) hx hb dX0_tellPatternsFrom_30 (by decide) ?_
    refine lv_icmp_gt (tgt := 69) hx hb dX0_tellPatternsFrom_32 (by decide) (fun hc32 => ?_) (fun hc32 => ?_)
    · have hc32 : 12 < i := (nI_ltI (a := 12) (b := i) (by omega) (by omega)).mp hc32
      refine lv_aload_n hx hb dX0_tellPatternsFrom_69 rfl (lv_at hl 1 rfl) ?_
      refine lv_iload_n hx hb dX0_tellPatternsFrom_70 rfl (lv_at hl 2 rfl) ?_
      refine gc_go0 (va_runV (As := [.int (nI 3)]) (rest := []) ⟨hx, hb, hml, hown, hts⟩ (m_f_X0_takeLogsBack l hl9 D cI cJ ad sg _ 3 (by omega) hk.1.1.1.iv (yCf Y 3) (hk.1.1.1.2.2.2.2.2.1 3 (by decide)).2 (hk.1.1.1.2.2.2.2.2.1 3 (by decide)).1) (cwV 1 hts (gwV a50 a51 a52 a18 a53) rfl rfl rfl (by decide +kernel) ⟨by decide, by decide⟩) (gc_preV0 hK hP hD hS hA hE rfl rfl rfl) rfl rfl hl.1 rfl (lv_room (Nat.le_of_ble_eq_true rfl)) dX0_tellPatternsFrom_71 ⟨by decide, by decide⟩) hD hS hA (fun v1 sg3 H locs hp4 hP hD hS => ?_)
      obtain ⟨rfl, hs7⟩ := hp4
      refine W.eq (g2 := F0 m 74 ls []) rfl ?_
      exact hret _ _ _ _ _ hP hS dX0_tellPatternsFrom_74 (⟨rfl, by rw [hs7]; exact TLP_out hk (by decide) (hz 3 (by omega)) (by first | exact Or.inl (by omega) | exact Or.inr (Or.inl (fun q9 => hc39 (hk.1.1.2.2.2.2.2.1.trans (b2_0.mpr q9)))) | exact Or.inr (Or.inr hft))⟩)
    · have hc32 : ¬ (12 < i) := fun q => hc32 ((nI_ltI (a := 12) (b := i) (by omega) (by omega)).mpr q)
      refine lv_aload_n hx hb dX0_tellPatternsFrom_35 rfl (lv_at hl 1 rfl) ?_
      refine gw_geti (C := RX0) (T := TX0) (N := 15) hx hb hts inwX0 hown hK hP 0 11 rfl rfl rfl (by decide) (hts _ a49) (fun _ h9 => h9) dX0_tellPatternsFrom_36 ?_
      refine lv_if_ne (tgt := 69) hx hb dX0_tellPatternsFrom_39 (by decide) (fun hc39 => ?_) (fun hc39 => ?_)
      · refine lv_aload_n hx hb dX0_tellPatternsFrom_69 rfl (lv_at hl 1 rfl) ?_
        refine lv_iload_n hx hb dX0_tellPatternsFrom_70 rfl (lv_at hl 2 rfl) ?_
        refine gc_go0 (va_runV (As := [.int (nI 3)]) (rest := []) ⟨hx, hb, hml, hown, hts⟩ (m_f_X0_takeLogsBack l hl9 D cI cJ ad sg _ 3 (by omega) hk.1.1.1.iv (yCf Y 3) (hk.1.1.1.2.2.2.2.2.1 3 (by decide)).2 (hk.1.1.1.2.2.2.2.2.1 3 (by decide)).1) (cwV 1 hts (gwV a50 a51 a52 a18 a53) rfl rfl rfl (by decide +kernel) ⟨by decide, by decide⟩) (gc_preV0 hK hP hD hS hA hE rfl rfl rfl) rfl rfl hl.1 rfl (lv_room (Nat.le_of_ble_eq_true rfl)) dX0_tellPatternsFrom_71 ⟨by decide, by decide⟩) hD hS hA (fun v7 sg9 H locs hp10 hP hD hS => ?_)
        obtain ⟨rfl, hs7⟩ := hp10
        refine W.eq (g2 := F0 m 74 ls []) rfl ?_
        exact hret _ _ _ _ _ hP hS dX0_tellPatternsFrom_74 (⟨rfl, by rw [hs7]; exact TLP_out hk (by decide) (hz 3 (by omega)) (by first | exact Or.inl (by omega) | exact Or.inr (Or.inl (fun q9 => hc39 (hk.1.1.2.2.2.2.2.1.trans (b2_0.mpr q9)))) | exact Or.inr (Or.inr hft))⟩)
      · refine lv_aload_n hx hb dX0_tellPatternsFrom_42 rfl (lv_at hl 1 rfl) ?_
        refine lv_iload_n hx hb dX0_tellPatternsFrom_43 rfl (lv_at hl 2 rfl) ?_
        refine gc_go0 (va_runV (As := [.int (nI 3)]) (rest := []) ⟨hx, hb, hml, hown, hts⟩ (m_f_X0_oneLogMoreFits l hl9 D cI cJ ad sg _ 3 (by omega) hk.1.1.1.iv (yCf Y 3) (hk.1.1.1.2.2.2.2.2.1 3 (by decide)).2 (hk.1.1.1.2.2.2.2.2.1 3 (by decide)).1) (cwV 1 hts (gwV a54 a55 a56 a18 a57) rfl rfl rfl (by decide +kernel) ⟨by decide, by decide⟩) (gc_preV0 hK hP hD hS hA hE rfl rfl rfl) rfl rfl hl.1 rfl (lv_room (Nat.le_of_ble_eq_true rfl)) dX0_tellPatternsFrom_44 ⟨by decide, by decide⟩) hD hS hA (fun v13 sg15 H locs hp16 hP hD hS => ?_)
        obtain ⟨hs9, hp9⟩ := hp16
        rw [hs9] at hP hD
        rcases hp9 with ⟨rfl, hft⟩ | ⟨rfl, hft⟩
        · refine W.eq (g2 := F0 m 47 ls [.int (nI 1)]) rfl ?_
          refine lv_if_ne (tgt := 53) hx hb dX0_tellPatternsFrom_47 (by decide) (fun hc19 => ?_) (fun hc19 => ?_)
          · refine lv_aload_n hx hb dX0_tellPatternsFrom_53 rfl (lv_at hl 1 rfl) ?_
            refine lv_iload_n hx hb dX0_tellPatternsFrom_54 rfl (lv_at hl 2 rfl) ?_
            refine gc_go0 (va_runV (As := [.int (nI 3)]) (rest := []) ⟨hx, hb, hml, hown, hts⟩ (m_f_X0_addLog l hl9 D cI cJ ad sg _ 3 (by omega) hk.1.1.1.iv (yCf Y 3) (hk.1.1.1.2.2.2.2.2.1 3 (by decide)).2 (hk.1.1.1.2.2.2.2.2.1 3 (by decide)).1) (cwV 1 hts (gwV a58 a59 a60 a18 a61) rfl rfl rfl (by decide +kernel) ⟨by decide, by decide⟩) (gc_preV0 hK hP hD hS hA hE rfl rfl rfl) rfl rfl hl.1 rfl (lv_room (Nat.le_of_ble_eq_true rfl)) dX0_tellPatternsFrom_55 ⟨by decide, by decide⟩) hD hS hA (fun v20 sg22 H locs hp23 hP hD hS => ?_)
            obtain ⟨rfl, hs8⟩ := hp23
            have hZ3 := TLP_more hk (by decide) h1 (by omega) hft
            rw [← hs8] at hZ3
            refine W.eq (g2 := F0 m 58 ls []) rfl ?_
            refine lv_aload_n hx hb dX0_tellPatternsFrom_58 rfl (lv_at hl 1 rfl) ?_
            refine lv_iload_n hx hb dX0_tellPatternsFrom_59 rfl (lv_at hl 2 rfl) ?_
            refine gc_go0 (va_runV (As := [.int (nI 3)]) (rest := []) ⟨hx, hb, hml, hown, hts⟩ (m_f_X0_step3 l hl9 D cI cJ ad sg22 _  z Y (pu pl 3 i) a9 hZ3 (fun q h => (pu_n pl _ (show q ≠ 3 by omega)).trans (hz q (by omega)))) (cwV 1 hts (gwV a62 a63 a64 a18 a65) rfl rfl rfl (by decide +kernel) ⟨by decide, by decide⟩) (gc_preV0 hK hP hD hS hA hE rfl rfl rfl) rfl rfl hl.1 rfl (lv_room (Nat.le_of_ble_eq_true rfl)) dX0_tellPatternsFrom_60 ⟨by decide, by decide⟩) hD hS hA (fun v26 sg28 H locs hp29 hP hD hS => ?_)
            obtain ⟨rfl, hZ4⟩ := hp29
            refine W.eq (g2 := F0 m 63 ls []) rfl ?_
            refine lv_iinc (k := 0) (v := (nI (i + 1))) (lv' := [(2, .int (nI (i + 1))), (0, .ref (ad 0)), (1, .int (nI 3))]) hx hb dX0_tellPatternsFrom_63 hl rfl (nI_1 _) (by decide) rfl (fun ls hl => ?_)
            refine lv_goto (tgt := 29) hx hb dX0_tellPatternsFrom_66 (by decide) ?_
            exact ih _ (by omega) (i + 1) _ _ _ _ _ rfl (by omega) (by omega) (by omega) (TLP_next hk (by decide) h1 (by omega) (b2_0.mp (hk.1.1.2.2.2.2.2.1.symm.trans hc39)) hft rfl hZ4) hP hD hS (lv_sub hl [0, 1, 2] rfl)
          · exact absurd hc19 (by decide)
        · refine W.eq (g2 := F0 m 47 ls [.int (nI 0)]) rfl ?_
          refine lv_if_ne (tgt := 53) hx hb dX0_tellPatternsFrom_47 (by decide) (fun hc32 => ?_) (fun hc32 => ?_)
          · exact absurd hc32 (by decide)
          · refine lv_goto (tgt := 69) hx hb dX0_tellPatternsFrom_50 (by decide) ?_
            refine lv_aload_n hx hb dX0_tellPatternsFrom_69 rfl (lv_at hl 1 rfl) ?_
            refine lv_iload_n hx hb dX0_tellPatternsFrom_70 rfl (lv_at hl 2 rfl) ?_
            refine gc_go0 (va_runV (As := [.int (nI 3)]) (rest := []) ⟨hx, hb, hml, hown, hts⟩ (m_f_X0_takeLogsBack l hl9 D cI cJ ad sg _ 3 (by omega) hk.1.1.1.iv (yCf Y 3) (hk.1.1.1.2.2.2.2.2.1 3 (by decide)).2 (hk.1.1.1.2.2.2.2.2.1 3 (by decide)).1) (cwV 1 hts (gwV a50 a51 a52 a18 a53) rfl rfl rfl (by decide +kernel) ⟨by decide, by decide⟩) (gc_preV0 hK hP hD hS hA hE rfl rfl rfl) rfl rfl hl.1 rfl (lv_room (Nat.le_of_ble_eq_true rfl)) dX0_tellPatternsFrom_71 ⟨by decide, by decide⟩) hD hS hA (fun v33 sg35 H locs hp36 hP hD hS => ?_)
            obtain ⟨rfl, hs7⟩ := hp36
            refine W.eq (g2 := F0 m 74 ls []) rfl ?_
            exact hret _ _ _ _ _ hP hS dX0_tellPatternsFrom_74 (⟨rfl, by rw [hs7]; exact TLP_out hk (by decide) (hz 3 (by omega)) (by first | exact Or.inl (by omega) | exact Or.inr (Or.inl (fun q9 => hc39 (hk.1.1.2.2.2.2.2.1.trans (b2_0.mpr q9)))) | exact Or.inr (Or.inr hft))⟩)
  refine lv_iload_n hx hb dX0_tellPatternsFrom_0 rfl (lv_at hl 1 rfl) ?_
  refine lv_aload_n hx hb dX0_tellPatternsFrom_1 rfl (lv_at hl 0 rfl) ?_
  refine gw_getr (C := RX0) (T := TX0) (N := 15) hx hb hts inwX0 hown hK hP 0 0 8 rfl rfl rfl (by decide) (hts _ a6) (fun _ h9 => h9) dX0_tellPatternsFrom_2 ?_
  refine gw_getiN (C := RX1) (T := TX1) (N := 12) hx hb hts inwX1 hown hK hP 8 9 rfl rfl rfl (by decide) (hE.nest _ (.fieldLinkNest RX0 81 RX1 "patterns" "I" RX2) (by decide +kernel) rfl) (fun _ h9 => h9) dX0_tellPatternsFrom_5 ?_
  refine gw_top (y := (nI (yN Y))) (hZ.1.1.1.2) ?_
  refine lv_icmp_ge (tgt := 17) hx hb dX0_tellPatternsFrom_8 (by decide) (fun hc9 => ?_) (fun hc9 => ?_)
  · have hc9 : yN Y ≤ 3 := (nI_leI (a := yN Y) (b := 3) (by omega) (by omega)).mp hc9
    refine lv_aload_n hx hb dX0_tellPatternsFrom_17 rfl (lv_at hl 0 rfl) ?_
    refine gc_go0 (va_runV (As := []) (rest := []) ⟨hx, hb, hml, hown, hts⟩ (m_f_X0_lookAtPlan l hl9 D cI cJ ad sg0 _  hZ.1.1.iv) (cwV 0 hts (gwV a39 a40 a41 a18 a42) rfl rfl rfl (by decide +kernel) ⟨by decide, by decide⟩) (gc_preV0 hK hP hD hS hA hE rfl rfl rfl) rfl rfl hl.1 rfl (lv_room (Nat.le_of_ble_eq_true rfl)) dX0_tellPatternsFrom_18 ⟨by decide, by decide⟩) hD hS hA (fun v39 sg41 H locs hp42 hP hD hS => ?_)
    obtain ⟨rfl, hs9⟩ := hp42
    refine W.eq (g2 := F0 m 21 ls []) rfl ?_
    exact hret _ _ _ _ _ hP hS dX0_tellPatternsFrom_21 (⟨rfl, by rw [ySrch_0 (by omega), hs9]; exact EZ_look hZ⟩)
  · have hc9 : ¬ (yN Y ≤ 3) := fun q => hc9 ((nI_leI (a := yN Y) (b := 3) (by omega) (by omega)).mpr q)
    refine lv_iload_n hx hb dX0_tellPatternsFrom_11 rfl (lv_at hl 1 rfl) ?_
    refine lv_bipush (v := (nI 6)) hx hb dX0_tellPatternsFrom_12 (by decide) ?_
    refine lv_icmp_lt (tgt := 22) hx hb dX0_tellPatternsFrom_14 (by decide) (fun hc45 => ?_) (fun hc45 => ?_)
    · refine lv_aload_n hx hb dX0_tellPatternsFrom_22 rfl (lv_at hl 0 rfl) ?_
      refine lv_iload_n hx hb dX0_tellPatternsFrom_23 rfl (lv_at hl 1 rfl) ?_
      refine gc_go0 (va_runV (As := [.int (nI 3)]) (rest := []) ⟨hx, hb, hml, hown, hts⟩ (m_f_X0_step3 l hl9 D cI cJ ad sg0 _  z Y pl a hZ (fun q h => hz q (by omega))) (cwV 1 hts (gwV a62 a63 a64 a18 a65) rfl rfl rfl (by decide +kernel) ⟨by decide, by decide⟩) (gc_preV0 hK hP hD hS hA hE rfl rfl rfl) rfl rfl hl.1 rfl (lv_room (Nat.le_of_ble_eq_true rfl)) dX0_tellPatternsFrom_24 ⟨by decide, by decide⟩) hD hS hA (fun v46 sg48 H locs hp49 hP hD hS => ?_)
      obtain ⟨rfl, hZ2⟩ := hp49
      refine W.eq (g2 := F0 m 27 ls []) rfl ?_
      refine lv_iconst (v := (nI 1)) hx hb dX0_tellPatternsFrom_27 (by decide) ?_
      refine lv_istore_n (lv' := [(2, .int (nI 1)), (0, .ref (ad 0)), (1, .int (nI 3))]) hx hb dX0_tellPatternsFrom_28 rfl hl (by decide) rfl (fun ls hl => ?_)
      exact c29 _ 1 _ _ _ _ _ rfl (by omega) (by omega) (by omega) (TLP_start (hz 3 (by omega)) (by omega) rfl hZ2) hP hD hS (lv_sub hl [0, 1, 2] rfl)
    · exact absurd hc45 (by decide)
abbrev rmf_X0_step2 : Room := { frames := 10, cells := 0, slots := 0, locals := 215 }
set_option maxRecDepth 100000 in
set_option maxHeartbeats 4000000 in
theorem m_f_X0_step2 (l : Launch) (hl9 : l.stackTraces = false) (D : va_G) (cI : ClassId) (cJ : ClassId × ClassId) (ad : Nat → Nat) (sg0 : Nat → Nat → Int32) (sz : Nat) (z : Nat → Nat → Int32) (Y : YT) (pl : Nat → Nat) (a : RS) (hZ : EZ z Y pl a sg0) (hz : ∀ q : Nat, 3 ≤ q → pl q = 0) : gc_M l yX0_takeStep wsX0_takeStep rmf_X0_step2 D vwCl (tyS cI cJ) cI cJ gxT gxN SS [.ref (ad 0), .int (nI 2)] ad sg0 sz 0 0 (fun v sg2 => v = none ∧ EZ z Y pl (stepP (yLim Y) (ySrch Y (yN Y - 3) 3 pl) a) sg2) := by
  refine gc_Mv_of (cc := cX0_takeStep) (maxL := 2) (by decide) rfl (Nat.le_of_ble_eq_true rfl) ?_
  intro p e s m below meth c A ls Q hin hE hret
  obtain ⟨⟨hx, hb, hml, hown, hts⟩, -, hlocks, -, hA, hP, hK, hD, hS, hl⟩ := hin
  have hts : ∀ w ∈ wsAll, w.before ([.ref (ad 0), .int (nI 2)] : List Value).toArray s = true := fun w h => hts w (List.mem_cons_of_mem _ h)
  have hl : lv_has ls 2 [(0, .ref (ad 0)), (1, .int (nI 2))] := hl
  have hb1 := hZ.1.2.2.2.1.2
  have hb2 := hZ.1.2.2.2.2.1.2
  refine lv_aload_n hx hb dX0_takeStep_0 rfl (lv_at hl 0 rfl) ?_
  refine gw_geti (C := RX0) (T := TX0) (N := 15) hx hb hts inwX0 hown hK hP 0 10 rfl rfl rfl (by decide) (hts _ a43) (fun _ h9 => h9) dX0_takeStep_1 ?_
  refine gw_top (y := (nI a.1)) (hZ.1.2.2.2.2.1.1) ?_
  refine lv_aload_n hx hb dX0_takeStep_4 rfl (lv_at hl 0 rfl) ?_
  refine gw_geti (C := RX0) (T := TX0) (N := 15) hx hb hts inwX0 hown hK hP 0 9 rfl rfl rfl (by decide) (hts _ a44) (fun _ h9 => h9) dX0_takeStep_5 ?_
  refine gw_top (y := (nI (yLim Y))) (hZ.1.2.2.2.1.1) ?_
  refine lv_icmp_lt (tgt := 17) hx hb dX0_takeStep_8 (by decide) (fun hc9 => ?_) (fun hc9 => ?_)
  · have hc9 : a.1 < yLim Y := (nI_ltI (a := a.1) (b := yLim Y) (by omega) (by omega)).mp hc9
    refine lv_aload_n hx hb dX0_takeStep_17 rfl (lv_at hl 0 rfl) ?_
    refine lv_dup hx hb dX0_takeStep_18 rfl ?_
    refine gw_geti (C := RX0) (T := TX0) (N := 15) hx hb hts inwX0 hown hK hP 0 10 rfl rfl rfl (by decide) (hts _ a43) (fun _ h9 => h9) dX0_takeStep_19 ?_
    refine gw_top (y := (nI a.1)) (hZ.1.2.2.2.2.1.1) ?_
    refine lv_iconst (v := (nI 1)) hx hb dX0_takeStep_22 (by decide) ?_
    refine lv_iadd hx hb dX0_takeStep_23 ?_
    refine gw_top (y := (nI (a.1 + 1))) (nI_add _ _) ?_
    refine gw_put (C := RX0) (T := TX0) (N := 15) (ty := .int) hx hb hts inwX0 tyX0 tyX0_ok nmX0 hown hK hP hD hS 0 10 rfl rfl rfl (by decide) (hts _ a43) (fun _ h9 => h9) rfl (by decide +kernel) rfl rfl dX0_takeStep_24 (fun H locs hP hD hS => ?_)
    obtain ⟨sg1, esg1⟩ : ∃ z : Nat → Nat → Int32, z = gw_u sg0 0 (upd (sg0 0) 10 (nI (a.1 + 1))) := ⟨_, rfl⟩
    rw [← esg1] at hP hD
    refine lv_aload_n hx hb dX0_takeStep_27 rfl (lv_at hl 0 rfl) ?_
    refine lv_iload_n hx hb dX0_takeStep_28 rfl (lv_at hl 1 rfl) ?_
    refine lv_iconst (v := (nI 1)) hx hb dX0_takeStep_29 (by decide) ?_
    refine lv_iadd hx hb dX0_takeStep_30 ?_
    refine gw_top (y := (nI 3)) (by decide) ?_
    refine gc_go0 (va_runV (As := [.int (nI 3)]) (rest := []) ⟨hx, hb, hml, hown, hts⟩ (m_f_X0_tell3 l hl9 D cI cJ ad sg1 _  z Y pl (a.1 + 1, a.2) (by rw [esg1]; exact EZ_step hZ (by omega)) hz) (cwV 1 hts (gwV a45 a46 a47 a18 a48) rfl rfl rfl (by decide +kernel) ⟨by decide, by decide⟩) (gc_preV0 hK hP hD hS hA hE rfl rfl rfl) rfl rfl hl.1 rfl (lv_room (Nat.le_of_ble_eq_true rfl)) dX0_takeStep_31 ⟨by decide, by decide⟩) hD hS hA (fun v2 sg4 H locs hp5 hP hD hS => ?_)
    obtain ⟨rfl, hZ2⟩ := hp5
    refine W.eq (g2 := F0 m 34 ls []) rfl ?_
    exact hret _ _ _ _ _ hP hS dX0_takeStep_34 (⟨rfl, by rw [stepP_f (by omega)]; exact hZ2⟩)
  · have hc9 : ¬ (a.1 < yLim Y) := fun q => hc9 ((nI_ltI (a := a.1) (b := yLim Y) (by omega) (by omega)).mpr q)
    refine lv_aload_n hx hb dX0_takeStep_11 rfl (lv_at hl 0 rfl) ?_
    refine lv_iconst (v := (nI 1)) hx hb dX0_takeStep_12 (by decide) ?_
    refine gw_put (C := RX0) (T := TX0) (N := 15) (ty := .boolean) hx hb hts inwX0 tyX0 tyX0_ok nmX0 hown hK hP hD hS 0 11 rfl rfl rfl (by decide) (hts _ a49) (fun _ h9 => h9) rfl (by decide +kernel) rfl rfl dX0_takeStep_13 (fun H locs hP hD hS => ?_)
    obtain ⟨sg8, esg8⟩ : ∃ z : Nat → Nat → Int32, z = gw_u sg0 0 (upd (sg0 0) 11 (nI 1)) := ⟨_, rfl⟩
    rw [← esg8] at hP hD
    exact hret _ _ _ _ _ hP hS dX0_takeStep_16 (⟨rfl, by rw [stepP_t (by omega), esg8]; exact EZ_spent hZ⟩)
abbrev rmf_X0_tell2 : Room := { frames := 11, cells := 0, slots := 0, locals := 236 }
set_option maxRecDepth 100000 in
set_option maxHeartbeats 4000000 in
theorem m_f_X0_tell2 (l : Launch) (hl9 : l.stackTraces = false) (D : va_G) (cI : ClassId) (cJ : ClassId × ClassId) (ad : Nat → Nat) (sg0 : Nat → Nat → Int32) (sz : Nat) (z : Nat → Nat → Int32) (Y : YT) (pl : Nat → Nat) (a : RS) (hZ : EZ z Y pl a sg0) (hz : ∀ q : Nat, 2 ≤ q → pl q = 0) : gc_M l yX0_tellPatternsFrom wsX0_tellPatternsFrom rmf_X0_tell2 D vwCl (tyS cI cJ) cI cJ gxT gxN SS [.ref (ad 0), .int (nI 2)] ad sg0 sz 0 0 (fun v sg2 => v = none ∧ EZ z Y pl (ySrch Y (yN Y - 2) 2 pl a) sg2) := by
  refine gc_Mv_of (cc := cX0_tellPatternsFrom) (maxL := 3) (by decide) rfl (Nat.le_of_ble_eq_true rfl) ?_
  intro p e s m below meth c A ls Q hin hE hret
  obtain ⟨⟨hx, hb, hml, hown, hts⟩, -, hlocks, -, hA, hP, hK, hD, hS, hl⟩ := hin
  have hts : ∀ w ∈ wsAll, w.before ([.ref (ad 0), .int (nI 2)] : List Value).toArray s = true := fun w h => hts w (List.mem_cons_of_mem _ h)
  have hl : lv_has ls 3 [(0, .ref (ad 0)), (1, .int (nI 2))] := hl
  have hN6 := hZ.1.1.1.1
  have c29 : ∀ (n9 : Nat) (i : Nat) (a9 : RS) (sg : Nat → Nat → Int32) (H : Heap) (locs : List Loc) (ls : Array Slot), 13 - i = n9 → 1 ≤ i → i ≤ 13 → 2 < yN Y → (TLP z Y pl 2 i (ySrch Y (yN Y - 2) 2 pl a) a9 sg) → va_P D vwCl (gw cI cJ ad sg SS) H → va_D A (gw cI cJ ad sg SS) → va_S A s.heap H locs → lv_has ls 3 [(2, .int (nI i)), (0, .ref (ad 0)), (1, .int (nI 2))] → W p l e rmf_X0_tell2 s m ([.ref (ad 0), .int (nI 2)] : List Value).toArray below meth c H locs 0 0 Q (F0 m 29 ls []) := by
    intro n9
    induction n9 using Nat.strongRecOn with
    | ind n9 ih =>
    intro i a9 sg H locs ls hn h1 h2 h3 hk hP hD hS hl
    subst hn
    refine lv_iload_n hx hb dX0_tellPatternsFrom_29 rfl (lv_at hl 0 rfl) ?_
    refine lv_bipush (v := (nI 12)) hx hb dX0_tellPatternsFrom_30 (by decide) ?_
    refine lv_icmp_gt (tgt := 69) hx hb dX0_tellPatternsFrom_32 (by decide) (fun hc32 => ?_) (fun hc32 => ?_)
    · have hc32 : 12 < i := (nI_ltI (a := 12) (b := i) (by omega) (by omega)).mp hc32
      refine lv_aload_n hx hb dX0_tellPatternsFrom_69 rfl (lv_at hl 1 rfl) ?_
      refine lv_iload_n hx hb dX0_tellPatternsFrom_70 rfl (lv_at hl 2 rfl) ?_
      refine gc_go0 (va_runV (As := [.int (nI 2)]) (rest := []) ⟨hx, hb, hml, hown, hts⟩ (m_f_X0_takeLogsBack l hl9 D cI cJ ad sg _ 2 (by omega) hk.1.1.1.iv (yCf Y 2) (hk.1.1.1.2.2.2.2.2.1 2 (by decide)).2 (hk.1.1.1.2.2.2.2.2.1 2 (by decide)).1) (cwV 1 hts (gwV a50 a51 a52 a18 a53) rfl rfl rfl (by decide +kernel) ⟨by decide, by decide⟩) (gc_preV0 hK hP hD hS hA hE rfl rfl rfl) rfl rfl hl.1 rfl (lv_room (Nat.le_of_ble_eq_true rfl)) dX0_tellPatternsFrom_71 ⟨by decide, by decide⟩) hD hS hA (fun v1 sg3 H locs hp4 hP hD hS => ?_)
      obtain ⟨rfl, hs7⟩ := hp4
      refine W.eq (g2 := F0 m 74 ls []) rfl ?_
      exact hret _ _ _ _ _ hP hS dX0_tellPatternsFrom_74 (⟨rfl, by rw [hs7]; exact TLP_out hk (by decide) (hz 2 (by omega)) (by first | exact Or.inl (by omega) | exact Or.inr (Or.inl (fun q9 => hc39 (hk.1.1.2.2.2.2.2.1.trans (b2_0.mpr q9)))) | exact Or.inr (Or.inr hft))⟩)
    · have hc32 : ¬ (12 < i) := fun q => hc32 ((nI_ltI (a := 12) (b := i) (by omega) (by omega)).mpr q)
      refine lv_aload_n hx hb dX0_tellPatternsFrom_35 rfl (lv_at hl 1 rfl) ?_
      refine gw_geti (C := RX0) (T := TX0) (N := 15) hx hb hts inwX0 hown hK hP 0 11 rfl rfl rfl (by decide) (hts _ a49) (fun _ h9 => h9) dX0_tellPatternsFrom_36 ?_
      refine lv_if_ne (tgt := 69) hx hb dX0_tellPatternsFrom_39 (by decide) (fun hc39 => ?_) (fun hc39 => ?_)
      · refine lv_aload_n hx hb dX0_tellPatternsFrom_69 rfl (lv_at hl 1 rfl) ?_
        refine lv_iload_n hx hb dX0_tellPatternsFrom_70 rfl (lv_at hl 2 rfl) ?_
        refine gc_go0 (va_runV (As := [.int (nI 2)]) (rest := []) ⟨hx, hb, hml, hown, hts⟩ (m_f_X0_takeLogsBack l hl9 D cI cJ ad sg _ 2 (by omega) hk.1.1.1.iv (yCf Y 2) (hk.1.1.1.2.2.2.2.2.1 2 (by decide)).2 (hk.1.1.1.2.2.2.2.2.1 2 (by decide)).1) (cwV 1 hts (gwV a50 a51 a52 a18 a53) rfl rfl rfl (by decide +kernel) ⟨by decide, by decide⟩) (gc_preV0 hK hP hD hS hA hE rfl rfl rfl) rfl rfl hl.1 rfl (lv_room (Nat.le_of_ble_eq_true rfl)) dX0_tellPatternsFrom_71 ⟨by decide, by decide⟩) hD hS hA (fun v7 sg9 H locs hp10 hP hD hS => ?_)
        obtain ⟨rfl, hs7⟩ := hp10
        refine W.eq (g2 := F0 m 74 ls []) rfl ?_
        exact hret _ _ _ _ _ hP hS dX0_tellPatternsFrom_74 (⟨rfl, by rw [hs7]; exact TLP_out hk (by decide) (hz 2 (by omega)) (by first | exact Or.inl (by omega) | exact Or.inr (Or.inl (fun q9 => hc39 (hk.1.1.2.2.2.2.2.1.trans (b2_0.mpr q9)))) | exact Or.inr (Or.inr hft))⟩)
      · refine lv_aload_n hx hb dX0_tellPatternsFrom_42 rfl (lv_at hl 1 rfl) ?_
        refine lv_iload_n hx hb dX0_tellPatternsFrom_43 rfl (lv_at hl 2 rfl) ?_
        refine gc_go0 (va_runV (As := [.int (nI 2)]) (rest := []) ⟨hx, hb, hml, hown, hts⟩ (m_f_X0_oneLogMoreFits l hl9 D cI cJ ad sg _ 2 (by omega) hk.1.1.1.iv (yCf Y 2) (hk.1.1.1.2.2.2.2.2.1 2 (by decide)).2 (hk.1.1.1.2.2.2.2.2.1 2 (by decide)).1) (cwV 1 hts (gwV a54 a55 a56 a18 a57) rfl rfl rfl (by decide +kernel) ⟨by decide, by decide⟩) (gc_preV0 hK hP hD hS hA hE rfl rfl rfl) rfl rfl hl.1 rfl (lv_room (Nat.le_of_ble_eq_true rfl)) dX0_tellPatternsFrom_44 ⟨by decide, by decide⟩) hD hS hA (fun v13 sg15 H locs hp16 hP hD hS => ?_)
        obtain ⟨hs9, hp9⟩ := hp16
        rw [hs9] at hP hD
        rcases hp9 with ⟨rfl, hft⟩ | ⟨rfl, hft⟩
        · refine W.eq (g2 := F0 m 47 ls [.int (nI 1)]) rfl ?_
          refine lv_if_ne (tgt := 53) hx hb dX0_tellPatternsFrom_47 (by decide) (fun hc19 => ?_) (fun hc19 => ?_)
          · refine lv_aload_n hx hb dX0_tellPatternsFrom_53 rfl (lv_at hl 1 rfl) ?_
            refine lv_iload_n hx hb dX0_tellPatternsFrom_54 rfl (lv_at hl 2 rfl) ?_
            refine gc_go0 (va_runV (As := [.int (nI 2)]) (rest := []) ⟨hx, hb, hml, hown, hts⟩ (m_f_X0_addLog l hl9 D cI cJ ad sg _ 2 (by omega) hk.1.1.1.iv (yCf Y 2) (hk.1.1.1.2.2.2.2.2.1 2 (by decide)).2 (hk.1.1.1.2.2.2.2.2.1 2 (by decide)).1) (cwV 1 hts (gwV a58 a59 a60 a18 a61) rfl rfl rfl (by decide +kernel) ⟨by decide, by decide⟩) (gc_preV0 hK hP hD hS hA hE rfl rfl rfl) rfl rfl hl.1 rfl (lv_room (Nat.le_of_ble_eq_true rfl)) dX0_tellPatternsFrom_55 ⟨by decide, by decide⟩) hD hS hA (fun v20 sg22 H locs hp23 hP hD hS => ?_)
            obtain ⟨rfl, hs8⟩ := hp23
            have hZ3 := TLP_more hk (by decide) h1 (by omega) hft
            rw [← hs8] at hZ3
            refine W.eq (g2 := F0 m 58 ls []) rfl ?_
            refine lv_aload_n hx hb dX0_tellPatternsFrom_58 rfl (lv_at hl 1 rfl) ?_
            refine lv_iload_n hx hb dX0_tellPatternsFrom_59 rfl (lv_at hl 2 rfl) ?_
            refine gc_go0 (va_runV (As := [.int (nI 2)]) (rest := []) ⟨hx, hb, hml, hown, hts⟩ (m_f_X0_step2 l hl9 D cI cJ ad sg22 _  z Y (pu pl 2 i) a9 hZ3 (fun q h => (pu_n pl _ (show q ≠ 2 by omega)).trans (hz q (by omega)))) (cwV 1 hts (gwV a62 a63 a64 a18 a65) rfl rfl rfl (by decide +kernel) ⟨by decide, by decide⟩) (gc_preV0 hK hP hD hS hA hE rfl rfl rfl) rfl rfl hl.1 rfl (lv_room (Nat.le_of_ble_eq_true rfl)) dX0_tellPatternsFrom_60 ⟨by decide, by decide⟩) hD hS hA (fun v26 sg28 H locs hp29 hP hD hS => ?_)
            obtain ⟨rfl, hZ4⟩ := hp29
            refine W.eq (g2 := F0 m 63 ls []) rfl ?_
            refine lv_iinc (k := 0) (v := (nI (i + 1))) (lv' := [(2, .int (nI (i + 1))), (0, .ref (ad 0)), (1, .int (nI 2))]) hx hb dX0_tellPatternsFrom_63 hl rfl (nI_1 _) (by decide) rfl (fun ls hl => ?_)
            refine lv_goto (tgt := 29) hx hb dX0_tellPatternsFrom_66 (by decide) ?_
            exact ih _ (by omega) (i + 1) _ _ _ _ _ rfl (by omega) (by omega) (by omega) (TLP_next hk (by decide) h1 (by omega) (b2_0.mp (hk.1.1.2.2.2.2.2.1.symm.trans hc39)) hft rfl hZ4) hP hD hS (lv_sub hl [0, 1, 2] rfl)
          · exact absurd hc19 (by decide)
        · refine W.eq (g2 := F0 m 47 ls [.int (nI 0)]) rfl ?_
          refine lv_if_ne (tgt := 53) hx hb dX0_tellPatternsFrom_47 (by decide) (fun hc32 => ?_) (fun hc32 => ?_)
          · exact absurd hc32 (by decide)
          · refine lv_goto (tgt := 69) hx hb dX0_tellPatternsFrom_50 (by decide) ?_
            refine lv_aload_n hx hb dX0_tellPatternsFrom_69 rfl (lv_at hl 1 rfl) ?_
            refine lv_iload_n hx hb dX0_tellPatternsFrom_70 rfl (lv_at hl 2 rfl) ?_
            refine gc_go0 (va_runV (As := [.int (nI 2)]) (rest := []) ⟨hx, hb, hml, hown, hts⟩ (m_f_X0_takeLogsBack l hl9 D cI cJ ad sg _ 2 (by omega) hk.1.1.1.iv (yCf Y 2) (hk.1.1.1.2.2.2.2.2.1 2 (by decide)).2 (hk.1.1.1.2.2.2.2.2.1 2 (by decide)).1) (cwV 1 hts (gwV a50 a51 a52 a18 a53) rfl rfl rfl (by decide +kernel) ⟨by decide, by decide⟩) (gc_preV0 hK hP hD hS hA hE rfl rfl rfl) rfl rfl hl.1 rfl (lv_room (Nat.le_of_ble_eq_true rfl)) dX0_tellPatternsFrom_71 ⟨by decide, by decide⟩) hD hS hA (fun v33 sg35 H locs hp36 hP hD hS => ?_)
            obtain ⟨rfl, hs7⟩ := hp36
            refine W.eq (g2 := F0 m 74 ls []) rfl ?_
            exact hret _ _ _ _ _ hP hS dX0_tellPatternsFrom_74 (⟨rfl, by rw [hs7]; exact TLP_out hk (by decide) (hz 2 (by omega)) (by first | exact Or.inl (by omega) | exact Or.inr (Or.inl (fun q9 => hc39 (hk.1.1.2.2.2.2.2.1.trans (b2_0.mpr q9)))) | exact Or.inr (Or.inr hft))⟩)
  refine lv_iload_n hx hb dX0_tellPatternsFrom_0 rfl (lv_at hl 1 rfl) ?_
  refine lv_aload_n hx hb dX0_tellPatternsFrom_1 rfl (lv_at hl 0 rfl) ?_
  refine gw_getr (C := RX0) (T := TX0) (N := 15) hx hb hts inwX0 hown hK hP 0 0 8 rfl rfl rfl (by decide) (hts _ a6) (fun _ h9 => h9) dX0_tellPatternsFrom_2 ?_
  refine gw_getiN (C := RX1) (T := TX1) (N := 12) hx hb hts inwX1 hown hK hP 8 9 rfl rfl rfl (by decide) (hE.nest _ (.fieldLinkNest RX0 81 RX1 "patterns" "I" RX2) (by decide +kernel) rfl) (fun _ h9 => h9) dX0_tellPatternsFrom_5 ?_
  refine gw_top (y := (nI (yN Y))) (hZ.1.1.1.2) ?_
  refine lv_icmp_ge (tgt := 17) hx hb dX0_tellPatternsFrom_8 (by decide) (fun hc9 => ?_) (fun hc9 => ?_)
  · have hc9 : yN Y ≤ 2 := (nI_leI (a := yN Y) (b := 2) (by omega) (by omega)).mp hc9
    refine lv_aload_n hx hb dX0_tellPatternsFrom_17 rfl (lv_at hl 0 rfl) ?_
    refine gc_go0 (va_runV (As := []) (rest := []) ⟨hx, hb, hml, hown, hts⟩ (m_f_X0_lookAtPlan l hl9 D cI cJ ad sg0 _  hZ.1.1.iv) (cwV 0 hts (gwV a39 a40 a41 a18 a42) rfl rfl rfl (by decide +kernel) ⟨by decide, by decide⟩) (gc_preV0 hK hP hD hS hA hE rfl rfl rfl) rfl rfl hl.1 rfl (lv_room (Nat.le_of_ble_eq_true rfl)) dX0_tellPatternsFrom_18 ⟨by decide, by decide⟩) hD hS hA (fun v39 sg41 H locs hp42 hP hD hS => ?_)
    obtain ⟨rfl, hs9⟩ := hp42
    refine W.eq (g2 := F0 m 21 ls []) rfl ?_
    exact hret _ _ _ _ _ hP hS dX0_tellPatternsFrom_21 (⟨rfl, by rw [ySrch_0 (by omega), hs9]; exact EZ_look hZ⟩)
  · have hc9 : ¬ (yN Y ≤ 2) := fun q => hc9 ((nI_leI (a := yN Y) (b := 2) (by omega) (by omega)).mpr q)
    refine lv_iload_n hx hb dX0_tellPatternsFrom_11 rfl (lv_at hl 1 rfl) ?_
    refine lv_bipush (v := (nI 6)) hx hb dX0_tellPatternsFrom_12 (by decide) ?_
    refine lv_icmp_lt (tgt := 22) hx hb dX0_tellPatternsFrom_14 (by decide) (fun hc45 => ?_) (fun hc45 => ?_)
    · refine lv_aload_n hx hb dX0_tellPatternsFrom_22 rfl (lv_at hl 0 rfl) ?_
      refine lv_iload_n hx hb dX0_tellPatternsFrom_23 rfl (lv_at hl 1 rfl) ?_
      refine gc_go0 (va_runV (As := [.int (nI 2)]) (rest := []) ⟨hx, hb, hml, hown, hts⟩ (m_f_X0_step2 l hl9 D cI cJ ad sg0 _  z Y pl a hZ (fun q h => hz q (by omega))) (cwV 1 hts (gwV a62 a63 a64 a18 a65) rfl rfl rfl (by decide +kernel) ⟨by decide, by decide⟩) (gc_preV0 hK hP hD hS hA hE rfl rfl rfl) rfl rfl hl.1 rfl (lv_room (Nat.le_of_ble_eq_true rfl)) dX0_tellPatternsFrom_24 ⟨by decide, by decide⟩) hD hS hA (fun v46 sg48 H locs hp49 hP hD hS => ?_)
      obtain ⟨rfl, hZ2⟩ := hp49
      refine W.eq (g2 := F0 m 27 ls []) rfl ?_
      refine lv_iconst (v := (nI 1)) hx hb dX0_tellPatternsFrom_27 (by decide) ?_
      refine lv_istore_n (lv' := [(2, .int (nI 1)), (0, .ref (ad 0)), (1, .int (nI 2))]) hx hb dX0_tellPatternsFrom_28 rfl hl (by decide) rfl (fun ls hl => ?_)
      exact c29 _ 1 _ _ _ _ _ rfl (by omega) (by omega) (by omega) (TLP_start (hz 2 (by omega)) (by omega) rfl hZ2) hP hD hS (lv_sub hl [0, 1, 2] rfl)
    · exact absurd hc45 (by decide)
abbrev rmf_X0_step1 : Room := { frames := 12, cells := 0, slots := 0, locals := 258 }
set_option maxRecDepth 100000 in
set_option maxHeartbeats 4000000 in
theorem m_f_X0_step1 (l : Launch) (hl9 : l.stackTraces = false) (D : va_G) (cI : ClassId) (cJ : ClassId × ClassId) (ad : Nat → Nat) (sg0 : Nat → Nat → Int32) (sz : Nat) (z : Nat → Nat → Int32) (Y : YT) (pl : Nat → Nat) (a : RS) (hZ : EZ z Y pl a sg0) (hz : ∀ q : Nat, 2 ≤ q → pl q = 0) : gc_M l yX0_takeStep wsX0_takeStep rmf_X0_step1 D vwCl (tyS cI cJ) cI cJ gxT gxN SS [.ref (ad 0), .int (nI 1)] ad sg0 sz 0 0 (fun v sg2 => v = none ∧ EZ z Y pl (stepP (yLim Y) (ySrch Y (yN Y - 2) 2 pl) a) sg2) := by
  refine gc_Mv_of (cc := cX0_takeStep) (maxL := 2) (by decide) rfl (Nat.le_of_ble_eq_true rfl) ?_
  intro p e s m below meth c A ls Q hin hE hret
  obtain ⟨⟨hx, hb, hml, hown, hts⟩, -, hlocks, -, hA, hP, hK, hD, hS, hl⟩ := hin
  have hts : ∀ w ∈ wsAll, w.before ([.ref (ad 0), .int (nI 1)] : List Value).toArray s = true := fun w h => hts w (List.mem_cons_of_mem _ h)
  have hl : lv_has ls 2 [(0, .ref (ad 0)), (1, .int (nI 1))] := hl
  have hb1 := hZ.1.2.2.2.1.2
  have hb2 := hZ.1.2.2.2.2.1.2
  refine lv_aload_n hx hb dX0_takeStep_0 rfl (lv_at hl 0 rfl) ?_
  refine gw_geti (C := RX0) (T := TX0) (N := 15) hx hb hts inwX0 hown hK hP 0 10 rfl rfl rfl (by decide) (hts _ a43) (fun _ h9 => h9) dX0_takeStep_1 ?_
  refine gw_top (y := (nI a.1)) (hZ.1.2.2.2.2.1.1) ?_
  refine lv_aload_n hx hb dX0_takeStep_4 rfl (lv_at hl 0 rfl) ?_
  refine gw_geti (C := RX0) (T := TX0) (N := 15) hx hb hts inwX0 hown hK hP 0 9 rfl rfl rfl (by decide) (hts _ a44) (fun _ h9 => h9) dX0_takeStep_5 ?_
  refine gw_top (y := (nI (yLim Y))) (hZ.1.2.2.2.1.1) ?_
  refine lv_icmp_lt (tgt := 17) hx hb dX0_takeStep_8 (by decide) (fun hc9 => ?_) (fun hc9 => ?_)
  · have hc9 : a.1 < yLim Y := (nI_ltI (a := a.1) (b := yLim Y) (by omega) (by omega)).mp hc9
    refine lv_aload_n hx hb dX0_takeStep_17 rfl (lv_at hl 0 rfl) ?_
    refine lv_dup hx hb dX0_takeStep_18 rfl ?_
    refine gw_geti (C := RX0) (T := TX0) (N := 15) hx hb hts inwX0 hown hK hP 0 10 rfl rfl rfl (by decide) (hts _ a43) (fun _ h9 => h9) dX0_takeStep_19 ?_
    refine gw_top (y := (nI a.1)) (hZ.1.2.2.2.2.1.1) ?_
    refine lv_iconst (v := (nI 1)) hx hb dX0_takeStep_22 (by decide) ?_
    refine lv_iadd hx hb dX0_takeStep_23 ?_
    refine gw_top (y := (nI (a.1 + 1))) (nI_add _ _) ?_
    refine gw_put (C := RX0) (T := TX0) (N := 15) (ty := .int) hx hb hts inwX0 tyX0 tyX0_ok nmX0 hown hK hP hD hS 0 10 rfl rfl rfl (by decide) (hts _ a43) (fun _ h9 => h9) rfl (by decide +kernel) rfl rfl dX0_takeStep_24 (fun H locs hP hD hS => ?_)
    obtain ⟨sg1, esg1⟩ : ∃ z : Nat → Nat → Int32, z = gw_u sg0 0 (upd (sg0 0) 10 (nI (a.1 + 1))) := ⟨_, rfl⟩
    rw [← esg1] at hP hD
    refine lv_aload_n hx hb dX0_takeStep_27 rfl (lv_at hl 0 rfl) ?_
    refine lv_iload_n hx hb dX0_takeStep_28 rfl (lv_at hl 1 rfl) ?_
    refine lv_iconst (v := (nI 1)) hx hb dX0_takeStep_29 (by decide) ?_
    refine lv_iadd hx hb dX0_takeStep_30 ?_
    refine gw_top (y := (nI 2)) (by decide) ?_
    refine gc_go0 (va_runV (As := [.int (nI 2)]) (rest := []) ⟨hx, hb, hml, hown, hts⟩ (m_f_X0_tell2 l hl9 D cI cJ ad sg1 _  z Y pl (a.1 + 1, a.2) (by rw [esg1]; exact EZ_step hZ (by omega)) hz) (cwV 1 hts (gwV a45 a46 a47 a18 a48) rfl rfl rfl (by decide +kernel) ⟨by decide, by decide⟩) (gc_preV0 hK hP hD hS hA hE rfl rfl rfl) rfl rfl hl.1 rfl (lv_room (Nat.le_of_ble_eq_true rfl)) dX0_takeStep_31 ⟨by decide, by decide⟩) hD hS hA (fun v2 sg4 H locs hp5 hP hD hS => ?_)
    obtain ⟨rfl, hZ2⟩ := hp5
    refine W.eq (g2 := F0 m 34 ls []) rfl ?_
    exact hret _ _ _ _ _ hP hS dX0_takeStep_34 (⟨rfl, by rw [stepP_f (by omega)]; exact hZ2⟩)
  · have hc9 : ¬ (a.1 < yLim Y) := fun q => hc9 ((nI_ltI (a := a.1) (b := yLim Y) (by omega) (by omega)).mpr q)
    refine lv_aload_n hx hb dX0_takeStep_11 rfl (lv_at hl 0 rfl) ?_
    refine lv_iconst (v := (nI 1)) hx hb dX0_takeStep_12 (by decide) ?_
    refine gw_put (C := RX0) (T := TX0) (N := 15) (ty := .boolean) hx hb hts inwX0 tyX0 tyX0_ok nmX0 hown hK hP hD hS 0 11 rfl rfl rfl (by decide) (hts _ a49) (fun _ h9 => h9) rfl (by decide +kernel) rfl rfl dX0_takeStep_13 (fun H locs hP hD hS => ?_)
    obtain ⟨sg8, esg8⟩ : ∃ z : Nat → Nat → Int32, z = gw_u sg0 0 (upd (sg0 0) 11 (nI 1)) := ⟨_, rfl⟩
    rw [← esg8] at hP hD
    exact hret _ _ _ _ _ hP hS dX0_takeStep_16 (⟨rfl, by rw [stepP_t (by omega), esg8]; exact EZ_spent hZ⟩)
abbrev rmf_X0_tell1 : Room := { frames := 13, cells := 0, slots := 0, locals := 279 }
set_option maxRecDepth 100000 in
set_option maxHeartbeats 4000000 in
theorem m_f_X0_tell1 (l : Launch) (hl9 : l.stackTraces = false) (D : va_G) (cI : ClassId) (cJ : ClassId × ClassId) (ad : Nat → Nat) (sg0 : Nat → Nat → Int32) (sz : Nat) (z : Nat → Nat → Int32) (Y : YT) (pl : Nat → Nat) (a : RS) (hZ : EZ z Y pl a sg0) (hz : ∀ q : Nat, 1 ≤ q → pl q = 0) : gc_M l yX0_tellPatternsFrom wsX0_tellPatternsFrom rmf_X0_tell1 D vwCl (tyS cI cJ) cI cJ gxT gxN SS [.ref (ad 0), .int (nI 1)] ad sg0 sz 0 0 (fun v sg2 => v = none ∧ EZ z Y pl (ySrch Y (yN Y - 1) 1 pl a) sg2) := by
  refine gc_Mv_of (cc := cX0_tellPatternsFrom) (maxL := 3) (by decide) rfl (Nat.le_of_ble_eq_true rfl) ?_
  intro p e s m below meth c A ls Q hin hE hret
  obtain ⟨⟨hx, hb, hml, hown, hts⟩, -, hlocks, -, hA, hP, hK, hD, hS, hl⟩ := hin
  have hts : ∀ w ∈ wsAll, w.before ([.ref (ad 0), .int (nI 1)] : List Value).toArray s = true := fun w h => hts w (List.mem_cons_of_mem _ h)
  have hl : lv_has ls 3 [(0, .ref (ad 0)), (1, .int (nI 1))] := hl
  have hN6 := hZ.1.1.1.1
  have c29 : ∀ (n9 : Nat) (i : Nat) (a9 : RS) (sg : Nat → Nat → Int32) (H : Heap) (locs : List Loc) (ls : Array Slot), 13 - i = n9 → 1 ≤ i → i ≤ 13 → 1 < yN Y → (TLP z Y pl 1 i (ySrch Y (yN Y - 1) 1 pl a) a9 sg) → va_P D vwCl (gw cI cJ ad sg SS) H → va_D A (gw cI cJ ad sg SS) → va_S A s.heap H locs → lv_has ls 3 [(2, .int (nI i)), (0, .ref (ad 0)), (1, .int (nI 1))] → W p l e rmf_X0_tell1 s m ([.ref (ad 0), .int (nI 1)] : List Value).toArray below meth c H locs 0 0 Q (F0 m 29 ls []) := by
    intro n9
    induction n9 using Nat.strongRecOn with
    | ind n9 ih =>
    intro i a9 sg H locs ls hn h1 h2 h3 hk hP hD hS hl
    subst hn
    refine lv_iload_n hx hb dX0_tellPatternsFrom_29 rfl (lv_at hl 0 rfl) ?_
    refine lv_bipush (v := (nI 12)) hx hb dX0_tellPatternsFrom_30 (by decide) ?_
    refine lv_icmp_gt (tgt := 69) hx hb dX0_tellPatternsFrom_32 (by decide) (fun hc32 => ?_) (fun hc32 => ?_)
    · have hc32 : 12 < i := (nI_ltI (a := 12) (b := i) (by omega) (by omega)).mp hc32
      refine lv_aload_n hx hb dX0_tellPatternsFrom_69 rfl (lv_at hl 1 rfl) ?_
      refine lv_iload_n hx hb dX0_tellPatternsFrom_70 rfl (lv_at hl 2 rfl) ?_
      refine gc_go0 (va_runV (As := [.int (nI 1)]) (rest := []) ⟨hx, hb, hml, hown, hts⟩ (m_f_X0_takeLogsBack l hl9 D cI cJ ad sg _ 1 (by omega) hk.1.1.1.iv (yCf Y 1) (hk.1.1.1.2.2.2.2.2.1 1 (by decide)).2 (hk.1.1.1.2.2.2.2.2.1 1 (by decide)).1) (cwV 1 hts (gwV a50 a51 a52 a18 a53) rfl rfl rfl (by decide +kernel) ⟨by decide, by decide⟩) (gc_preV0 hK hP hD hS hA hE rfl rfl rfl) rfl rfl hl.1 rfl (lv_room (Nat.le_of_ble_eq_true rfl)) dX0_tellPatternsFrom_71 ⟨by decide, by decide⟩) hD hS hA (fun v1 sg3 H locs hp4 hP hD hS => ?_)
      obtain ⟨rfl, hs7⟩ := hp4
      refine W.eq (g2 := F0 m 74 ls []) rfl ?_
      exact hret _ _ _ _ _ hP hS dX0_tellPatternsFrom_74 (⟨rfl, by rw [hs7]; exact TLP_out hk (by decide) (hz 1 (by omega)) (by first | exact Or.inl (by omega) | exact Or.inr (Or.inl (fun q9 => hc39 (hk.1.1.2.2.2.2.2.1.trans (b2_0.mpr q9)))) | exact Or.inr (Or.inr hft))⟩)
    · have hc32 : ¬ (12 < i) := fun q => hc32 ((nI_ltI (a := 12) (b := i) (by omega) (by omega)).mpr q)
      refine lv_aload_n hx hb dX0_tellPatternsFrom_35 rfl (lv_at hl 1 rfl) ?_
      refine gw_geti (C := RX0) (T := TX0) (N := 15) hx hb hts inwX0 hown hK hP 0 11 rfl rfl rfl (by decide) (hts _ a49) (fun _ h9 => h9) dX0_tellPatternsFrom_36 ?_
      refine lv_if_ne (tgt := 69) hx hb dX0_tellPatternsFrom_39 (by decide) (fun hc39 => ?_) (fun hc39 => ?_)
      · refine lv_aload_n hx hb dX0_tellPatternsFrom_69 rfl (lv_at hl 1 rfl) ?_
        refine lv_iload_n hx hb dX0_tellPatternsFrom_70 rfl (lv_at hl 2 rfl) ?_
        refine gc_go0 (va_runV (As := [.int (nI 1)]) (rest := []) ⟨hx, hb, hml, hown, hts⟩ (m_f_X0_takeLogsBack l hl9 D cI cJ ad sg _ 1 (by omega) hk.1.1.1.iv (yCf Y 1) (hk.1.1.1.2.2.2.2.2.1 1 (by decide)).2 (hk.1.1.1.2.2.2.2.2.1 1 (by decide)).1) (cwV 1 hts (gwV a50 a51 a52 a18 a53) rfl rfl rfl (by decide +kernel) ⟨by decide, by decide⟩) (gc_preV0 hK hP hD hS hA hE rfl rfl rfl) rfl rfl hl.1 rfl (lv_room (Nat.le_of_ble_eq_true rfl)) dX0_tellPatternsFrom_71 ⟨by decide, by decide⟩) hD hS hA (fun v7 sg9 H locs hp10 hP hD hS => ?_)
        obtain ⟨rfl, hs7⟩ := hp10
        refine W.eq (g2 := F0 m 74 ls []) rfl ?_
        exact hret _ _ _ _ _ hP hS dX0_tellPatternsFrom_74 (⟨rfl, by rw [hs7]; exact TLP_out hk (by decide) (hz 1 (by omega)) (by first | exact Or.inl (by omega) | exact Or.inr (Or.inl (fun q9 => hc39 (hk.1.1.2.2.2.2.2.1.trans (b2_0.mpr q9)))) | exact Or.inr (Or.inr hft))⟩)
      · refine lv_aload_n hx hb dX0_tellPatternsFrom_42 rfl (lv_at hl 1 rfl) ?_
        refine lv_iload_n hx hb dX0_tellPatternsFrom_43 rfl (lv_at hl 2 rfl) ?_
        refine gc_go0 (va_runV (As := [.int (nI 1)]) (rest := []) ⟨hx, hb, hml, hown, hts⟩ (m_f_X0_oneLogMoreFits l hl9 D cI cJ ad sg _ 1 (by omega) hk.1.1.1.iv (yCf Y 1) (hk.1.1.1.2.2.2.2.2.1 1 (by decide)).2 (hk.1.1.1.2.2.2.2.2.1 1 (by decide)).1) (cwV 1 hts (gwV a54 a55 a56 a18 a57) rfl rfl rfl (by decide +kernel) ⟨by decide, by decide⟩) (gc_preV0 hK hP hD hS hA hE rfl rfl rfl) rfl rfl hl.1 rfl (lv_room (Nat.le_of_ble_eq_true rfl)) dX0_tellPatternsFrom_44 ⟨by decide, by decide⟩) hD hS hA (fun v13 sg15 H locs hp16 hP hD hS => ?_)
        obtain ⟨hs9, hp9⟩ := hp16
        rw [hs9] at hP hD
        rcases hp9 with ⟨rfl, hft⟩ | ⟨rfl, hft⟩
        · refine W.eq (g2 := F0 m 47 ls [.int (nI 1)]) rfl ?_
          refine lv_if_ne (tgt := 53) hx hb dX0_tellPatternsFrom_47 (by decide) (fun hc19 => ?_) (fun hc19 => ?_)
          · refine lv_aload_n hx hb dX0_tellPatternsFrom_53 rfl (lv_at hl 1 rfl) ?_
            refine lv_iload_n hx hb dX0_tellPatternsFrom_54 rfl (lv_at hl 2 rfl) ?_
            refine gc_go0 (va_runV (As := [.int (nI 1)]) (rest := []) ⟨hx, hb, hml, hown, hts⟩ (m_f_X0_addLog l hl9 D cI cJ ad sg _ 1 (by omega) hk.1.1.1.iv (yCf Y 1) (hk.1.1.1.2.2.2.2.2.1 1 (by decide)).2 (hk.1.1.1.2.2.2.2.2.1 1 (by decide)).1) (cwV 1 hts (gwV a58 a59 a60 a18 a61) rfl rfl rfl (by decide +kernel) ⟨by decide, by decide⟩) (gc_preV0 hK hP hD hS hA hE rfl rfl rfl) rfl rfl hl.1 rfl (lv_room (Nat.le_of_ble_eq_true rfl)) dX0_tellPatternsFrom_55 ⟨by decide, by decide⟩) hD hS hA (fun v20 sg22 H locs hp23 hP hD hS => ?_)
            obtain ⟨rfl, hs8⟩ := hp23
            have hZ3 := TLP_more hk (by decide) h1 (by omega) hft
            rw [← hs8] at hZ3
            refine W.eq (g2 := F0 m 58 ls []) rfl ?_
            refine lv_aload_n hx hb dX0_tellPatternsFrom_58 rfl (lv_at hl 1 rfl) ?_
            refine lv_iload_n hx hb dX0_tellPatternsFrom_59 rfl (lv_at hl 2 rfl) ?_
            refine gc_go0 (va_runV (As := [.int (nI 1)]) (rest := []) ⟨hx, hb, hml, hown, hts⟩ (m_f_X0_step1 l hl9 D cI cJ ad sg22 _  z Y (pu pl 1 i) a9 hZ3 (fun q h => (pu_n pl _ (show q ≠ 1 by omega)).trans (hz q (by omega)))) (cwV 1 hts (gwV a62 a63 a64 a18 a65) rfl rfl rfl (by decide +kernel) ⟨by decide, by decide⟩) (gc_preV0 hK hP hD hS hA hE rfl rfl rfl) rfl rfl hl.1 rfl (lv_room (Nat.le_of_ble_eq_true rfl)) dX0_tellPatternsFrom_60 ⟨by decide, by decide⟩) hD hS hA (fun v26 sg28 H locs hp29 hP hD hS => ?_)
            obtain ⟨rfl, hZ4⟩ := hp29
            refine W.eq (g2 := F0 m 63 ls []) rfl ?_
            refine lv_iinc (k := 0) (v := (nI (i + 1))) (lv' := [(2, .int (nI (i + 1))), (0, .ref (ad 0)), (1, .int (nI 1))]) hx hb dX0_tellPatternsFrom_63 hl rfl (nI_1 _) (by decide) rfl (fun ls hl => ?_)
            refine lv_goto (tgt := 29) hx hb dX0_tellPatternsFrom_66 (by decide) ?_
            exact ih _ (by omega) (i + 1) _ _ _ _ _ rfl (by omega) (by omega) (by omega) (TLP_next hk (by decide) h1 (by omega) (b2_0.mp (hk.1.1.2.2.2.2.2.1.symm.trans hc39)) hft rfl hZ4) hP hD hS (lv_sub hl [0, 1, 2] rfl)
          · exact absurd hc19 (by decide)
        · refine W.eq (g2 := F0 m 47 ls [.int (nI 0)]) rfl ?_
          refine lv_if_ne (tgt := 53) hx hb dX0_tellPatternsFrom_47 (by decide) (fun hc32 => ?_) (fun hc32 => ?_)
          · exact absurd hc32 (by decide)
          · refine lv_goto (tgt := 69) hx hb dX0_tellPatternsFrom_50 (by decide) ?_
            refine lv_aload_n hx hb dX0_tellPatternsFrom_69 rfl (lv_at hl 1 rfl) ?_
            refine lv_iload_n hx hb dX0_tellPatternsFrom_70 rfl (lv_at hl 2 rfl) ?_
            refine gc_go0 (va_runV (As := [.int (nI 1)]) (rest := []) ⟨hx, hb, hml, hown, hts⟩ (m_f_X0_takeLogsBack l hl9 D cI cJ ad sg _ 1 (by omega) hk.1.1.1.iv (yCf Y 1) (hk.1.1.1.2.2.2.2.2.1 1 (by decide)).2 (hk.1.1.1.2.2.2.2.2.1 1 (by decide)).1) (cwV 1 hts (gwV a50 a51 a52 a18 a53) rfl rfl rfl (by decide +kernel) ⟨by decide, by decide⟩) (gc_preV0 hK hP hD hS hA hE rfl rfl rfl) rfl rfl hl.1 rfl (lv_room (Nat.le_of_ble_eq_true rfl)) dX0_tellPatternsFrom_71 ⟨by decide, by decide⟩) hD hS hA (fun v33 sg35 H locs hp36 hP hD hS => ?_)
            obtain ⟨rfl, hs7⟩ := hp36
            refine W.eq (g2 := F0 m 74 ls []) rfl ?_
            exact hret _ _ _ _ _ hP hS dX0_tellPatternsFrom_74 (⟨rfl, by rw [hs7]; exact TLP_out hk (by decide) (hz 1 (by omega)) (by first | exact Or.inl (by omega) | exact Or.inr (Or.inl (fun q9 => hc39 (hk.1.1.2.2.2.2.2.1.trans (b2_0.mpr q9)))) | exact Or.inr (Or.inr hft))⟩)
  refine lv_iload_n hx hb dX0_tellPatternsFrom_0 rfl (lv_at hl 1 rfl) ?_
  refine lv_aload_n hx hb dX0_tellPatternsFrom_1 rfl (lv_at hl 0 rfl) ?_
  refine gw_getr (C := RX0) (T := TX0) (N := 15) hx hb hts inwX0 hown hK hP 0 0 8 rfl rfl rfl (by decide) (hts _ a6) (fun _ h9 => h9) dX0_tellPatternsFrom_2 ?_
  refine gw_getiN (C := RX1) (T := TX1) (N := 12) hx hb hts inwX1 hown hK hP 8 9 rfl rfl rfl (by decide) (hE.nest _ (.fieldLinkNest RX0 81 RX1 "patterns" "I" RX2) (by decide +kernel) rfl) (fun _ h9 => h9) dX0_tellPatternsFrom_5 ?_
  refine gw_top (y := (nI (yN Y))) (hZ.1.1.1.2) ?_
  refine lv_icmp_ge (tgt := 17) hx hb dX0_tellPatternsFrom_8 (by decide) (fun hc9 => ?_) (fun hc9 => ?_)
  · have hc9 : yN Y ≤ 1 := (nI_leI (a := yN Y) (b := 1) (by omega) (by omega)).mp hc9
    refine lv_aload_n hx hb dX0_tellPatternsFrom_17 rfl (lv_at hl 0 rfl) ?_
    refine gc_go0 (va_runV (As := []) (rest := []) ⟨hx, hb, hml, hown, hts⟩ (m_f_X0_lookAtPlan l hl9 D cI cJ ad sg0 _  hZ.1.1.iv) (cwV 0 hts (gwV a39 a40 a41 a18 a42) rfl rfl rfl (by decide +kernel) ⟨by decide, by decide⟩) (gc_preV0 hK hP hD hS hA hE rfl rfl rfl) rfl rfl hl.1 rfl (lv_room (Nat.le_of_ble_eq_true rfl)) dX0_tellPatternsFrom_18 ⟨by decide, by decide⟩) hD hS hA (fun v39 sg41 H locs hp42 hP hD hS => ?_)
    obtain ⟨rfl, hs9⟩ := hp42
    refine W.eq (g2 := F0 m 21 ls []) rfl ?_
    exact hret _ _ _ _ _ hP hS dX0_tellPatternsFrom_21 (⟨rfl, by rw [ySrch_0 (by omega), hs9]; exact EZ_look hZ⟩)
  · have hc9 : ¬ (yN Y ≤ 1) := fun q => hc9 ((nI_leI (a := yN Y) (b := 1) (by omega) (by omega)).mpr q)
    refine lv_iload_n hx hb dX0_tellPatternsFrom_11 rfl (lv_at hl 1 rfl) ?_
    refine lv_bipush (v := (nI 6)) hx hb dX0_tellPatternsFrom_12 (by decide) ?_
    refine lv_icmp_lt (tgt := 22) hx hb dX0_tellPatternsFrom_14 (by decide) (fun hc45 => ?_) (fun hc45 => ?_)
    · refine lv_aload_n hx hb dX0_tellPatternsFrom_22 rfl (lv_at hl 0 rfl) ?_
      refine lv_iload_n hx hb dX0_tellPatternsFrom_23 rfl (lv_at hl 1 rfl) ?_
      refine gc_go0 (va_runV (As := [.int (nI 1)]) (rest := []) ⟨hx, hb, hml, hown, hts⟩ (m_f_X0_step1 l hl9 D cI cJ ad sg0 _  z Y pl a hZ (fun q h => hz q (by omega))) (cwV 1 hts (gwV a62 a63 a64 a18 a65) rfl rfl rfl (by decide +kernel) ⟨by decide, by decide⟩) (gc_preV0 hK hP hD hS hA hE rfl rfl rfl) rfl rfl hl.1 rfl (lv_room (Nat.le_of_ble_eq_true rfl)) dX0_tellPatternsFrom_24 ⟨by decide, by decide⟩) hD hS hA (fun v46 sg48 H locs hp49 hP hD hS => ?_)
      obtain ⟨rfl, hZ2⟩ := hp49
      refine W.eq (g2 := F0 m 27 ls []) rfl ?_
      refine lv_iconst (v := (nI 1)) hx hb dX0_tellPatternsFrom_27 (by decide) ?_
      refine lv_istore_n (lv' := [(2, .int (nI 1)), (0, .ref (ad 0)), (1, .int (nI 1))]) hx hb dX0_tellPatternsFrom_28 rfl hl (by decide) rfl (fun ls hl => ?_)
      exact c29 _ 1 _ _ _ _ _ rfl (by omega) (by omega) (by omega) (TLP_start (hz 1 (by omega)) (by omega) rfl hZ2) hP hD hS (lv_sub hl [0, 1, 2] rfl)
    · exact absurd hc45 (by decide)
abbrev rmf_X0_step0 : Room := { frames := 14, cells := 0, slots := 0, locals := 301 }
set_option maxRecDepth 100000 in
set_option maxHeartbeats 4000000 in
theorem m_f_X0_step0 (l : Launch) (hl9 : l.stackTraces = false) (D : va_G) (cI : ClassId) (cJ : ClassId × ClassId) (ad : Nat → Nat) (sg0 : Nat → Nat → Int32) (sz : Nat) (z : Nat → Nat → Int32) (Y : YT) (pl : Nat → Nat) (a : RS) (hZ : EZ z Y pl a sg0) (hz : ∀ q : Nat, 1 ≤ q → pl q = 0) : gc_M l yX0_takeStep wsX0_takeStep rmf_X0_step0 D vwCl (tyS cI cJ) cI cJ gxT gxN SS [.ref (ad 0), .int (nI 0)] ad sg0 sz 0 0 (fun v sg2 => v = none ∧ EZ z Y pl (stepP (yLim Y) (ySrch Y (yN Y - 1) 1 pl) a) sg2) := by
  refine gc_Mv_of (cc := cX0_takeStep) (maxL := 2) (by decide) rfl (Nat.le_of_ble_eq_true rfl) ?_
  intro p e s m below meth c A ls Q hin hE hret
  obtain ⟨⟨hx, hb, hml, hown, hts⟩, -, hlocks, -, hA, hP, hK, hD, hS, hl⟩ := hin
  have hts : ∀ w ∈ wsAll, w.before ([.ref (ad 0), .int (nI 0)] : List Value).toArray s = true := fun w h => hts w (List.mem_cons_of_mem _ h)
  have hl : lv_has ls 2 [(0, .ref (ad 0)), (1, .int (nI 0))] := hl
  have hb1 := hZ.1.2.2.2.1.2
  have hb2 := hZ.1.2.2.2.2.1.2
  refine lv_aload_n hx hb dX0_takeStep_0 rfl (lv_at hl 0 rfl) ?_
  refine gw_geti (C := RX0) (T := TX0) (N := 15) hx hb hts inwX0 hown hK hP 0 10 rfl rfl rfl (by decide) (hts _ a43) (fun _ h9 => h9) dX0_takeStep_1 ?_
  refine gw_top (y := (nI a.1)) (hZ.1.2.2.2.2.1.1) ?_
  refine lv_aload_n hx hb dX0_takeStep_4 rfl (lv_at hl 0 rfl) ?_
  refine gw_geti (C := RX0) (T := TX0) (N := 15) hx hb hts inwX0 hown hK hP 0 9 rfl rfl rfl (by decide) (hts _ a44) (fun _ h9 => h9) dX0_takeStep_5 ?_
  refine gw_top (y := (nI (yLim Y))) (hZ.1.2.2.2.1.1) ?_
  refine lv_icmp_lt (tgt := 17) hx hb dX0_takeStep_8 (by decide) (fun hc9 => ?_) (fun hc9 => ?_)
  · have hc9 : a.1 < yLim Y := (nI_ltI (a := a.1) (b := yLim Y) (by omega) (by omega)).mp hc9
    refine lv_aload_n hx hb dX0_takeStep_17 rfl (lv_at hl 0 rfl) ?_
    refine lv_dup hx hb dX0_takeStep_18 rfl ?_
    refine gw_geti (C := RX0) (T := TX0) (N := 15) hx hb hts inwX0 hown hK hP 0 10 rfl rfl rfl (by decide) (hts _ a43) (fun _ h9 => h9) dX0_takeStep_19 ?_
    refine gw_top (y := (nI a.1)) (hZ.1.2.2.2.2.1.1) ?_
    refine lv_iconst (v := (nI 1)) hx hb dX0_takeStep_22 (by decide) ?_
    refine lv_iadd hx hb dX0_takeStep_23 ?_
    refine gw_top (y := (nI (a.1 + 1))) (nI_add _ _) ?_
    refine gw_put (C := RX0) (T := TX0) (N := 15) (ty := .int) hx hb hts inwX0 tyX0 tyX0_ok nmX0 hown hK hP hD hS 0 10 rfl rfl rfl (by decide) (hts _ a43) (fun _ h9 => h9) rfl (by decide +kernel) rfl rfl dX0_takeStep_24 (fun H locs hP hD hS => ?_)
    obtain ⟨sg1, esg1⟩ : ∃ z : Nat → Nat → Int32, z = gw_u sg0 0 (upd (sg0 0) 10 (nI (a.1 + 1))) := ⟨_, rfl⟩
    rw [← esg1] at hP hD
    refine lv_aload_n hx hb dX0_takeStep_27 rfl (lv_at hl 0 rfl) ?_
    refine lv_iload_n hx hb dX0_takeStep_28 rfl (lv_at hl 1 rfl) ?_
    refine lv_iconst (v := (nI 1)) hx hb dX0_takeStep_29 (by decide) ?_
    refine lv_iadd hx hb dX0_takeStep_30 ?_
    refine gw_top (y := (nI 1)) (by decide) ?_
    refine gc_go0 (va_runV (As := [.int (nI 1)]) (rest := []) ⟨hx, hb, hml, hown, hts⟩ (m_f_X0_tell1 l hl9 D cI cJ ad sg1 _  z Y pl (a.1 + 1, a.2) (by rw [esg1]; exact EZ_step hZ (by omega)) hz) (cwV 1 hts (gwV a45 a46 a47 a18 a48) rfl rfl rfl (by decide +kernel) ⟨by decide, by decide⟩) (gc_preV0 hK hP hD hS hA hE rfl rfl rfl) rfl rfl hl.1 rfl (lv_room (Nat.le_of_ble_eq_true rfl)) dX0_takeStep_31 ⟨by decide, by decide⟩) hD hS hA (fun v2 sg4 H locs hp5 hP hD hS => ?_)
    obtain ⟨rfl, hZ2⟩ := hp5
    refine W.eq (g2 := F0 m 34 ls []) rfl ?_
    exact hret _ _ _ _ _ hP hS dX0_takeStep_34 (⟨rfl, by rw [stepP_f (by omega)]; exact hZ2⟩)
  · have hc9 : ¬ (a.1 < yLim Y) := fun q => hc9 ((nI_ltI (a := a.1) (b := yLim Y) (by omega) (by omega)).mpr q)
    refine lv_aload_n hx hb dX0_takeStep_11 rfl (lv_at hl 0 rfl) ?_
    refine lv_iconst (v := (nI 1)) hx hb dX0_takeStep_12 (by decide) ?_
    refine gw_put (C := RX0) (T := TX0) (N := 15) (ty := .boolean) hx hb hts inwX0 tyX0 tyX0_ok nmX0 hown hK hP hD hS 0 11 rfl rfl rfl (by decide) (hts _ a49) (fun _ h9 => h9) rfl (by decide +kernel) rfl rfl dX0_takeStep_13 (fun H locs hP hD hS => ?_)
    obtain ⟨sg8, esg8⟩ : ∃ z : Nat → Nat → Int32, z = gw_u sg0 0 (upd (sg0 0) 11 (nI 1)) := ⟨_, rfl⟩
    rw [← esg8] at hP hD
    exact hret _ _ _ _ _ hP hS dX0_takeStep_16 (⟨rfl, by rw [stepP_t (by omega), esg8]; exact EZ_spent hZ⟩)
abbrev rmf_X0_tell0 : Room := { frames := 15, cells := 0, slots := 0, locals := 322 }
set_option maxRecDepth 100000 in
set_option maxHeartbeats 4000000 in
theorem m_f_X0_tell0 (l : Launch) (hl9 : l.stackTraces = false) (D : va_G) (cI : ClassId) (cJ : ClassId × ClassId) (ad : Nat → Nat) (sg0 : Nat → Nat → Int32) (sz : Nat) (z : Nat → Nat → Int32) (Y : YT) (pl : Nat → Nat) (a : RS) (hZ : EZ z Y pl a sg0) (hz : ∀ q : Nat, 0 ≤ q → pl q = 0) : gc_M l yX0_tellPatternsFrom wsX0_tellPatternsFrom rmf_X0_tell0 D vwCl (tyS cI cJ) cI cJ gxT gxN SS [.ref (ad 0), .int (nI 0)] ad sg0 sz 0 0 (fun v sg2 => v = none ∧ EZ z Y pl (ySrch Y (yN Y - 0) 0 pl a) sg2) := by
  refine gc_Mv_of (cc := cX0_tellPatternsFrom) (maxL := 3) (by decide) rfl (Nat.le_of_ble_eq_true rfl) ?_
  intro p e s m below meth c A ls Q hin hE hret
  obtain ⟨⟨hx, hb, hml, hown, hts⟩, -, hlocks, -, hA, hP, hK, hD, hS, hl⟩ := hin
  have hts : ∀ w ∈ wsAll, w.before ([.ref (ad 0), .int (nI 0)] : List Value).toArray s = true := fun w h => hts w (List.mem_cons_of_mem _ h)
  have hl : lv_has ls 3 [(0, .ref (ad 0)), (1, .int (nI 0))] := hl
  have hN6 := hZ.1.1.1.1
  have c29 : ∀ (n9 : Nat) (i : Nat) (a9 : RS) (sg : Nat → Nat → Int32) (H : Heap) (locs : List Loc) (ls : Array Slot), 13 - i = n9 → 1 ≤ i → i ≤ 13 → 0 < yN Y → (TLP z Y pl 0 i (ySrch Y (yN Y - 0) 0 pl a) a9 sg) → va_P D vwCl (gw cI cJ ad sg SS) H → va_D A (gw cI cJ ad sg SS) → va_S A s.heap H locs → lv_has ls 3 [(2, .int (nI i)), (0, .ref (ad 0)), (1, .int (nI 0))] → W p l e rmf_X0_tell0 s m ([.ref (ad 0), .int (nI 0)] : List Value).toArray below meth c H locs 0 0 Q (F0 m 29 ls []) := by
    intro n9
    induction n9 using Nat.strongRecOn with
    | ind n9 ih =>
    intro i a9 sg H locs ls hn h1 h2 h3 hk hP hD hS hl
    subst hn
    refine lv_iload_n hx hb dX0_tellPatternsFrom_29 rfl (lv_at hl 0 rfl) ?_
    refine lv_bipush (v := (nI 12)) hx hb dX0_tellPatternsFrom_30 (by decide) ?_
    refine lv_icmp_gt (tgt := 69) hx hb dX0_tellPatternsFrom_32 (by decide) (fun hc32 => ?_) (fun hc32 => ?_)
    · have hc32 : 12 < i := (nI_ltI (a := 12) (b := i) (by omega) (by omega)).mp hc32
      refine lv_aload_n hx hb dX0_tellPatternsFrom_69 rfl (lv_at hl 1 rfl) ?_
      refine lv_iload_n hx hb dX0_tellPatternsFrom_70 rfl (lv_at hl 2 rfl) ?_
      refine gc_go0 (va_runV (As := [.int (nI 0)]) (rest := []) ⟨hx, hb, hml, hown, hts⟩ (m_f_X0_takeLogsBack l hl9 D cI cJ ad sg _ 0 (by omega) hk.1.1.1.iv (yCf Y 0) (hk.1.1.1.2.2.2.2.2.1 0 (by decide)).2 (hk.1.1.1.2.2.2.2.2.1 0 (by decide)).1) (cwV 1 hts (gwV a50 a51 a52 a18 a53) rfl rfl rfl (by decide +kernel) ⟨by decide, by decide⟩) (gc_preV0 hK hP hD hS hA hE rfl rfl rfl) rfl rfl hl.1 rfl (lv_room (Nat.le_of_ble_eq_true rfl)) dX0_tellPatternsFrom_71 ⟨by decide, by decide⟩) hD hS hA (fun v1 sg3 H locs hp4 hP hD hS => ?_)
      obtain ⟨rfl, hs7⟩ := hp4
      refine W.eq (g2 := F0 m 74 ls []) rfl ?_
      exact hret _ _ _ _ _ hP hS dX0_tellPatternsFrom_74 (⟨rfl, by rw [hs7]; exact TLP_out hk (by decide) (hz 0 (by omega)) (by first | exact Or.inl (by omega) | exact Or.inr (Or.inl (fun q9 => hc39 (hk.1.1.2.2.2.2.2.1.trans (b2_0.mpr q9)))) | exact Or.inr (Or.inr hft))⟩)
    · have hc32 : ¬ (12 < i) := fun q => hc32 ((nI_ltI (a := 12) (b := i) (by omega) (by omega)).mpr q)
      refine lv_aload_n hx hb dX0_tellPatternsFrom_35 rfl (lv_at hl 1 rfl) ?_
      refine gw_geti (C := RX0) (T := TX0) (N := 15) hx hb hts inwX0 hown hK hP 0 11 rfl rfl rfl (by decide) (hts _ a49) (fun _ h9 => h9) dX0_tellPatternsFrom_36 ?_
      refine lv_if_ne (tgt := 69) hx hb dX0_tellPatternsFrom_39 (by decide) (fun hc39 => ?_) (fun hc39 => ?_)
      · refine lv_aload_n hx hb dX0_tellPatternsFrom_69 rfl (lv_at hl 1 rfl) ?_
        refine lv_iload_n hx hb dX0_tellPatternsFrom_70 rfl (lv_at hl 2 rfl) ?_
        refine gc_go0 (va_runV (As := [.int (nI 0)]) (rest := []) ⟨hx, hb, hml, hown, hts⟩ (m_f_X0_takeLogsBack l hl9 D cI cJ ad sg _ 0 (by omega) hk.1.1.1.iv (yCf Y 0) (hk.1.1.1.2.2.2.2.2.1 0 (by decide)).2 (hk.1.1.1.2.2.2.2.2.1 0 (by decide)).1) (cwV 1 hts (gwV a50 a51 a52 a18 a53) rfl rfl rfl (by decide +kernel) ⟨by decide, by decide⟩) (gc_preV0 hK hP hD hS hA hE rfl rfl rfl) rfl rfl hl.1 rfl (lv_room (Nat.le_of_ble_eq_true rfl)) dX0_tellPatternsFrom_71 ⟨by decide, by decide⟩) hD hS hA (fun v7 sg9 H locs hp10 hP hD hS => ?_)
        obtain ⟨rfl, hs7⟩ := hp10
        refine W.eq (g2 := F0 m 74 ls []) rfl ?_
        exact hret _ _ _ _ _ hP hS dX0_tellPatternsFrom_74 (⟨rfl, by rw [hs7]; exact TLP_out hk (by decide) (hz 0 (by omega)) (by first | exact Or.inl (by omega) | exact Or.inr (Or.inl (fun q9 => hc39 (hk.1.1.2.2.2.2.2.1.trans (b2_0.mpr q9)))) | exact Or.inr (Or.inr hft))⟩)
      · refine lv_aload_n hx hb dX0_tellPatternsFrom_42 rfl (lv_at hl 1 rfl) ?_
        refine lv_iload_n hx hb dX0_tellPatternsFrom_43 rfl (lv_at hl 2 rfl) ?_
        refine gc_go0 (va_runV (As := [.int (nI 0)]) (rest := []) ⟨hx, hb, hml, hown, hts⟩ (m_f_X0_oneLogMoreFits l hl9 D cI cJ ad sg _ 0 (by omega) hk.1.1.1.iv (yCf Y 0) (hk.1.1.1.2.2.2.2.2.1 0 (by decide)).2 (hk.1.1.1.2.2.2.2.2.1 0 (by decide)).1) (cwV 1 hts (gwV a54 a55 a56 a18 a57) rfl rfl rfl (by decide +kernel) ⟨by decide, by decide⟩) (gc_preV0 hK hP hD hS hA hE rfl rfl rfl) rfl rfl hl.1 rfl (lv_room (Nat.le_of_ble_eq_true rfl)) dX0_tellPatternsFrom_44 ⟨by decide, by decide⟩) hD hS hA (fun v13 sg15 H locs hp16 hP hD hS => ?_)
        obtain ⟨hs9, hp9⟩ := hp16
        rw [hs9] at hP hD
        rcases hp9 with ⟨rfl, hft⟩ | ⟨rfl, hft⟩
        · refine W.eq (g2 := F0 m 47 ls [.int (nI 1)]) rfl ?_
          refine lv_if_ne (tgt := 53) hx hb dX0_tellPatternsFrom_47 (by decide) (fun hc19 => ?_) (fun hc19 => ?_)
          · refine lv_aload_n hx hb dX0_tellPatternsFrom_53 rfl (lv_at hl 1 rfl) ?_
            refine lv_iload_n hx hb dX0_tellPatternsFrom_54 rfl (lv_at hl 2 rfl) ?_
            refine gc_go0 (va_runV (As := [.int (nI 0)]) (rest := []) ⟨hx, hb, hml, hown, hts⟩ (m_f_X0_addLog l hl9 D cI cJ ad sg _ 0 (by omega) hk.1.1.1.iv (yCf Y 0) (hk.1.1.1.2.2.2.2.2.1 0 (by decide)).2 (hk.1.1.1.2.2.2.2.2.1 0 (by decide)).1) (cwV 1 hts (gwV a58 a59 a60 a18 a61) rfl rfl rfl (by decide +kernel) ⟨by decide, by decide⟩) (gc_preV0 hK hP hD hS hA hE rfl rfl rfl) rfl rfl hl.1 rfl (lv_room (Nat.le_of_ble_eq_true rfl)) dX0_tellPatternsFrom_55 ⟨by decide, by decide⟩) hD hS hA (fun v20 sg22 H locs hp23 hP hD hS => ?_)
            obtain ⟨rfl, hs8⟩ := hp23
            have hZ3 := TLP_more hk (by decide) h1 (by omega) hft
            rw [← hs8] at hZ3
            refine W.eq (g2 := F0 m 58 ls []) rfl ?_
            refine lv_aload_n hx hb dX0_tellPatternsFrom_58 rfl (lv_at hl 1 rfl) ?_
            refine lv_iload_n hx hb dX0_tellPatternsFrom_59 rfl (lv_at hl 2 rfl) ?_
            refine gc_go0 (va_runV (As := [.int (nI 0)]) (rest := []) ⟨hx, hb, hml, hown, hts⟩ (m_f_X0_step0 l hl9 D cI cJ ad sg22 _  z Y (pu pl 0 i) a9 hZ3 (fun q h => (pu_n pl _ (show q ≠ 0 by omega)).trans (hz q (by omega)))) (cwV 1 hts (gwV a62 a63 a64 a18 a65) rfl rfl rfl (by decide +kernel) ⟨by decide, by decide⟩) (gc_preV0 hK hP hD hS hA hE rfl rfl rfl) rfl rfl hl.1 rfl (lv_room (Nat.le_of_ble_eq_true rfl)) dX0_tellPatternsFrom_60 ⟨by decide, by decide⟩) hD hS hA (fun v26 sg28 H locs hp29 hP hD hS => ?_)
            obtain ⟨rfl, hZ4⟩ := hp29
            refine W.eq (g2 := F0 m 63 ls []) rfl ?_
            refine lv_iinc (k := 0) (v := (nI (i + 1))) (lv' := [(2, .int (nI (i + 1))), (0, .ref (ad 0)), (1, .int (nI 0))]) hx hb dX0_tellPatternsFrom_63 hl rfl (nI_1 _) (by decide) rfl (fun ls hl => ?_)
            refine lv_goto (tgt := 29) hx hb dX0_tellPatternsFrom_66 (by decide) ?_
            exact ih _ (by omega) (i + 1) _ _ _ _ _ rfl (by omega) (by omega) (by omega) (TLP_next hk (by decide) h1 (by omega) (b2_0.mp (hk.1.1.2.2.2.2.2.1.symm.trans hc39)) hft rfl hZ4) hP hD hS (lv_sub hl [0, 1, 2] rfl)
          · exact absurd hc19 (by decide)
        · refine W.eq (g2 := F0 m 47 ls [.int (nI 0)]) rfl ?_
          refine lv_if_ne (tgt := 53) hx hb dX0_tellPatternsFrom_47 (by decide) (fun hc32 => ?_) (fun hc32 => ?_)
          · exact absurd hc32 (by decide)
          · refine lv_goto (tgt := 69) hx hb dX0_tellPatternsFrom_50 (by decide) ?_
            refine lv_aload_n hx hb dX0_tellPatternsFrom_69 rfl (lv_at hl 1 rfl) ?_
            refine lv_iload_n hx hb dX0_tellPatternsFrom_70 rfl (lv_at hl 2 rfl) ?_
            refine gc_go0 (va_runV (As := [.int (nI 0)]) (rest := []) ⟨hx, hb, hml, hown, hts⟩ (m_f_X0_takeLogsBack l hl9 D cI cJ ad sg _ 0 (by omega) hk.1.1.1.iv (yCf Y 0) (hk.1.1.1.2.2.2.2.2.1 0 (by decide)).2 (hk.1.1.1.2.2.2.2.2.1 0 (by decide)).1) (cwV 1 hts (gwV a50 a51 a52 a18 a53) rfl rfl rfl (by decide +kernel) ⟨by decide, by decide⟩) (gc_preV0 hK hP hD hS hA hE rfl rfl rfl) rfl rfl hl.1 rfl (lv_room (Nat.le_of_ble_eq_true rfl)) dX0_tellPatternsFrom_71 ⟨by decide, by decide⟩) hD hS hA (fun v33 sg35 H locs hp36 hP hD hS => ?_)
            obtain ⟨rfl, hs7⟩ := hp36
            refine W.eq (g2 := F0 m 74 ls []) rfl ?_
            exact hret _ _ _ _ _ hP hS dX0_tellPatternsFrom_74 (⟨rfl, by rw [hs7]; exact TLP_out hk (by decide) (hz 0 (by omega)) (by first | exact Or.inl (by omega) | exact Or.inr (Or.inl (fun q9 => hc39 (hk.1.1.2.2.2.2.2.1.trans (b2_0.mpr q9)))) | exact Or.inr (Or.inr hft))⟩)
  refine lv_iload_n hx hb dX0_tellPatternsFrom_0 rfl (lv_at hl 1 rfl) ?_
  refine lv_aload_n hx hb dX0_tellPatternsFrom_1 rfl (lv_at hl 0 rfl) ?_
  refine gw_getr (C := RX0) (T := TX0) (N := 15) hx hb hts inwX0 hown hK hP 0 0 8 rfl rfl rfl (by decide) (hts _ a6) (fun _ h9 => h9) dX0_tellPatternsFrom_2 ?_
  refine gw_getiN (C := RX1) (T := TX1) (N := 12) hx hb hts inwX1 hown hK hP 8 9 rfl rfl rfl (by decide) (hE.nest _ (.fieldLinkNest RX0 81 RX1 "patterns" "I" RX2) (by decide +kernel) rfl) (fun _ h9 => h9) dX0_tellPatternsFrom_5 ?_
  refine gw_top (y := (nI (yN Y))) (hZ.1.1.1.2) ?_
  refine lv_icmp_ge (tgt := 17) hx hb dX0_tellPatternsFrom_8 (by decide) (fun hc9 => ?_) (fun hc9 => ?_)
  · have hc9 : yN Y ≤ 0 := (nI_leI (a := yN Y) (b := 0) (by omega) (by omega)).mp hc9
    refine lv_aload_n hx hb dX0_tellPatternsFrom_17 rfl (lv_at hl 0 rfl) ?_
    refine gc_go0 (va_runV (As := []) (rest := []) ⟨hx, hb, hml, hown, hts⟩ (m_f_X0_lookAtPlan l hl9 D cI cJ ad sg0 _  hZ.1.1.iv) (cwV 0 hts (gwV a39 a40 a41 a18 a42) rfl rfl rfl (by decide +kernel) ⟨by decide, by decide⟩) (gc_preV0 hK hP hD hS hA hE rfl rfl rfl) rfl rfl hl.1 rfl (lv_room (Nat.le_of_ble_eq_true rfl)) dX0_tellPatternsFrom_18 ⟨by decide, by decide⟩) hD hS hA (fun v39 sg41 H locs hp42 hP hD hS => ?_)
    obtain ⟨rfl, hs9⟩ := hp42
    refine W.eq (g2 := F0 m 21 ls []) rfl ?_
    exact hret _ _ _ _ _ hP hS dX0_tellPatternsFrom_21 (⟨rfl, by rw [ySrch_0 (by omega), hs9]; exact EZ_look hZ⟩)
  · have hc9 : ¬ (yN Y ≤ 0) := fun q => hc9 ((nI_leI (a := yN Y) (b := 0) (by omega) (by omega)).mpr q)
    refine lv_iload_n hx hb dX0_tellPatternsFrom_11 rfl (lv_at hl 1 rfl) ?_
    refine lv_bipush (v := (nI 6)) hx hb dX0_tellPatternsFrom_12 (by decide) ?_
    refine lv_icmp_lt (tgt := 22) hx hb dX0_tellPatternsFrom_14 (by decide) (fun hc45 => ?_) (fun hc45 => ?_)
    · refine lv_aload_n hx hb dX0_tellPatternsFrom_22 rfl (lv_at hl 0 rfl) ?_
      refine lv_iload_n hx hb dX0_tellPatternsFrom_23 rfl (lv_at hl 1 rfl) ?_
      refine gc_go0 (va_runV (As := [.int (nI 0)]) (rest := []) ⟨hx, hb, hml, hown, hts⟩ (m_f_X0_step0 l hl9 D cI cJ ad sg0 _  z Y pl a hZ (fun q h => hz q (by omega))) (cwV 1 hts (gwV a62 a63 a64 a18 a65) rfl rfl rfl (by decide +kernel) ⟨by decide, by decide⟩) (gc_preV0 hK hP hD hS hA hE rfl rfl rfl) rfl rfl hl.1 rfl (lv_room (Nat.le_of_ble_eq_true rfl)) dX0_tellPatternsFrom_24 ⟨by decide, by decide⟩) hD hS hA (fun v46 sg48 H locs hp49 hP hD hS => ?_)
      obtain ⟨rfl, hZ2⟩ := hp49
      refine W.eq (g2 := F0 m 27 ls []) rfl ?_
      refine lv_iconst (v := (nI 1)) hx hb dX0_tellPatternsFrom_27 (by decide) ?_
      refine lv_istore_n (lv' := [(2, .int (nI 1)), (0, .ref (ad 0)), (1, .int (nI 0))]) hx hb dX0_tellPatternsFrom_28 rfl hl (by decide) rfl (fun ls hl => ?_)
      exact c29 _ 1 _ _ _ _ _ rfl (by omega) (by omega) (by omega) (TLP_start (hz 0 (by omega)) (by omega) rfl hZ2) hP hD hS (lv_sub hl [0, 1, 2] rfl)
    · exact absurd hc45 (by decide)
abbrev rmf_X0_goThroughPlans : Room := { frames := 16, cells := 0, slots := 0, locals := 344 }
set_option maxRecDepth 100000 in
set_option maxHeartbeats 4000000 in
theorem m_f_X0_goThroughPlans (l : Launch) (hl9 : l.stackTraces = false) (D : va_G) (cI : ClassId) (cJ : ClassId × ClassId) (ad : Nat → Nat) (sg0 : Nat → Nat → Int32) (sz : Nat) (lim : Nat) (hlim : lim < 20001) (x2 : Int32) (Y : YT) (hYd : EY Y sg0) (hyl : yLim Y = lim) (hQ : EQ Y x2 sg0) : gc_M l yX0_goThroughPlans wsX0_goThroughPlans rmf_X0_goThroughPlans D vwCl (tyS cI cJ) cI cJ gxT gxN SS [.ref (ad 0), .int (nI lim), .int x2] ad sg0 sz 0 0 (fun v sg2 => v = none ∧ EZ sg0 Y z0 (ySrch Y (yN Y) 0 z0 (0, false, false, sg0 0 13, sg0 7)) sg2) := by
  refine gc_Mv_of (cc := cX0_goThroughPlans) (maxL := 3) (by decide) rfl (Nat.le_of_ble_eq_true rfl) ?_
  intro p e s m below meth c A ls Q hin hE hret
  obtain ⟨⟨hx, hb, hml, hown, hts⟩, -, hlocks, -, hA, hP, hK, hD, hS, hl⟩ := hin
  have hts : ∀ w ∈ wsAll, w.before ([.ref (ad 0), .int (nI lim), .int x2] : List Value).toArray s = true := fun w h => hts w (List.mem_cons_of_mem _ h)
  have hl : lv_has ls 3 [(0, .ref (ad 0)), (1, .int (nI lim)), (2, .int x2)] := hl
  have hlm : yLim Y ≤ 20000 := by omega
  refine lv_aload_n hx hb dX0_goThroughPlans_0 rfl (lv_at hl 0 rfl) ?_
  refine gc_go0 (va_runV (As := []) (rest := []) ⟨hx, hb, hml, hown, hts⟩ (m_f_X0_startWithEmptyPlan l hl9 D cI cJ ad sg0 _  hYd.iv) (cwV 0 hts (gwV a66 a67 a68 a18 a69) rfl rfl rfl (by decide +kernel) ⟨by decide, by decide⟩) (gc_preV0 hK hP hD hS hA hE rfl rfl rfl) rfl rfl hl.1 rfl (lv_room (Nat.le_of_ble_eq_true rfl)) dX0_goThroughPlans_1 ⟨by decide, by decide⟩) hD hS hA (fun v1 sg3 H locs hp4 hP hD hS => ?_)
  obtain ⟨rfl, hq1⟩ := hp4
  have hI1 : IvG 8 9 11 sg3 := by rw [hq1]; exact IvG.cong9 hYd.iv (FE_n _ 8 (by decide) (by decide) (by decide) (by decide)) (FE_n _ 11 (by decide) (by decide) (by decide) (by decide))
  refine W.eq (g2 := F0 m 4 ls []) rfl ?_
  refine lv_aload_n hx hb dX0_goThroughPlans_4 rfl (lv_at hl 0 rfl) ?_
  refine lv_iload_n hx hb dX0_goThroughPlans_5 rfl (lv_at hl 2 rfl) ?_
  refine gc_go0 (va_runV (As := [.int x2]) (rest := []) ⟨hx, hb, hml, hown, hts⟩ (m_f_X0_takeOrders l hl9 D cI cJ ad sg3 _ x2 hI1) (cwV 1 hts (gwV a70 a71 a72 a18 a73) rfl rfl rfl (by decide +kernel) ⟨by decide, by decide⟩) (gc_preV0 hK hP hD hS hA hE rfl rfl rfl) rfl rfl hl.1 rfl (lv_room (Nat.le_of_ble_eq_true rfl)) dX0_goThroughPlans_6 ⟨by decide, by decide⟩) hD hS hA (fun v7 sg9 H locs hp10 hP hD hS => ?_)
  obtain ⟨rfl, hq2⟩ := hp10
  refine W.eq (g2 := F0 m 9 ls []) rfl ?_
  refine lv_aload_n hx hb dX0_goThroughPlans_9 rfl (lv_at hl 0 rfl) ?_
  refine lv_iload_n hx hb dX0_goThroughPlans_10 rfl (lv_at hl 1 rfl) ?_
  refine gw_put (C := RX0) (T := TX0) (N := 15) (ty := .int) hx hb hts inwX0 tyX0 tyX0_ok nmX0 hown hK hP hD hS 0 9 rfl rfl rfl (by decide) (hts _ a44) (fun _ h9 => h9) rfl (by decide +kernel) rfl rfl dX0_goThroughPlans_11 (fun H locs hP hD hS => ?_)
  obtain ⟨sg13, esg13⟩ : ∃ z : Nat → Nat → Int32, z = gw_u sg9 0 (upd (sg9 0) 9 (nI lim)) := ⟨_, rfl⟩
  rw [← esg13] at hP hD
  refine lv_aload_n hx hb dX0_goThroughPlans_14 rfl (lv_at hl 0 rfl) ?_
  refine lv_iconst (v := (nI 0)) hx hb dX0_goThroughPlans_15 (by decide) ?_
  refine gw_put (C := RX0) (T := TX0) (N := 15) (ty := .int) hx hb hts inwX0 tyX0 tyX0_ok nmX0 hown hK hP hD hS 0 10 rfl rfl rfl (by decide) (hts _ a43) (fun _ h9 => h9) rfl (by decide +kernel) rfl rfl dX0_goThroughPlans_16 (fun H locs hP hD hS => ?_)
  obtain ⟨sg14, esg14⟩ : ∃ z : Nat → Nat → Int32, z = gw_u sg13 0 (upd (sg13 0) 10 (nI 0)) := ⟨_, rfl⟩
  rw [← esg14] at hP hD
  refine lv_aload_n hx hb dX0_goThroughPlans_19 rfl (lv_at hl 0 rfl) ?_
  refine lv_iconst (v := (nI 0)) hx hb dX0_goThroughPlans_20 (by decide) ?_
  refine gw_put (C := RX0) (T := TX0) (N := 15) (ty := .boolean) hx hb hts inwX0 tyX0 tyX0_ok nmX0 hown hK hP hD hS 0 11 rfl rfl rfl (by decide) (hts _ a49) (fun _ h9 => h9) rfl (by decide +kernel) rfl rfl dX0_goThroughPlans_21 (fun H locs hP hD hS => ?_)
  obtain ⟨sg15, esg15⟩ : ∃ z : Nat → Nat → Int32, z = gw_u sg14 0 (upd (sg14 0) 11 (nI 0)) := ⟨_, rfl⟩
  rw [← esg15] at hP hD
  refine lv_aload_n hx hb dX0_goThroughPlans_24 rfl (lv_at hl 0 rfl) ?_
  refine lv_iconst (v := (nI 0)) hx hb dX0_goThroughPlans_25 (by decide) ?_
  refine gw_put (C := RX0) (T := TX0) (N := 15) (ty := .boolean) hx hb hts inwX0 tyX0 tyX0_ok nmX0 hown hK hP hD hS 0 12 rfl rfl rfl (by decide) (hts _ a24) (fun _ h9 => h9) rfl (by decide +kernel) rfl rfl dX0_goThroughPlans_26 (fun H locs hP hD hS => ?_)
  obtain ⟨sg16, esg16⟩ : ∃ z : Nat → Nat → Int32, z = gw_u sg15 0 (upd (sg15 0) 12 (nI 0)) := ⟨_, rfl⟩
  rw [← esg16] at hP hD
  refine lv_aload_n hx hb dX0_goThroughPlans_29 rfl (lv_at hl 0 rfl) ?_
  refine lv_iconst (v := (nI 0)) hx hb dX0_goThroughPlans_30 (by decide) ?_
  refine gc_go0 (va_runV (As := [.int (nI 0)]) (rest := []) ⟨hx, hb, hml, hown, hts⟩ (m_f_X0_tell0 l hl9 D cI cJ ad sg16 _  sg0 Y z0 (0, false, false, sg0 0 13, sg0 7) (EZ_start (x := x2) hYd hlm hQ (fun k9 h9 => by simp [esg16, esg15, esg14, esg13, hq2, hq1, gw_u, upd, h9]) (fun j9 h9 => by simp [esg16, esg15, esg14, esg13, hq2, hq1, gw_u, upd, gO, show j9 ≠ 9 by omega, show j9 ≠ 10 by omega, show j9 ≠ 11 by omega, show j9 ≠ 12 by omega]) (by simp [esg16, esg15, esg14, esg13, hq2, hq1, gw_u, upd, hyl]) (by simp [esg16, esg15, esg14, esg13, hq2, hq1, gw_u, upd]) (by simp [esg16, esg15, esg14, esg13, hq2, hq1, gw_u, upd]) (by simp [esg16, esg15, esg14, esg13, hq2, hq1, gw_u, upd]) (by simp [esg16, esg15, esg14, esg13, hq2, hq1, gw_u, upd, gO, FE_0])) (fun _ _ => rfl)) (cwV 1 hts (gwV a45 a46 a47 a18 a48) rfl rfl rfl (by decide +kernel) ⟨by decide, by decide⟩) (gc_preV0 hK hP hD hS hA hE rfl rfl rfl) rfl rfl hl.1 rfl (lv_room (Nat.le_of_ble_eq_true rfl)) dX0_goThroughPlans_31 ⟨by decide, by decide⟩) hD hS hA (fun v17 sg19 H locs hp20 hP hD hS => ?_)
  obtain ⟨rfl, hZ2⟩ := hp20
  refine W.eq (g2 := F0 m 34 ls []) rfl ?_
  exact hret _ _ _ _ _ hP hS dX0_goThroughPlans_34 (⟨rfl, hZ2⟩)
